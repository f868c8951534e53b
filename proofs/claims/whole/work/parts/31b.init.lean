theorem ih_X1_init_X1 : ∀ w ∈ wsX10, w ∈ wsX1_init := by decide +kernel
set_option maxHeartbeats 4000000 in
set_option maxRecDepth 100000 in
theorem c_X1_init (l : Launch) (D : va_G) (cI cL cZ cO : ClassId) (z0 sz : Nat) : Met l yX1_init wsX1_init ({ frames := 1, cells := 1, slots := 9, locals := 12 }) (va_Pc [.ref z0] (pn_Pi D cI cL cZ cO sz pn_Zt [(z0, .inr (1, [.null]))])) (va_Qv (fun _ : Nat => True) (fun (u : Nat) t => va_P D vwCl [(z0, .inr (1, [.ref u])), (u, .inl (cI, 9, .inl (fun _ => 0)))] t.heap ∧ va_D (va_A [(z0, .inr (1, [.null]))] sz) [(z0, .inr (1, [.ref u])), (u, .inl (cI, 9, .inl (fun _ => 0)))]) (va_A [(z0, .inr (1, [.null]))] sz)) 1 9 (va_A [(z0, .inr (1, [.null]))] sz) := by
  refine pn_mkI (by decide) rfl rfl (Nat.le_of_ble_eq_true rfl) ?_
  intro p e s m below meth c ls hx hb hr hml hown hts hlocks hin hK hZ hsz hP hD hl
  have hown : s.vm.findClass RX1 = some m.cls := hown
  subst hsz
  generalize hAe : va_A [(z0, .inr (1, [.null]))] s.heap.size = A at hD ⊢
  have hA : ∀ q : Nat, s.heap.size ≤ q → A q := fun q h => by rw [← hAe]; exact Or.inr h
  have hS : va_S A s.heap s.heap [] := va_S.rf
  have hl : lv_has ls 1 [(0, .ref z0)] := hl
  refine lv_aload_n hx hb dX1_init_0 rfl (lv_at hl 0 rfl) ?_
  refine W.objInit hx hb hown (hts (.methodLink RX1 3 objectInit) (by decide +kernel)) (hts (.instanceMethod objectInit) (by decide +kernel)) (hts (.code objectInit ⟨#[0xb1]⟩ 1 none) (by decide +kernel)) rfl (by rw [hml]; exact hl.1) rfl dX1_init_1 (Nat.le_of_ble_eq_true rfl) (Nat.le_of_ble_eq_true rfl) ?_
  refine W.eq (g2 := F0 m 4 ls []) rfl ?_
  refine lv_aload_n hx hb dX1_init_4 rfl (lv_at hl 0 rfl) ?_
  refine lv_bipush (v := nI 9) hx hb dX1_init_5 (by decide) ?_
  refine pn_newI hx hb (hts (.arrayClass .int) (by decide +kernel)) hK.1 0 rfl hP hD hS hA (n := 9) (by decide) (Nat.le_of_ble_eq_true rfl) (Nat.le_of_ble_eq_true rfl) dX1_init_7 (fun nq1 H hP hD hS => ?_)
  have hP : va_P D vwCl [(z0, .inr (1, [.null])), (nq1, .inl (cI, 9, .inl (fun _ => 0)))] H := hP
  have hD : va_D A [(z0, .inr (1, [.null])), (nq1, .inl (cI, 9, .inl (fun _ => 0)))] := hD
  refine W.widen (k := 1) (n := 9) (Nat.le_of_ble_eq_true rfl) (Nat.le_of_ble_eq_true rfl) ?_
  refine va_putF (D := D) (ci := 1) (v := .ref nq1) (ty := (.array .int)) (C := RX1) (T := TX1) (N := 1) hx hb hts ih_X1_init_X1 tyX1 tyX1_ok nmX1 hown hK.1 hP hD hS 0 rfl rfl 0 (by decide) (hts (.fieldLink RX1 9 "ParishNames$Speller" "row" "[I") (by decide +kernel)) (fun _ h9 => h9) rfl hin rfl (by decide +kernel) rfl rfl (Nat.le_of_ble_eq_true rfl) dX1_init_9 (fun H locs hP hD hS => ?_)
  have hP : va_P D vwCl [(z0, .inr (1, [.ref nq1])), (nq1, .inl (cI, 9, .inl (fun _ => 0)))] H := hP
  have hD : va_D A [(z0, .inr (1, [.ref nq1])), (nq1, .inl (cI, 9, .inl (fun _ => 0)))] := hD
  have hAe := hAe
  exact W.vret hx hb hr (fun t ht hW => ⟨⟨(nq1), rfl, trivial, pn_atH ht hP, by first | exact hD | (subst hsz; exact hD)⟩, hS.F ht⟩) hS.2.2 dX1_init_12 hlocks
