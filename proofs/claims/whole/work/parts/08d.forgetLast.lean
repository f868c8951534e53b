theorem ih_X0_forgetLast_X0 : ∀ w ∈ wsX00, w ∈ wsX0_forgetLast := by decide +kernel
set_option maxHeartbeats 4000000 in
set_option maxRecDepth 100000 in
theorem c_X0_forgetLast (l : Launch) (D : va_G) (cI cL cZ cO : ClassId) (h0 q1 q2 q3 q4 q5 q6 : Nat) (K Y P S O : Nat → Int32) (N : Nat → Int64) (n F : Nat) (hN : [h0, q1, q2, q3, q4, q5, q6].Nodup) (hn : n ≤ 30) (h1 : 1 ≤ n) (hF : F ≤ 16) (hF1 : K (n - 1) = nI 1 → 1 ≤ F) : Met l yX0_forgetLast wsX0_forgetLast ({ frames := 0, cells := 0, slots := 0, locals := 0 }) (va_Pc [.ref h0] (pn_Pr D cI cL cZ cO [(h0, .inr (0, [.ref q1, .ref q2, .ref q3, .ref q4, .ref q5, .ref q6, .int (nI n), .int (nI F)])), (q1, .inl (cI, 30, .inl K)), (q2, .inl (cI, 30, .inl Y)), (q3, .inl (cI, 30, .inl P)), (q4, .inl (cI, 30, .inl S)), (q5, .inl (cI, 30, .inl O)), (q6, .inl (cL, 30, .inr (.inl N)))])) (va_Qv (fun (_ : Unit) => True) (fun (_ : Unit) t => va_P D vwCl [(h0, .inr (0, [.ref q1, .ref q2, .ref q3, .ref q4, .ref q5, .ref q6, .int (nI (n - 1)), .int (nI (if K (n - 1) = nI 1 then F - 1 else F))])), (q1, .inl (cI, 30, .inl K)), (q2, .inl (cI, 30, .inl Y)), (q3, .inl (cI, 30, .inl P)), (q4, .inl (cI, 30, .inl S)), (q5, .inl (cI, 30, .inl O)), (q6, .inl (cL, 30, .inr (.inl N)))] t.heap) (pn_In [h0, q1, q2, q3, q4, q5, q6])) 0 0 (pn_In [h0, q1, q2, q3, q4, q5, q6]) := by
  refine pn_mk (by decide) rfl (Nat.le_of_ble_eq_true rfl) ?_
  intro p e s m below meth c ls hx hb hr hml hown hts hlocks hK hP hl
  have hown : s.vm.findClass RX0 = some m.cls := hown
  have hS : va_S (pn_In [h0, q1, q2, q3, q4, q5, q6]) s.heap s.heap [] := va_S.rf
  have hl : lv_has ls 1 [(0, .ref h0)] := hl
  refine lv_aload_n hx hb dX0_forgetLast_0 rfl (lv_at hl 0 rfl) ?_
  refine va_get (D := D) (ci := 0) (v := .int (nI n)) (C := RX0) (T := TX0) (N := 8) hx hb hts ih_X0_forgetLast_X0 hown hK.1 hP 0 rfl rfl 6 (by decide) (hts (.fieldLink RX0 31 "ParishNames$Chronicle" "told" "I") (by decide +kernel)) (fun _ h9 => h9) rfl dX0_forgetLast_1 ?_
  refine lv_if_ne (tgt := 8) hx hb dX0_forgetLast_4 (by decide) (fun b4 => ?_) (fun b4 => ?_)
  · have b4 : ¬ n = 0 := fun h => (show ¬ nI n = nI 0 from b4) ((pn_eq (by omega) (by omega)).mpr h)
    refine lv_aload_n hx hb dX0_forgetLast_8 rfl (lv_at hl 0 rfl) ?_
    refine lv_dup hx hb dX0_forgetLast_9 rfl ?_
    refine va_get (D := D) (ci := 0) (v := .int (nI n)) (C := RX0) (T := TX0) (N := 8) hx hb hts ih_X0_forgetLast_X0 hown hK.1 hP 0 rfl rfl 6 (by decide) (hts (.fieldLink RX0 31 "ParishNames$Chronicle" "told" "I") (by decide +kernel)) (fun _ h9 => h9) rfl dX0_forgetLast_10 ?_
    refine lv_iconst (v := (nI 1)) hx hb dX0_forgetLast_13 (by decide) ?_
    refine pn_isub hx hb (by omega) dX0_forgetLast_14 ?_
    refine va_put (D := D) (ci := 0) (v := .int (nI (n - 1))) (ty := .int) (C := RX0) (T := TX0) (N := 8) hx hb hts ih_X0_forgetLast_X0 tyX0 tyX0_ok nmX0 hown hK.1 hP (pn_D hN rfl) hS 0 rfl rfl 6 (by decide) (hts (.fieldLink RX0 31 "ParishNames$Chronicle" "told" "I") (by decide +kernel)) (fun _ h9 => h9) rfl (by decide +kernel) rfl rfl (Nat.le_of_ble_eq_true rfl) dX0_forgetLast_15 (fun H locs hP _ hS => ?_)
    have hP : va_P D vwCl [(h0, .inr (0, [.ref q1, .ref q2, .ref q3, .ref q4, .ref q5, .ref q6, .int (nI (n - 1)), .int (nI F)])), (q1, .inl (cI, 30, .inl K)), (q2, .inl (cI, 30, .inl Y)), (q3, .inl (cI, 30, .inl P)), (q4, .inl (cI, 30, .inl S)), (q5, .inl (cI, 30, .inl O)), (q6, .inl (cL, 30, .inr (.inl N)))] H := hP
    refine lv_aload_n hx hb dX0_forgetLast_18 rfl (lv_at hl 0 rfl) ?_
    refine va_get (D := D) (ci := 0) (v := .ref q1) (C := RX0) (T := TX0) (N := 8) hx hb hts ih_X0_forgetLast_X0 hown hK.1 hP 0 rfl rfl 0 (by decide) (hts (.fieldLink RX0 9 "ParishNames$Chronicle" "kinds" "[I") (by decide +kernel)) (fun _ h9 => h9) rfl dX0_forgetLast_19 ?_
    refine lv_aload_n hx hb dX0_forgetLast_22 rfl (lv_at hl 0 rfl) ?_
    refine va_get (D := D) (ci := 0) (v := .int (nI (n - 1))) (C := RX0) (T := TX0) (N := 8) hx hb hts ih_X0_forgetLast_X0 hown hK.1 hP 0 rfl rfl 6 (by decide) (hts (.fieldLink RX0 31 "ParishNames$Chronicle" "told" "I") (by decide +kernel)) (fun _ h9 => h9) rfl dX0_forgetLast_23 ?_
    refine pn_iald hx hb hK.1 hP 1 0 rfl rfl (i := (n - 1)) (by omega) (Nat.le_of_ble_eq_true rfl) dX0_forgetLast_26 ?_
    refine lv_iconst (v := (nI 1)) hx hb dX0_forgetLast_27 (by decide) ?_
    refine lv_icmp_ne (tgt := 41) hx hb dX0_forgetLast_28 (by decide) (fun b28 => ?_) (fun b28 => ?_)
    · have hP : va_P D vwCl [(h0, .inr (0, [.ref q1, .ref q2, .ref q3, .ref q4, .ref q5, .ref q6, .int (nI (n - 1)), .int (nI (if K (n - 1) = nI 1 then F - 1 else F))])), (q1, .inl (cI, 30, .inl K)), (q2, .inl (cI, 30, .inl Y)), (q3, .inl (cI, 30, .inl P)), (q4, .inl (cI, 30, .inl S)), (q5, .inl (cI, 30, .inl O)), (q6, .inl (cL, 30, .inr (.inl N)))] H := by rw [if_neg (by assumption)]; exact hP
      exact W.vret hx hb hr (fun t ht hW => ⟨⟨(), rfl, trivial, pn_atH ht hP⟩, hS.F ht⟩) hS.2.2 dX0_forgetLast_41 hlocks
    · have hF1 := hF1 b28
      refine lv_aload_n hx hb dX0_forgetLast_31 rfl (lv_at hl 0 rfl) ?_
      refine lv_dup hx hb dX0_forgetLast_32 rfl ?_
      refine va_get (D := D) (ci := 0) (v := .int (nI F)) (C := RX0) (T := TX0) (N := 8) hx hb hts ih_X0_forgetLast_X0 hown hK.1 hP 0 rfl rfl 7 (by decide) (hts (.fieldLink RX0 35 "ParishNames$Chronicle" "founded" "I") (by decide +kernel)) (fun _ h9 => h9) rfl dX0_forgetLast_33 ?_
      refine lv_iconst (v := (nI 1)) hx hb dX0_forgetLast_36 (by decide) ?_
      refine pn_isub hx hb (by omega) dX0_forgetLast_37 ?_
      refine va_put (D := D) (ci := 0) (v := .int (nI (F - 1))) (ty := .int) (C := RX0) (T := TX0) (N := 8) hx hb hts ih_X0_forgetLast_X0 tyX0 tyX0_ok nmX0 hown hK.1 hP (pn_D hN rfl) hS 0 rfl rfl 7 (by decide) (hts (.fieldLink RX0 35 "ParishNames$Chronicle" "founded" "I") (by decide +kernel)) (fun _ h9 => h9) rfl (by decide +kernel) rfl rfl (Nat.le_of_ble_eq_true rfl) dX0_forgetLast_38 (fun H locs hP _ hS => ?_)
      have hP : va_P D vwCl [(h0, .inr (0, [.ref q1, .ref q2, .ref q3, .ref q4, .ref q5, .ref q6, .int (nI (n - 1)), .int (nI (F - 1))])), (q1, .inl (cI, 30, .inl K)), (q2, .inl (cI, 30, .inl Y)), (q3, .inl (cI, 30, .inl P)), (q4, .inl (cI, 30, .inl S)), (q5, .inl (cI, 30, .inl O)), (q6, .inl (cL, 30, .inr (.inl N)))] H := hP
      have hP : va_P D vwCl [(h0, .inr (0, [.ref q1, .ref q2, .ref q3, .ref q4, .ref q5, .ref q6, .int (nI (n - 1)), .int (nI (if K (n - 1) = nI 1 then F - 1 else F))])), (q1, .inl (cI, 30, .inl K)), (q2, .inl (cI, 30, .inl Y)), (q3, .inl (cI, 30, .inl P)), (q4, .inl (cI, 30, .inl S)), (q5, .inl (cI, 30, .inl O)), (q6, .inl (cL, 30, .inr (.inl N)))] H := by rw [if_pos (by assumption)]; exact hP
      exact W.vret hx hb hr (fun t ht hW => ⟨⟨(), rfl, trivial, pn_atH ht hP⟩, hS.F ht⟩) hS.2.2 dX0_forgetLast_41 hlocks
  · have b4 : n = 0 := (pn_eq (by omega) (by omega)).mp (show nI n = nI 0 from b4)
    omega
