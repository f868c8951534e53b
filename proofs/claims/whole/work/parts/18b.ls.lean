set_option maxHeartbeats 4000000 in
set_option maxRecDepth 100000 in
theorem c_X3_laySound (l : Launch) (D : va_G) (cI cL cZ cO : ClassId) (p1 p2 : Nat) (Nf Tf : Nat → Int32) (X : Int64) (hN : [p1, p2].Nodup) (hw : pn_wn X) (hnf : ∀ j, j < pn_len X → Nf j = pn_let X j) : Met l yX3_laySound wsX3_laySound ({ frames := 1, cells := 0, slots := 0, locals := 20 }) (va_Pc [.ref p1, .int (nI (pn_len X)), .ref p2] (pn_Pr D cI cL cZ cO [(p1, .inl (cI, 8, .inl Nf)), (p2, .inl (cI, 4, .inl Tf))])) (va_Qi (fun r (_ : Unit) => r = (nI (pn_lsd (pn_snd X)))) (fun (_ : Unit) t => va_P D vwCl [(p1, .inl (cI, 8, .inl Nf)), (p2, .inl (cI, 4, .inl (pn_layS X Tf)))] t.heap) (pn_In [p1, p2])) 0 0 (pn_In [p1, p2]) := by
  refine pn_mk (by decide) rfl (Nat.le_of_ble_eq_true rfl) ?_
  intro p e s m below meth c ls hx hb hr hml hown hts hlocks hK hP hl
  have hown : s.vm.findClass RX3 = some m.cls := hown
  have hS : va_S (pn_In [p1, p2]) s.heap s.heap [] := va_S.rf
  have hl : lv_has ls 6 [(0, .ref p1), (1, .int (nI (pn_len X))), (2, .ref p2)] := hl
  have h8 := pn_len8 X
  refine lv_iconst (v := (nI 0)) hx hb dX3_laySound_0 (by decide) ?_
  refine lv_istore_n (lv' := [(3, .int (nI 0)), (0, .ref p1), (1, .int (nI (pn_len X))), (2, .ref p2)]) hx hb dX3_laySound_1 rfl hl (by decide) rfl (fun ls hl => ?_)
  refine lv_iconst (v := (nI 0)) hx hb dX3_laySound_2 (by decide) ?_
  refine lv_istore (lv' := [(4, .int (nI 0)), (3, .int (nI 0)), (0, .ref p1), (1, .int (nI (pn_len X))), (2, .ref p2)]) hx hb dX3_laySound_3 hl (by decide) rfl (fun ls hl => ?_)
  have lp5_1 : ∀ (fu : Nat) (ct : Nat) (k : Nat) (Ta : Nat → Int32), pn_len X - k < fu → (k ≤ pn_len X) → (ct ≤ 4) → (ct = pn_sl X k) → (∀ i, i < ct → Ta i = pn_cs (pn_sh X k) i) → (∀ i, ct ≤ i → Ta i = Tf i) → ∀ (H : Heap) (locs : List Loc) (ls : Array Slot), va_P D vwCl [(p1, .inl (cI, 8, .inl Nf)), (p2, .inl (cI, 4, .inl Ta))] H → va_S (pn_In [p1, p2]) s.heap H locs → lv_has ls 6 [(0, .ref p1), (1, .int (nI (pn_len X))), (2, .ref p2), (3, .int (nI ct)), (4, .int (nI k))] → W p l e ({ frames := 1, cells := 0, slots := 0, locals := 20 }) s m (List.toArray [.ref p1, .int (nI (pn_len X)), .ref p2]) below meth c H locs 0 0 (MQ below (va_Qi (fun r (_ : Unit) => r = (nI (pn_lsd (pn_snd X)))) (fun (_ : Unit) t => va_P D vwCl [(p1, .inl (cI, 8, .inl Nf)), (p2, .inl (cI, 4, .inl (pn_layS X Tf)))] t.heap) (pn_In [p1, p2])) (List.toArray [.ref p1, .int (nI (pn_len X)), .ref p2]) s 0 0 (pn_In [p1, p2])) (F0 m 5 ls []) := by
    intro fu
    induction fu with
    | zero => intro ct k Ta hfu; exact absurd hfu (Nat.not_lt_zero _)
    | succ fu ih5_1 =>
      intro ct k Ta hfu hk hc4 hct e1 e2 H locs ls hP hS hl
      refine lv_iload hx hb dX3_laySound_5 (lv_at hl 4 rfl) ?_
      refine lv_iload_n hx hb dX3_laySound_7 rfl (lv_at hl 1 rfl) ?_
      refine lv_icmp_ge (tgt := 63) hx hb dX3_laySound_8 (by decide) (fun b8 => ?_) (fun b8 => ?_)
      · have b8 : (pn_len X) ≤ k := (pn_le (by omega) (by omega)).mp (show nI (pn_len X) ≤ nI k from b8)
        refine lv_iload_n hx hb dX3_laySound_63 rfl (lv_at hl 3 rfl) ?_
        have hend := pn_ls_end hw hk hct e1 (by omega)
        have hP := pn_cgI (q := 1) (g := (pn_layS X Tf)) hP rfl (pn_layS_eq hend e2)
        have hP : va_P D vwCl [(p1, .inl (cI, 8, .inl Nf)), (p2, .inl (cI, 4, .inl (pn_layS X Tf)))] _ := hP
        exact W.iret hx hb hr (fun t ht hW => ⟨⟨_, (), rfl, (congrArg nI hend.1), pn_atH ht hP⟩, hS.F ht⟩) hS.2.2 dX3_laySound_64 hlocks
      · have b8 : ¬ (pn_len X) ≤ k := fun h => (show ¬ nI (pn_len X) ≤ nI k from b8) ((pn_le (by omega) (by omega)).mpr h)
        refine lv_iload_n hx hb dX3_laySound_11 rfl (lv_at hl 3 rfl) ?_
        refine lv_iconst (v := (nI 4)) hx hb dX3_laySound_12 (by decide) ?_
        refine lv_icmp_ge (tgt := 63) hx hb dX3_laySound_13 (by decide) (fun b13 => ?_) (fun b13 => ?_)
        · have b13 : 4 ≤ ct := (pn_le (by omega) (by omega)).mp (show nI 4 ≤ nI ct from b13)
          refine lv_iload_n hx hb dX3_laySound_63 rfl (lv_at hl 3 rfl) ?_
          have hend := pn_ls_end hw hk hct e1 (by omega)
          have hP := pn_cgI (q := 1) (g := (pn_layS X Tf)) hP rfl (pn_layS_eq hend e2)
          have hP : va_P D vwCl [(p1, .inl (cI, 8, .inl Nf)), (p2, .inl (cI, 4, .inl (pn_layS X Tf)))] _ := hP
          exact W.iret hx hb hr (fun t ht hW => ⟨⟨_, (), rfl, (congrArg nI hend.1), pn_atH ht hP⟩, hS.F ht⟩) hS.2.2 dX3_laySound_64 hlocks
        · have b13 : ¬ 4 ≤ ct := fun h => (show ¬ nI 4 ≤ nI ct from b13) ((pn_le (by omega) (by omega)).mpr h)
          refine lv_aload_n hx hb dX3_laySound_16 rfl (lv_at hl 0 rfl) ?_
          refine lv_iload hx hb dX3_laySound_17 (lv_at hl 4 rfl) ?_
          refine pn_iald hx hb hK.1 hP 0 0 rfl rfl (i := k) (by omega) (Nat.le_of_ble_eq_true rfl) dX3_laySound_19 ?_
          refine pn_top (y := (pn_let X k)) (hnf k (by omega)) ?_
          refine pn_roi (w := [(p1, .inl (cI, 8, .inl Nf)), (p2, .inl (cI, 4, .inl Ta))]) hP hS (va_runS (As := [.int (pn_let X k)]) (rest := []) ⟨hx, hb, hml, hown, hts⟩ (c_X3_classOf l D cI cL cZ cO (pn_let X k) (hw.2.1 k (by omega))) (va_cwS 1 hts gX3_laySound_X3_classOf rfl rfl rfl (by decide +kernel) ⟨Nat.le_of_ble_eq_true rfl, Nat.le_of_ble_eq_true rfl⟩) (pn_ps (WS := []) (fun k q h => by simp at h) hK) rfl rfl hl.1 rfl (lv_room (Nat.le_of_ble_eq_true rfl)) dX3_laySound_20 ⟨Nat.le_of_ble_eq_true rfl, Nat.le_of_ble_eq_true rfl⟩) (fun H locs hP hS => ?_)
          refine lv_istore (lv' := [(5, .int (pn_cls (pn_let X k))), (0, .ref p1), (1, .int (nI (pn_len X))), (2, .ref p2), (3, .int (nI ct)), (4, .int (nI k))]) hx hb dX3_laySound_23 hl (by decide) rfl (fun ls hl => ?_)
          refine lv_iload hx hb dX3_laySound_25 (lv_at hl 5 rfl) ?_
          refine lv_if_eq (tgt := 49) hx hb dX3_laySound_27 (by decide) (fun b27 => ?_) (fun b27 => ?_)
          · have b27 : k = 0 := (pn_eq (by omega) (by omega)).mp (show nI k = nI 0 from b27)
            refine lv_aload_n hx hb dX3_laySound_49 rfl (lv_at hl 3 rfl) ?_
            refine lv_iload_n hx hb dX3_laySound_50 rfl (lv_at hl 4 rfl) ?_
            refine lv_iload hx hb dX3_laySound_51 (lv_at hl 0 rfl) ?_
            refine pn_iast hx hb hK.1 hP (pn_D hN rfl) hS 1 0 rfl rfl (i := ct) (by omega) (Nat.le_of_ble_eq_true rfl) dX3_laySound_53 (fun H locs hP hS => ?_)
            have hP : va_P D vwCl [(p1, .inl (cI, 8, .inl Nf)), (p2, .inl (cI, 4, .inl (upd Ta ct (pn_cls (pn_let X k)))))] H := hP
            refine lv_iinc (v := (nI (ct + 1))) (lv' := [(3, .int (nI (ct + 1))), (5, .int (pn_cls (pn_let X k))), (0, .ref p1), (1, .int (nI (pn_len X))), (2, .ref p2), (4, .int (nI k))]) hx hb dX3_laySound_54 hl (k := 4) rfl (nI_add ct 1) (by decide) rfl (fun ls hl => ?_)
            refine lv_iinc (v := (nI (k + 1))) (lv' := [(4, .int (nI (k + 1))), (3, .int (nI (ct + 1))), (5, .int (pn_cls (pn_let X k))), (0, .ref p1), (1, .int (nI (pn_len X))), (2, .ref p2)]) hx hb dX3_laySound_57 hl (k := 5) rfl (nI_add k 1) (by decide) rfl (fun ls hl => ?_)
            refine lv_goto (tgt := 5) hx hb dX3_laySound_60 (by decide) ?_
            exact ih5_1 (ct + 1) (k + 1) (upd Ta ct (pn_cls (pn_let X k))) (by omega) (by first | omega | assumption | grind | simp_all) (by omega) (by first | exact pn_ls_f hw hct b27 | exact pn_ls_a hw hct b13 b27 b32 b46 | exact (pn_ls_s hct b27 (Or.inl b32)).1 | exact (pn_ls_s hct b27 (Or.inr b46)).1) (by first | exact pn_ls_fe hw hct b27 | exact pn_ls_ae hw (by omega) hct b13 b27 b32 b46 e1 | (rw [(pn_ls_s hct b27 (Or.inl b32)).2]; exact e1) | (rw [(pn_ls_s hct b27 (Or.inr b46)).2]; exact e1)) (by first | exact pn_up2 e2 | exact e2) _ _ _ hP hS (lv_sub hl [3, 4, 5, 1, 0] rfl)
          · have b27 : ¬ k = 0 := fun h => (show ¬ nI k = nI 0 from b27) ((pn_eq (by omega) (by omega)).mpr h)
            refine lv_iload hx hb dX3_laySound_30 (lv_at hl 0 rfl) ?_
            refine lv_if_eq (tgt := 57) hx hb dX3_laySound_32 (by decide) (fun b32 => ?_) (fun b32 => ?_)
            · refine lv_iinc (v := (nI (k + 1))) (lv' := [(4, .int (nI (k + 1))), (5, .int (pn_cls (pn_let X k))), (0, .ref p1), (1, .int (nI (pn_len X))), (2, .ref p2), (3, .int (nI ct))]) hx hb dX3_laySound_57 hl (k := 5) rfl (nI_add k 1) (by decide) rfl (fun ls hl => ?_)
              refine lv_goto (tgt := 5) hx hb dX3_laySound_60 (by decide) ?_
              exact ih5_1 ct (k + 1) Ta (by omega) (by first | omega | assumption | grind | simp_all) (by omega) (by first | exact pn_ls_f hw hct b27 | exact pn_ls_a hw hct b13 b27 b32 b46 | exact (pn_ls_s hct b27 (Or.inl b32)).1 | exact (pn_ls_s hct b27 (Or.inr b46)).1) (by first | exact pn_ls_fe hw hct b27 | exact pn_ls_ae hw (by omega) hct b13 b27 b32 b46 e1 | (rw [(pn_ls_s hct b27 (Or.inl b32)).2]; exact e1) | (rw [(pn_ls_s hct b27 (Or.inr b46)).2]; exact e1)) (by first | exact pn_up2 e2 | exact e2) _ _ _ hP hS (lv_sub hl [2, 3, 4, 5, 0] rfl)
            · refine lv_iload hx hb dX3_laySound_35 (lv_at hl 0 rfl) ?_
              refine lv_aload_n hx hb dX3_laySound_37 rfl (lv_at hl 1 rfl) ?_
              refine lv_iload hx hb dX3_laySound_38 (lv_at hl 5 rfl) ?_
              refine lv_iconst (v := (nI 1)) hx hb dX3_laySound_40 (by decide) ?_
              refine pn_isub hx hb (by omega) dX3_laySound_41 ?_
              refine pn_iald hx hb hK.1 hP 0 0 rfl rfl (i := (k - 1)) (by omega) (Nat.le_of_ble_eq_true rfl) dX3_laySound_42 ?_
              refine pn_top (y := (pn_let X (k - 1))) (hnf (k - 1) (by omega)) ?_
              refine pn_roi (w := [(p1, .inl (cI, 8, .inl Nf)), (p2, .inl (cI, 4, .inl Ta))]) hP hS (va_runS (As := [.int (pn_let X (k - 1))]) (rest := [.int (pn_cls (pn_let X k))]) ⟨hx, hb, hml, hown, hts⟩ (c_X3_classOf l D cI cL cZ cO (pn_let X (k - 1)) (hw.2.1 (k - 1) (by omega))) (va_cwS 1 hts gX3_laySound_X3_classOf rfl rfl rfl (by decide +kernel) ⟨Nat.le_of_ble_eq_true rfl, Nat.le_of_ble_eq_true rfl⟩) (pn_ps (WS := []) (fun k q h => by simp at h) hK) rfl rfl hl.1 rfl (lv_room (Nat.le_of_ble_eq_true rfl)) dX3_laySound_43 ⟨Nat.le_of_ble_eq_true rfl, Nat.le_of_ble_eq_true rfl⟩) (fun H locs hP hS => ?_)
              refine lv_icmp_eq (tgt := 57) hx hb dX3_laySound_46 (by decide) (fun b46 => ?_) (fun b46 => ?_)
              · refine lv_iinc (v := (nI (k + 1))) (lv' := [(4, .int (nI (k + 1))), (5, .int (pn_cls (pn_let X k))), (0, .ref p1), (1, .int (nI (pn_len X))), (2, .ref p2), (3, .int (nI ct))]) hx hb dX3_laySound_57 hl (k := 5) rfl (nI_add k 1) (by decide) rfl (fun ls hl => ?_)
                refine lv_goto (tgt := 5) hx hb dX3_laySound_60 (by decide) ?_
                exact ih5_1 ct (k + 1) Ta (by omega) (by first | omega | assumption | grind | simp_all) (by omega) (by first | exact pn_ls_f hw hct b27 | exact pn_ls_a hw hct b13 b27 b32 b46 | exact (pn_ls_s hct b27 (Or.inl b32)).1 | exact (pn_ls_s hct b27 (Or.inr b46)).1) (by first | exact pn_ls_fe hw hct b27 | exact pn_ls_ae hw (by omega) hct b13 b27 b32 b46 e1 | (rw [(pn_ls_s hct b27 (Or.inl b32)).2]; exact e1) | (rw [(pn_ls_s hct b27 (Or.inr b46)).2]; exact e1)) (by first | exact pn_up2 e2 | exact e2) _ _ _ hP hS (lv_sub hl [2, 3, 4, 5, 0] rfl)
              · refine lv_aload_n hx hb dX3_laySound_49 rfl (lv_at hl 3 rfl) ?_
                refine lv_iload_n hx hb dX3_laySound_50 rfl (lv_at hl 4 rfl) ?_
                refine lv_iload hx hb dX3_laySound_51 (lv_at hl 0 rfl) ?_
                refine pn_iast hx hb hK.1 hP (pn_D hN rfl) hS 1 0 rfl rfl (i := ct) (by omega) (Nat.le_of_ble_eq_true rfl) dX3_laySound_53 (fun H locs hP hS => ?_)
                have hP : va_P D vwCl [(p1, .inl (cI, 8, .inl Nf)), (p2, .inl (cI, 4, .inl (upd Ta ct (pn_cls (pn_let X k)))))] H := hP
                refine lv_iinc (v := (nI (ct + 1))) (lv' := [(3, .int (nI (ct + 1))), (5, .int (pn_cls (pn_let X k))), (0, .ref p1), (1, .int (nI (pn_len X))), (2, .ref p2), (4, .int (nI k))]) hx hb dX3_laySound_54 hl (k := 4) rfl (nI_add ct 1) (by decide) rfl (fun ls hl => ?_)
                refine lv_iinc (v := (nI (k + 1))) (lv' := [(4, .int (nI (k + 1))), (3, .int (nI (ct + 1))), (5, .int (pn_cls (pn_let X k))), (0, .ref p1), (1, .int (nI (pn_len X))), (2, .ref p2)]) hx hb dX3_laySound_57 hl (k := 5) rfl (nI_add k 1) (by decide) rfl (fun ls hl => ?_)
                refine lv_goto (tgt := 5) hx hb dX3_laySound_60 (by decide) ?_
                exact ih5_1 (ct + 1) (k + 1) (upd Ta ct (pn_cls (pn_let X k))) (by omega) (by first | omega | assumption | grind | simp_all) (by omega) (by first | exact pn_ls_f hw hct b27 | exact pn_ls_a hw hct b13 b27 b32 b46 | exact (pn_ls_s hct b27 (Or.inl b32)).1 | exact (pn_ls_s hct b27 (Or.inr b46)).1) (by first | exact pn_ls_fe hw hct b27 | exact pn_ls_ae hw (by omega) hct b13 b27 b32 b46 e1 | (rw [(pn_ls_s hct b27 (Or.inl b32)).2]; exact e1) | (rw [(pn_ls_s hct b27 (Or.inr b46)).2]; exact e1)) (by first | exact pn_up2 e2 | exact e2) _ _ _ hP hS (lv_sub hl [3, 4, 5, 1, 0] rfl)
  exact lp5_1 ((pn_len X - 0) + 1) 0 0 Tf (Nat.lt_succ_self _) (by first | omega | assumption | grind | simp_all) (by first | omega | assumption | grind | simp_all) rfl (fun j h => absurd h (Nat.not_lt_zero _)) (fun _ _ => rfl) _ _ _ hP hS (lv_sub hl [2, 3, 4, 1, 0] rfl)
