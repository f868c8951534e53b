theorem ih_X0_tell_X0 : ∀ w ∈ wsX00, w ∈ wsX0_tell := by decide +kernel
set_option maxHeartbeats 4000000 in
set_option maxRecDepth 100000 in
theorem c_X0_tell (l : Launch) (D : va_G) (cI cL cZ cO : ClassId) (h0 q1 q2 q3 q4 q5 q6 : Nat) (K Y P S O : Nat → Int32) (N : Nat → Int64) (n F : Nat) (kd : Nat) (yr : Int32) (pa : Int32) (se : Int32) (ow : Int32) (nm : Int64) (hN : [h0, q1, q2, q3, q4, q5, q6].Nodup) (hn : n < 30) (hF : F ≤ 16) (hkd : kd ≤ 3) : Met l yX0_tell wsX0_tell ({ frames := 1, cells := 0, slots := 0, locals := 20 }) (va_Pc [.ref h0, .int (nI kd), .int yr, .int pa, .int se, .int ow, .long nm] (pn_Pr D cI cL cZ cO [(h0, .inr (0, [.ref q1, .ref q2, .ref q3, .ref q4, .ref q5, .ref q6, .int (nI n), .int (nI F)])), (q1, .inl (cI, 30, .inl K)), (q2, .inl (cI, 30, .inl Y)), (q3, .inl (cI, 30, .inl P)), (q4, .inl (cI, 30, .inl S)), (q5, .inl (cI, 30, .inl O)), (q6, .inl (cL, 30, .inr (.inl N)))])) (va_Qv (fun (_ : Unit) => True) (fun (_ : Unit) t => va_P D vwCl [(h0, .inr (0, [.ref q1, .ref q2, .ref q3, .ref q4, .ref q5, .ref q6, .int (nI (n + 1)), .int (nI (if kd = 1 then F + 1 else F))])), (q1, .inl (cI, 30, .inl (upd K n (nI kd)))), (q2, .inl (cI, 30, .inl (upd Y n yr))), (q3, .inl (cI, 30, .inl (upd P n pa))), (q4, .inl (cI, 30, .inl (upd S n se))), (q5, .inl (cI, 30, .inl (upd O n ow))), (q6, .inl (cL, 30, .inr (.inl (vp_updL N n nm))))] t.heap) (pn_In [h0, q1, q2, q3, q4, q5, q6])) 0 0 (pn_In [h0, q1, q2, q3, q4, q5, q6]) := by
  refine pn_mk (by decide) rfl (Nat.le_of_ble_eq_true rfl) ?_
  intro p e s m below meth c ls hx hb hr hml hown hts hlocks hK hP hl
  have hown : s.vm.findClass RX0 = some m.cls := hown
  have hS : va_S (pn_In [h0, q1, q2, q3, q4, q5, q6]) s.heap s.heap [] := va_S.rf
  have hl : lv_has ls 8 [(0, .ref h0), (1, .int (nI kd)), (2, .int yr), (3, .int pa), (4, .int se), (5, .int ow), (6, .long nm)] := hl
  refine lv_aload_n hx hb dX0_tell_0 rfl (lv_at hl 0 rfl) ?_
  refine pn_roi (w := [(h0, .inr (0, [.ref q1, .ref q2, .ref q3, .ref q4, .ref q5, .ref q6, .int (nI n), .int (nI F)])), (q1, .inl (cI, 30, .inl K)), (q2, .inl (cI, 30, .inl Y)), (q3, .inl (cI, 30, .inl P)), (q4, .inl (cI, 30, .inl S)), (q5, .inl (cI, 30, .inl O)), (q6, .inl (cL, 30, .inr (.inl N)))]) hP hS (va_runV (As := []) (rest := []) ⟨hx, hb, hml, hown, hts⟩ (c_X0_isFull l D cI cL cZ cO h0 q1 q2 q3 q4 q5 q6 K Y P S O N n F (by first | omega | assumption | grind | simp_all)) (cwV 0 hts gX0_tell_X0_isFull rfl rfl rfl (by decide +kernel) ⟨Nat.le_of_ble_eq_true rfl, Nat.le_of_ble_eq_true rfl⟩) (pn_pv hP hK (q0 := 0) rfl rfl) rfl rfl hl.1 rfl (lv_room (Nat.le_of_ble_eq_true rfl)) dX0_tell_1 ⟨Nat.le_of_ble_eq_true rfl, Nat.le_of_ble_eq_true rfl⟩) (fun H locs hP hS => ?_)
  refine lv_if_eq (tgt := 8) hx hb dX0_tell_4 (by decide) (fun b4 => ?_) (fun b4 => ?_)
  · have b4 : ¬ (30 ≤ n) := pn_b0.mp b4
    refine lv_aload_n hx hb dX0_tell_8 rfl (lv_at hl 0 rfl) ?_
    refine va_get (D := D) (ci := 0) (v := .ref q1) (C := RX0) (T := TX0) (N := 8) hx hb hts ih_X0_tell_X0 hown hK.1 hP 0 rfl rfl 0 (by decide) (hts (.fieldLink RX0 9 "ParishNames$Chronicle" "kinds" "[I") (by decide +kernel)) (fun _ h9 => h9) rfl dX0_tell_9 ?_
    refine lv_aload_n hx hb dX0_tell_12 rfl (lv_at hl 0 rfl) ?_
    refine va_get (D := D) (ci := 0) (v := .int (nI n)) (C := RX0) (T := TX0) (N := 8) hx hb hts ih_X0_tell_X0 hown hK.1 hP 0 rfl rfl 6 (by decide) (hts (.fieldLink RX0 31 "ParishNames$Chronicle" "told" "I") (by decide +kernel)) (fun _ h9 => h9) rfl dX0_tell_13 ?_
    refine lv_iload_n hx hb dX0_tell_16 rfl (lv_at hl 1 rfl) ?_
    refine pn_iast hx hb hK.1 hP (pn_D hN rfl) hS 1 0 rfl rfl (i := n) (by omega) (Nat.le_of_ble_eq_true rfl) dX0_tell_17 (fun H locs hP hS => ?_)
    have hP : va_P D vwCl [(h0, .inr (0, [.ref q1, .ref q2, .ref q3, .ref q4, .ref q5, .ref q6, .int (nI n), .int (nI F)])), (q1, .inl (cI, 30, .inl (upd K n (nI kd)))), (q2, .inl (cI, 30, .inl Y)), (q3, .inl (cI, 30, .inl P)), (q4, .inl (cI, 30, .inl S)), (q5, .inl (cI, 30, .inl O)), (q6, .inl (cL, 30, .inr (.inl N)))] H := hP
    refine lv_aload_n hx hb dX0_tell_18 rfl (lv_at hl 0 rfl) ?_
    refine va_get (D := D) (ci := 0) (v := .ref q2) (C := RX0) (T := TX0) (N := 8) hx hb hts ih_X0_tell_X0 hown hK.1 hP 0 rfl rfl 1 (by decide) (hts (.fieldLink RX0 15 "ParishNames$Chronicle" "years" "[I") (by decide +kernel)) (fun _ h9 => h9) rfl dX0_tell_19 ?_
    refine lv_aload_n hx hb dX0_tell_22 rfl (lv_at hl 0 rfl) ?_
    refine va_get (D := D) (ci := 0) (v := .int (nI n)) (C := RX0) (T := TX0) (N := 8) hx hb hts ih_X0_tell_X0 hown hK.1 hP 0 rfl rfl 6 (by decide) (hts (.fieldLink RX0 31 "ParishNames$Chronicle" "told" "I") (by decide +kernel)) (fun _ h9 => h9) rfl dX0_tell_23 ?_
    refine lv_iload_n hx hb dX0_tell_26 rfl (lv_at hl 2 rfl) ?_
    refine pn_iast hx hb hK.1 hP (pn_D hN rfl) hS 2 0 rfl rfl (i := n) (by omega) (Nat.le_of_ble_eq_true rfl) dX0_tell_27 (fun H locs hP hS => ?_)
    have hP : va_P D vwCl [(h0, .inr (0, [.ref q1, .ref q2, .ref q3, .ref q4, .ref q5, .ref q6, .int (nI n), .int (nI F)])), (q1, .inl (cI, 30, .inl (upd K n (nI kd)))), (q2, .inl (cI, 30, .inl (upd Y n yr))), (q3, .inl (cI, 30, .inl P)), (q4, .inl (cI, 30, .inl S)), (q5, .inl (cI, 30, .inl O)), (q6, .inl (cL, 30, .inr (.inl N)))] H := hP
    refine lv_aload_n hx hb dX0_tell_28 rfl (lv_at hl 0 rfl) ?_
    refine va_get (D := D) (ci := 0) (v := .ref q3) (C := RX0) (T := TX0) (N := 8) hx hb hts ih_X0_tell_X0 hown hK.1 hP 0 rfl rfl 2 (by decide) (hts (.fieldLink RX0 18 "ParishNames$Chronicle" "parishes" "[I") (by decide +kernel)) (fun _ h9 => h9) rfl dX0_tell_29 ?_
    refine lv_aload_n hx hb dX0_tell_32 rfl (lv_at hl 0 rfl) ?_
    refine va_get (D := D) (ci := 0) (v := .int (nI n)) (C := RX0) (T := TX0) (N := 8) hx hb hts ih_X0_tell_X0 hown hK.1 hP 0 rfl rfl 6 (by decide) (hts (.fieldLink RX0 31 "ParishNames$Chronicle" "told" "I") (by decide +kernel)) (fun _ h9 => h9) rfl dX0_tell_33 ?_
    refine lv_iload_n hx hb dX0_tell_36 rfl (lv_at hl 3 rfl) ?_
    refine pn_iast hx hb hK.1 hP (pn_D hN rfl) hS 3 0 rfl rfl (i := n) (by omega) (Nat.le_of_ble_eq_true rfl) dX0_tell_37 (fun H locs hP hS => ?_)
    have hP : va_P D vwCl [(h0, .inr (0, [.ref q1, .ref q2, .ref q3, .ref q4, .ref q5, .ref q6, .int (nI n), .int (nI F)])), (q1, .inl (cI, 30, .inl (upd K n (nI kd)))), (q2, .inl (cI, 30, .inl (upd Y n yr))), (q3, .inl (cI, 30, .inl (upd P n pa))), (q4, .inl (cI, 30, .inl S)), (q5, .inl (cI, 30, .inl O)), (q6, .inl (cL, 30, .inr (.inl N)))] H := hP
    refine lv_aload_n hx hb dX0_tell_38 rfl (lv_at hl 0 rfl) ?_
    refine va_get (D := D) (ci := 0) (v := .ref q4) (C := RX0) (T := TX0) (N := 8) hx hb hts ih_X0_tell_X0 hown hK.1 hP 0 rfl rfl 3 (by decide) (hts (.fieldLink RX0 21 "ParishNames$Chronicle" "sets" "[I") (by decide +kernel)) (fun _ h9 => h9) rfl dX0_tell_39 ?_
    refine lv_aload_n hx hb dX0_tell_42 rfl (lv_at hl 0 rfl) ?_
    refine va_get (D := D) (ci := 0) (v := .int (nI n)) (C := RX0) (T := TX0) (N := 8) hx hb hts ih_X0_tell_X0 hown hK.1 hP 0 rfl rfl 6 (by decide) (hts (.fieldLink RX0 31 "ParishNames$Chronicle" "told" "I") (by decide +kernel)) (fun _ h9 => h9) rfl dX0_tell_43 ?_
    refine lv_iload hx hb dX0_tell_46 (lv_at hl 4 rfl) ?_
    refine pn_iast hx hb hK.1 hP (pn_D hN rfl) hS 4 0 rfl rfl (i := n) (by omega) (Nat.le_of_ble_eq_true rfl) dX0_tell_48 (fun H locs hP hS => ?_)
    have hP : va_P D vwCl [(h0, .inr (0, [.ref q1, .ref q2, .ref q3, .ref q4, .ref q5, .ref q6, .int (nI n), .int (nI F)])), (q1, .inl (cI, 30, .inl (upd K n (nI kd)))), (q2, .inl (cI, 30, .inl (upd Y n yr))), (q3, .inl (cI, 30, .inl (upd P n pa))), (q4, .inl (cI, 30, .inl (upd S n se))), (q5, .inl (cI, 30, .inl O)), (q6, .inl (cL, 30, .inr (.inl N)))] H := hP
    refine lv_aload_n hx hb dX0_tell_49 rfl (lv_at hl 0 rfl) ?_
    refine va_get (D := D) (ci := 0) (v := .ref q5) (C := RX0) (T := TX0) (N := 8) hx hb hts ih_X0_tell_X0 hown hK.1 hP 0 rfl rfl 4 (by decide) (hts (.fieldLink RX0 24 "ParishNames$Chronicle" "owners" "[I") (by decide +kernel)) (fun _ h9 => h9) rfl dX0_tell_50 ?_
    refine lv_aload_n hx hb dX0_tell_53 rfl (lv_at hl 0 rfl) ?_
    refine va_get (D := D) (ci := 0) (v := .int (nI n)) (C := RX0) (T := TX0) (N := 8) hx hb hts ih_X0_tell_X0 hown hK.1 hP 0 rfl rfl 6 (by decide) (hts (.fieldLink RX0 31 "ParishNames$Chronicle" "told" "I") (by decide +kernel)) (fun _ h9 => h9) rfl dX0_tell_54 ?_
    refine lv_iload hx hb dX0_tell_57 (lv_at hl 5 rfl) ?_
    refine pn_iast hx hb hK.1 hP (pn_D hN rfl) hS 5 0 rfl rfl (i := n) (by omega) (Nat.le_of_ble_eq_true rfl) dX0_tell_59 (fun H locs hP hS => ?_)
    have hP : va_P D vwCl [(h0, .inr (0, [.ref q1, .ref q2, .ref q3, .ref q4, .ref q5, .ref q6, .int (nI n), .int (nI F)])), (q1, .inl (cI, 30, .inl (upd K n (nI kd)))), (q2, .inl (cI, 30, .inl (upd Y n yr))), (q3, .inl (cI, 30, .inl (upd P n pa))), (q4, .inl (cI, 30, .inl (upd S n se))), (q5, .inl (cI, 30, .inl (upd O n ow))), (q6, .inl (cL, 30, .inr (.inl N)))] H := hP
    refine lv_aload_n hx hb dX0_tell_60 rfl (lv_at hl 0 rfl) ?_
    refine va_get (D := D) (ci := 0) (v := .ref q6) (C := RX0) (T := TX0) (N := 8) hx hb hts ih_X0_tell_X0 hown hK.1 hP 0 rfl rfl 5 (by decide) (hts (.fieldLink RX0 27 "ParishNames$Chronicle" "names" "[J") (by decide +kernel)) (fun _ h9 => h9) rfl dX0_tell_61 ?_
    refine lv_aload_n hx hb dX0_tell_64 rfl (lv_at hl 0 rfl) ?_
    refine va_get (D := D) (ci := 0) (v := .int (nI n)) (C := RX0) (T := TX0) (N := 8) hx hb hts ih_X0_tell_X0 hown hK.1 hP 0 rfl rfl 6 (by decide) (hts (.fieldLink RX0 31 "ParishNames$Chronicle" "told" "I") (by decide +kernel)) (fun _ h9 => h9) rfl dX0_tell_65 ?_
    refine lv_lload hx hb dX0_tell_68 (lv_at hl 6 rfl) ?_
    refine pn_last hx hb hK.1 hP (pn_D hN rfl) hS 6 1 rfl rfl (i := n) (by omega) (Nat.le_of_ble_eq_true rfl) dX0_tell_70 (fun H locs hP hS => ?_)
    have hP : va_P D vwCl [(h0, .inr (0, [.ref q1, .ref q2, .ref q3, .ref q4, .ref q5, .ref q6, .int (nI n), .int (nI F)])), (q1, .inl (cI, 30, .inl (upd K n (nI kd)))), (q2, .inl (cI, 30, .inl (upd Y n yr))), (q3, .inl (cI, 30, .inl (upd P n pa))), (q4, .inl (cI, 30, .inl (upd S n se))), (q5, .inl (cI, 30, .inl (upd O n ow))), (q6, .inl (cL, 30, .inr (.inl (vp_updL N n nm))))] H := hP
    refine lv_aload_n hx hb dX0_tell_71 rfl (lv_at hl 0 rfl) ?_
    refine lv_dup hx hb dX0_tell_72 rfl ?_
    refine va_get (D := D) (ci := 0) (v := .int (nI n)) (C := RX0) (T := TX0) (N := 8) hx hb hts ih_X0_tell_X0 hown hK.1 hP 0 rfl rfl 6 (by decide) (hts (.fieldLink RX0 31 "ParishNames$Chronicle" "told" "I") (by decide +kernel)) (fun _ h9 => h9) rfl dX0_tell_73 ?_
    refine lv_iconst (v := (nI 1)) hx hb dX0_tell_76 (by decide) ?_
    refine pn_iadd hx hb dX0_tell_77 ?_
    refine va_put (D := D) (ci := 0) (v := .int (nI (n + 1))) (ty := .int) (C := RX0) (T := TX0) (N := 8) hx hb hts ih_X0_tell_X0 tyX0 tyX0_ok nmX0 hown hK.1 hP (pn_D hN rfl) hS 0 rfl rfl 6 (by decide) (hts (.fieldLink RX0 31 "ParishNames$Chronicle" "told" "I") (by decide +kernel)) (fun _ h9 => h9) rfl (by decide +kernel) rfl rfl (Nat.le_of_ble_eq_true rfl) dX0_tell_78 (fun H locs hP _ hS => ?_)
    have hP : va_P D vwCl [(h0, .inr (0, [.ref q1, .ref q2, .ref q3, .ref q4, .ref q5, .ref q6, .int (nI (n + 1)), .int (nI F)])), (q1, .inl (cI, 30, .inl (upd K n (nI kd)))), (q2, .inl (cI, 30, .inl (upd Y n yr))), (q3, .inl (cI, 30, .inl (upd P n pa))), (q4, .inl (cI, 30, .inl (upd S n se))), (q5, .inl (cI, 30, .inl (upd O n ow))), (q6, .inl (cL, 30, .inr (.inl (vp_updL N n nm))))] H := hP
    refine lv_iload_n hx hb dX0_tell_81 rfl (lv_at hl 1 rfl) ?_
    refine lv_iconst (v := (nI 1)) hx hb dX0_tell_82 (by decide) ?_
    refine lv_icmp_ne (tgt := 96) hx hb dX0_tell_83 (by decide) (fun b83 => ?_) (fun b83 => ?_)
    · have b83 : ¬ kd = 1 := fun h => (show ¬ nI kd = nI 1 from b83) ((pn_eq (by omega) (by omega)).mpr h)
      have hP : va_P D vwCl [(h0, .inr (0, [.ref q1, .ref q2, .ref q3, .ref q4, .ref q5, .ref q6, .int (nI (n + 1)), .int (nI (if kd = 1 then F + 1 else F))])), (q1, .inl (cI, 30, .inl (upd K n (nI kd)))), (q2, .inl (cI, 30, .inl (upd Y n yr))), (q3, .inl (cI, 30, .inl (upd P n pa))), (q4, .inl (cI, 30, .inl (upd S n se))), (q5, .inl (cI, 30, .inl (upd O n ow))), (q6, .inl (cL, 30, .inr (.inl (vp_updL N n nm))))] H := by rw [if_neg (by assumption)]; exact hP
      exact W.vret hx hb hr (fun t ht hW => ⟨⟨(), rfl, trivial, pn_atH ht hP⟩, hS.F ht⟩) hS.2.2 dX0_tell_96 hlocks
    · have b83 : kd = 1 := (pn_eq (by omega) (by omega)).mp (show nI kd = nI 1 from b83)
      refine lv_aload_n hx hb dX0_tell_86 rfl (lv_at hl 0 rfl) ?_
      refine lv_dup hx hb dX0_tell_87 rfl ?_
      refine va_get (D := D) (ci := 0) (v := .int (nI F)) (C := RX0) (T := TX0) (N := 8) hx hb hts ih_X0_tell_X0 hown hK.1 hP 0 rfl rfl 7 (by decide) (hts (.fieldLink RX0 35 "ParishNames$Chronicle" "founded" "I") (by decide +kernel)) (fun _ h9 => h9) rfl dX0_tell_88 ?_
      refine lv_iconst (v := (nI 1)) hx hb dX0_tell_91 (by decide) ?_
      refine pn_iadd hx hb dX0_tell_92 ?_
      refine va_put (D := D) (ci := 0) (v := .int (nI (F + 1))) (ty := .int) (C := RX0) (T := TX0) (N := 8) hx hb hts ih_X0_tell_X0 tyX0 tyX0_ok nmX0 hown hK.1 hP (pn_D hN rfl) hS 0 rfl rfl 7 (by decide) (hts (.fieldLink RX0 35 "ParishNames$Chronicle" "founded" "I") (by decide +kernel)) (fun _ h9 => h9) rfl (by decide +kernel) rfl rfl (Nat.le_of_ble_eq_true rfl) dX0_tell_93 (fun H locs hP _ hS => ?_)
      have hP : va_P D vwCl [(h0, .inr (0, [.ref q1, .ref q2, .ref q3, .ref q4, .ref q5, .ref q6, .int (nI (n + 1)), .int (nI (F + 1))])), (q1, .inl (cI, 30, .inl (upd K n (nI kd)))), (q2, .inl (cI, 30, .inl (upd Y n yr))), (q3, .inl (cI, 30, .inl (upd P n pa))), (q4, .inl (cI, 30, .inl (upd S n se))), (q5, .inl (cI, 30, .inl (upd O n ow))), (q6, .inl (cL, 30, .inr (.inl (vp_updL N n nm))))] H := hP
      have hP : va_P D vwCl [(h0, .inr (0, [.ref q1, .ref q2, .ref q3, .ref q4, .ref q5, .ref q6, .int (nI (n + 1)), .int (nI (if kd = 1 then F + 1 else F))])), (q1, .inl (cI, 30, .inl (upd K n (nI kd)))), (q2, .inl (cI, 30, .inl (upd Y n yr))), (q3, .inl (cI, 30, .inl (upd P n pa))), (q4, .inl (cI, 30, .inl (upd S n se))), (q5, .inl (cI, 30, .inl (upd O n ow))), (q6, .inl (cL, 30, .inr (.inl (vp_updL N n nm))))] H := by rw [if_pos (by assumption)]; exact hP
      exact W.vret hx hb hr (fun t ht hW => ⟨⟨(), rfl, trivial, pn_atH ht hP⟩, hS.F ht⟩) hS.2.2 dX0_tell_96 hlocks
  · have b4 : 30 ≤ n := pn_b1.mp b4
    omega
