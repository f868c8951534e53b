theorem ih_X3_lastYear_X3 : ∀ w ∈ wsX30, w ∈ wsX3_lastYear := by decide +kernel
set_option maxHeartbeats 4000000 in
set_option maxRecDepth 100000 in
theorem c_X3_lastYear (l : Launch) (D : va_G) (cI cL cZ cO : ClassId) (m0 m1 m2 m3 m4 m5 m6 m7 m8 m9 ma mb : Nat) (St Im Kp Pd : Nat → Int32) (sd : Nat) (Ow Nb Fi : Nat → Int32) (fl : Nat) (Se : Nat → Int32) (sl : Nat) (Fs : Nat → Int32) (fc : Nat) (Ss : Nat → Int32) (sc : Nat) (Co : Nat → Int32) (K Y P S O : Nat → Int32) (N : Nat → Int64) (n F : Nat) (pd : Int64) (hR : pn_rel St K Y P S O N n F) : Met l yX3_lastYear wsX3_lastYear ({ frames := 0, cells := 0, slots := 0, locals := 0 }) (va_Pc [.ref m0] (pn_Pr D cI cL cZ cO [(m0, .inr (3, [.ref m1, .ref m2, .ref m3, .ref m4, .int (nI sd), .ref m5, .ref m6, .ref m7, .int (nI fl), .ref m8, .int (nI sl), .ref m9, .int (nI fc), .ref ma, .int (nI sc), .ref mb])), (m1, .inl (cI, 422, .inl St)), (m2, .inl (cI, 844, .inl Im)), (m3, .inl (cZ, 2, .inl Kp)), (m4, .inl (cI, 8, .inl Pd)), (m5, .inl (cI, 12, .inl Ow)), (m6, .inl (cI, 16, .inl Nb)), (m7, .inl (cI, 8, .inl Fi)), (m8, .inl (cI, 8, .inl Se)), (m9, .inl (cI, 4, .inl Fs)), (ma, .inl (cI, 4, .inl Ss)), (mb, .inl (cI, 81, .inl Co))])) (va_Qi (fun r (_ : Unit) => r = (pn_lY Y n)) (fun _ _ => True) pn_No) 0 0 pn_No := by
  refine pn_mk (by decide) rfl (Nat.le_of_ble_eq_true rfl) ?_
  intro p e s m below meth c ls hx hb hr hml hown hts hlocks hK hP hl
  have hown : s.vm.findClass RX3 = some m.cls := hown
  have hS : va_S pn_No s.heap s.heap [] := va_S.rf
  have hl : lv_has ls 1 [(0, .ref m0)] := hl
  have hn30 := hR.n30
  have hF1 := hR.F1
  have hF16 := hR.F16
  refine lv_aload_n hx hb dX3_lastYear_0 rfl (lv_at hl 0 rfl) ?_
  refine va_get (D := D) (ci := 3) (v := .ref m1) (C := RX3) (T := TX3) (N := 16) hx hb hts ih_X3_lastYear_X3 hown hK.1 hP 0 rfl rfl 0 (by decide) (hts (.fieldLink RX3 7 "ParishNamesModel" "state" "[I") (by decide +kernel)) (fun _ h9 => h9) rfl dX3_lastYear_1 ?_
  refine lv_sipush (v := (nI 420)) hx hb dX3_lastYear_4 (by decide) ?_
  refine pn_iald hx hb hK.1 hP 1 0 rfl rfl (i := 420) (by omega) (Nat.le_of_ble_eq_true rfl) dX3_lastYear_7 ?_
  refine pn_top (y := (nI n)) hR.n0 ?_
  refine lv_if_ne (tgt := 15) hx hb dX3_lastYear_8 (by decide) (fun b8 => ?_) (fun b8 => ?_)
  · have b8 : ¬ n = 0 := fun h => (show ¬ nI n = nI 0 from b8) ((pn_eq (by omega) (by omega)).mpr h)
    refine lv_aload_n hx hb dX3_lastYear_15 rfl (lv_at hl 0 rfl) ?_
    refine va_get (D := D) (ci := 3) (v := .ref m1) (C := RX3) (T := TX3) (N := 16) hx hb hts ih_X3_lastYear_X3 hown hK.1 hP 0 rfl rfl 0 (by decide) (hts (.fieldLink RX3 7 "ParishNamesModel" "state" "[I") (by decide +kernel)) (fun _ h9 => h9) rfl dX3_lastYear_16 ?_
    refine lv_bipush (v := (nI 30)) hx hb dX3_lastYear_19 (by decide) ?_
    refine lv_aload_n hx hb dX3_lastYear_21 rfl (lv_at hl 0 rfl) ?_
    refine va_get (D := D) (ci := 3) (v := .ref m1) (C := RX3) (T := TX3) (N := 16) hx hb hts ih_X3_lastYear_X3 hown hK.1 hP 0 rfl rfl 0 (by decide) (hts (.fieldLink RX3 7 "ParishNamesModel" "state" "[I") (by decide +kernel)) (fun _ h9 => h9) rfl dX3_lastYear_22 ?_
    refine lv_sipush (v := (nI 420)) hx hb dX3_lastYear_25 (by decide) ?_
    refine pn_iald hx hb hK.1 hP 1 0 rfl rfl (i := 420) (by omega) (Nat.le_of_ble_eq_true rfl) dX3_lastYear_28 ?_
    refine pn_top (y := (nI n)) hR.n0 ?_
    refine pn_iadd hx hb dX3_lastYear_29 ?_
    refine lv_iconst (v := (nI 1)) hx hb dX3_lastYear_30 (by decide) ?_
    refine pn_isub hx hb (by omega) dX3_lastYear_31 ?_
    refine pn_iald hx hb hK.1 hP 1 0 rfl rfl (i := ((30 + n) - 1)) (by omega) (Nat.le_of_ble_eq_true rfl) dX3_lastYear_32 ?_
    exact W.iret hx hb hr (fun t ht hW => ⟨⟨_, (), rfl, (by unfold pn_lY; rw [if_neg b8, show 30 + n - 1 = 30 + (n - 1) by omega]; exact hR.Y0 (by omega)), trivial⟩, hS.F ht⟩) hS.2.2 dX3_lastYear_33 hlocks
  · have b8 : n = 0 := (pn_eq (by omega) (by omega)).mp (show nI n = nI 0 from b8)
    refine lv_iconst (v := (nI 0)) hx hb dX3_lastYear_11 (by decide) ?_
    refine lv_goto (tgt := 33) hx hb dX3_lastYear_12 (by decide) ?_
    exact W.iret hx hb hr (fun t ht hW => ⟨⟨_, (), rfl, (by unfold pn_lY; rw [if_pos b8]), trivial⟩, hS.F ht⟩) hS.2.2 dX3_lastYear_33 hlocks

theorem ih_X3_add_X3 : ∀ w ∈ wsX30, w ∈ wsX3_add := by decide +kernel
set_option maxHeartbeats 4000000 in
set_option maxRecDepth 100000 in
theorem c_X3_add (l : Launch) (D : va_G) (cI cL cZ cO : ClassId) (m0 m1 m2 m3 m4 m5 m6 m7 m8 m9 ma mb : Nat) (St Im Kp Pd : Nat → Int32) (sd : Nat) (Ow Nb Fi : Nat → Int32) (fl : Nat) (Se : Nat → Int32) (sl : Nat) (Fs : Nat → Int32) (fc : Nat) (Ss : Nat → Int32) (sc : Nat) (Co : Nat → Int32) (K Y P S O : Nat → Int32) (N : Nat → Int64) (n F : Nat) (pd : Int64) (kd : Int32) (yr : Int32) (wo : Int32) (se : Int32) (ow : Int32) (hN : [m0, m1, m2, m3, m4, m5, m6, m7, m8, m9, ma, mb].Nodup) (hR : pn_rel St K Y P S O N n F) (hlt : n < 30) : Met l yX3_add wsX3_add ({ frames := 0, cells := 0, slots := 0, locals := 0 }) (va_Pc [.ref m0, .int kd, .int yr, .int wo, .int se, .int ow] (pn_Pr D cI cL cZ cO [(m0, .inr (3, [.ref m1, .ref m2, .ref m3, .ref m4, .int (nI sd), .ref m5, .ref m6, .ref m7, .int (nI fl), .ref m8, .int (nI sl), .ref m9, .int (nI fc), .ref ma, .int (nI sc), .ref mb])), (m1, .inl (cI, 422, .inl St)), (m2, .inl (cI, 844, .inl Im)), (m3, .inl (cZ, 2, .inl Kp)), (m4, .inl (cI, 8, .inl Pd)), (m5, .inl (cI, 12, .inl Ow)), (m6, .inl (cI, 16, .inl Nb)), (m7, .inl (cI, 8, .inl Fi)), (m8, .inl (cI, 8, .inl Se)), (m9, .inl (cI, 4, .inl Fs)), (ma, .inl (cI, 4, .inl Ss)), (mb, .inl (cI, 81, .inl Co))])) (va_Qv (fun (_ : Unit) => True) (fun (_ : Unit) t => va_P D vwCl [(m0, .inr (3, [.ref m1, .ref m2, .ref m3, .ref m4, .int (nI sd), .ref m5, .ref m6, .ref m7, .int (nI fl), .ref m8, .int (nI sl), .ref m9, .int (nI fc), .ref ma, .int (nI sc), .ref mb])), (m1, .inl (cI, 422, .inl (pn_addS St n kd yr wo se ow))), (m2, .inl (cI, 844, .inl Im)), (m3, .inl (cZ, 2, .inl Kp)), (m4, .inl (cI, 8, .inl Pd)), (m5, .inl (cI, 12, .inl Ow)), (m6, .inl (cI, 16, .inl Nb)), (m7, .inl (cI, 8, .inl Fi)), (m8, .inl (cI, 8, .inl Se)), (m9, .inl (cI, 4, .inl Fs)), (ma, .inl (cI, 4, .inl Ss)), (mb, .inl (cI, 81, .inl Co))] t.heap) (pn_In [m0, m1, m2, m3, m4, m5, m6, m7, m8, m9, ma, mb])) 0 0 (pn_In [m0, m1, m2, m3, m4, m5, m6, m7, m8, m9, ma, mb]) := by
  refine pn_mk (by decide) rfl (Nat.le_of_ble_eq_true rfl) ?_
  intro p e s m below meth c ls hx hb hr hml hown hts hlocks hK hP hl
  have hown : s.vm.findClass RX3 = some m.cls := hown
  have hS : va_S (pn_In [m0, m1, m2, m3, m4, m5, m6, m7, m8, m9, ma, mb]) s.heap s.heap [] := va_S.rf
  have hl : lv_has ls 7 [(0, .ref m0), (1, .int kd), (2, .int yr), (3, .int wo), (4, .int se), (5, .int ow)] := hl
  have hn30 := hR.n30
  have hF1 := hR.F1
  have hF16 := hR.F16
  refine lv_aload_n hx hb dX3_add_0 rfl (lv_at hl 0 rfl) ?_
  refine va_get (D := D) (ci := 3) (v := .ref m1) (C := RX3) (T := TX3) (N := 16) hx hb hts ih_X3_add_X3 hown hK.1 hP 0 rfl rfl 0 (by decide) (hts (.fieldLink RX3 7 "ParishNamesModel" "state" "[I") (by decide +kernel)) (fun _ h9 => h9) rfl dX3_add_1 ?_
  refine lv_sipush (v := (nI 420)) hx hb dX3_add_4 (by decide) ?_
  refine pn_iald hx hb hK.1 hP 1 0 rfl rfl (i := 420) (by omega) (Nat.le_of_ble_eq_true rfl) dX3_add_7 ?_
  refine pn_top (y := (nI n)) hR.n0 ?_
  refine lv_istore (lv' := [(6, .int (nI n)), (0, .ref m0), (1, .int kd), (2, .int yr), (3, .int wo), (4, .int se), (5, .int ow)]) hx hb dX3_add_8 hl (by decide) rfl (fun ls hl => ?_)
  refine lv_aload_n hx hb dX3_add_10 rfl (lv_at hl 1 rfl) ?_
  refine va_get (D := D) (ci := 3) (v := .ref m1) (C := RX3) (T := TX3) (N := 16) hx hb hts ih_X3_add_X3 hown hK.1 hP 0 rfl rfl 0 (by decide) (hts (.fieldLink RX3 7 "ParishNamesModel" "state" "[I") (by decide +kernel)) (fun _ h9 => h9) rfl dX3_add_11 ?_
  refine lv_iconst (v := (nI 0)) hx hb dX3_add_14 (by decide) ?_
  refine lv_iload hx hb dX3_add_15 (lv_at hl 0 rfl) ?_
  refine pn_iadd hx hb dX3_add_17 ?_
  refine pn_top (y := (nI n)) (congrArg nI (Nat.zero_add _)) ?_
  refine lv_iload_n hx hb dX3_add_18 rfl (lv_at hl 2 rfl) ?_
  refine pn_iast hx hb hK.1 hP (pn_D hN rfl) hS 1 0 rfl rfl (i := n) (by omega) (Nat.le_of_ble_eq_true rfl) dX3_add_19 (fun H locs hP hS => ?_)
  have hP : va_P D vwCl [(m0, .inr (3, [.ref m1, .ref m2, .ref m3, .ref m4, .int (nI sd), .ref m5, .ref m6, .ref m7, .int (nI fl), .ref m8, .int (nI sl), .ref m9, .int (nI fc), .ref ma, .int (nI sc), .ref mb])), (m1, .inl (cI, 422, .inl (upd St n kd))), (m2, .inl (cI, 844, .inl Im)), (m3, .inl (cZ, 2, .inl Kp)), (m4, .inl (cI, 8, .inl Pd)), (m5, .inl (cI, 12, .inl Ow)), (m6, .inl (cI, 16, .inl Nb)), (m7, .inl (cI, 8, .inl Fi)), (m8, .inl (cI, 8, .inl Se)), (m9, .inl (cI, 4, .inl Fs)), (ma, .inl (cI, 4, .inl Ss)), (mb, .inl (cI, 81, .inl Co))] H := hP
  refine lv_aload_n hx hb dX3_add_20 rfl (lv_at hl 1 rfl) ?_
  refine va_get (D := D) (ci := 3) (v := .ref m1) (C := RX3) (T := TX3) (N := 16) hx hb hts ih_X3_add_X3 hown hK.1 hP 0 rfl rfl 0 (by decide) (hts (.fieldLink RX3 7 "ParishNamesModel" "state" "[I") (by decide +kernel)) (fun _ h9 => h9) rfl dX3_add_21 ?_
  refine lv_bipush (v := (nI 30)) hx hb dX3_add_24 (by decide) ?_
  refine lv_iload hx hb dX3_add_26 (lv_at hl 0 rfl) ?_
  refine pn_iadd hx hb dX3_add_28 ?_
  refine lv_iload_n hx hb dX3_add_29 rfl (lv_at hl 3 rfl) ?_
  refine pn_iast hx hb hK.1 hP (pn_D hN rfl) hS 1 0 rfl rfl (i := (30 + n)) (by omega) (Nat.le_of_ble_eq_true rfl) dX3_add_30 (fun H locs hP hS => ?_)
  have hP : va_P D vwCl [(m0, .inr (3, [.ref m1, .ref m2, .ref m3, .ref m4, .int (nI sd), .ref m5, .ref m6, .ref m7, .int (nI fl), .ref m8, .int (nI sl), .ref m9, .int (nI fc), .ref ma, .int (nI sc), .ref mb])), (m1, .inl (cI, 422, .inl (upd (upd St n kd) (30 + n) yr))), (m2, .inl (cI, 844, .inl Im)), (m3, .inl (cZ, 2, .inl Kp)), (m4, .inl (cI, 8, .inl Pd)), (m5, .inl (cI, 12, .inl Ow)), (m6, .inl (cI, 16, .inl Nb)), (m7, .inl (cI, 8, .inl Fi)), (m8, .inl (cI, 8, .inl Se)), (m9, .inl (cI, 4, .inl Fs)), (ma, .inl (cI, 4, .inl Ss)), (mb, .inl (cI, 81, .inl Co))] H := hP
  refine lv_aload_n hx hb dX3_add_31 rfl (lv_at hl 1 rfl) ?_
  refine va_get (D := D) (ci := 3) (v := .ref m1) (C := RX3) (T := TX3) (N := 16) hx hb hts ih_X3_add_X3 hown hK.1 hP 0 rfl rfl 0 (by decide) (hts (.fieldLink RX3 7 "ParishNamesModel" "state" "[I") (by decide +kernel)) (fun _ h9 => h9) rfl dX3_add_32 ?_
  refine lv_bipush (v := (nI 60)) hx hb dX3_add_35 (by decide) ?_
  refine lv_iload hx hb dX3_add_37 (lv_at hl 0 rfl) ?_
  refine pn_iadd hx hb dX3_add_39 ?_
  refine lv_iload_n hx hb dX3_add_40 rfl (lv_at hl 4 rfl) ?_
  refine pn_iast hx hb hK.1 hP (pn_D hN rfl) hS 1 0 rfl rfl (i := (60 + n)) (by omega) (Nat.le_of_ble_eq_true rfl) dX3_add_41 (fun H locs hP hS => ?_)
  have hP : va_P D vwCl [(m0, .inr (3, [.ref m1, .ref m2, .ref m3, .ref m4, .int (nI sd), .ref m5, .ref m6, .ref m7, .int (nI fl), .ref m8, .int (nI sl), .ref m9, .int (nI fc), .ref ma, .int (nI sc), .ref mb])), (m1, .inl (cI, 422, .inl (upd (upd (upd St n kd) (30 + n) yr) (60 + n) wo))), (m2, .inl (cI, 844, .inl Im)), (m3, .inl (cZ, 2, .inl Kp)), (m4, .inl (cI, 8, .inl Pd)), (m5, .inl (cI, 12, .inl Ow)), (m6, .inl (cI, 16, .inl Nb)), (m7, .inl (cI, 8, .inl Fi)), (m8, .inl (cI, 8, .inl Se)), (m9, .inl (cI, 4, .inl Fs)), (ma, .inl (cI, 4, .inl Ss)), (mb, .inl (cI, 81, .inl Co))] H := hP
  refine lv_aload_n hx hb dX3_add_42 rfl (lv_at hl 1 rfl) ?_
  refine va_get (D := D) (ci := 3) (v := .ref m1) (C := RX3) (T := TX3) (N := 16) hx hb hts ih_X3_add_X3 hown hK.1 hP 0 rfl rfl 0 (by decide) (hts (.fieldLink RX3 7 "ParishNamesModel" "state" "[I") (by decide +kernel)) (fun _ h9 => h9) rfl dX3_add_43 ?_
  refine lv_bipush (v := (nI 90)) hx hb dX3_add_46 (by decide) ?_
  refine lv_iload hx hb dX3_add_48 (lv_at hl 0 rfl) ?_
  refine pn_iadd hx hb dX3_add_50 ?_
  refine lv_iload hx hb dX3_add_51 (lv_at hl 5 rfl) ?_
  refine pn_iast hx hb hK.1 hP (pn_D hN rfl) hS 1 0 rfl rfl (i := (90 + n)) (by omega) (Nat.le_of_ble_eq_true rfl) dX3_add_53 (fun H locs hP hS => ?_)
  have hP : va_P D vwCl [(m0, .inr (3, [.ref m1, .ref m2, .ref m3, .ref m4, .int (nI sd), .ref m5, .ref m6, .ref m7, .int (nI fl), .ref m8, .int (nI sl), .ref m9, .int (nI fc), .ref ma, .int (nI sc), .ref mb])), (m1, .inl (cI, 422, .inl (upd (upd (upd (upd St n kd) (30 + n) yr) (60 + n) wo) (90 + n) se))), (m2, .inl (cI, 844, .inl Im)), (m3, .inl (cZ, 2, .inl Kp)), (m4, .inl (cI, 8, .inl Pd)), (m5, .inl (cI, 12, .inl Ow)), (m6, .inl (cI, 16, .inl Nb)), (m7, .inl (cI, 8, .inl Fi)), (m8, .inl (cI, 8, .inl Se)), (m9, .inl (cI, 4, .inl Fs)), (ma, .inl (cI, 4, .inl Ss)), (mb, .inl (cI, 81, .inl Co))] H := hP
  refine lv_aload_n hx hb dX3_add_54 rfl (lv_at hl 1 rfl) ?_
  refine va_get (D := D) (ci := 3) (v := .ref m1) (C := RX3) (T := TX3) (N := 16) hx hb hts ih_X3_add_X3 hown hK.1 hP 0 rfl rfl 0 (by decide) (hts (.fieldLink RX3 7 "ParishNamesModel" "state" "[I") (by decide +kernel)) (fun _ h9 => h9) rfl dX3_add_55 ?_
  refine lv_bipush (v := (nI 120)) hx hb dX3_add_58 (by decide) ?_
  refine lv_iload hx hb dX3_add_60 (lv_at hl 0 rfl) ?_
  refine pn_iadd hx hb dX3_add_62 ?_
  refine lv_iload hx hb dX3_add_63 (lv_at hl 6 rfl) ?_
  refine pn_iast hx hb hK.1 hP (pn_D hN rfl) hS 1 0 rfl rfl (i := (120 + n)) (by omega) (Nat.le_of_ble_eq_true rfl) dX3_add_65 (fun H locs hP hS => ?_)
  have hP : va_P D vwCl [(m0, .inr (3, [.ref m1, .ref m2, .ref m3, .ref m4, .int (nI sd), .ref m5, .ref m6, .ref m7, .int (nI fl), .ref m8, .int (nI sl), .ref m9, .int (nI fc), .ref ma, .int (nI sc), .ref mb])), (m1, .inl (cI, 422, .inl (upd (upd (upd (upd (upd St n kd) (30 + n) yr) (60 + n) wo) (90 + n) se) (120 + n) ow))), (m2, .inl (cI, 844, .inl Im)), (m3, .inl (cZ, 2, .inl Kp)), (m4, .inl (cI, 8, .inl Pd)), (m5, .inl (cI, 12, .inl Ow)), (m6, .inl (cI, 16, .inl Nb)), (m7, .inl (cI, 8, .inl Fi)), (m8, .inl (cI, 8, .inl Se)), (m9, .inl (cI, 4, .inl Fs)), (ma, .inl (cI, 4, .inl Ss)), (mb, .inl (cI, 81, .inl Co))] H := hP
  refine lv_aload_n hx hb dX3_add_66 rfl (lv_at hl 1 rfl) ?_
  refine va_get (D := D) (ci := 3) (v := .ref m1) (C := RX3) (T := TX3) (N := 16) hx hb hts ih_X3_add_X3 hown hK.1 hP 0 rfl rfl 0 (by decide) (hts (.fieldLink RX3 7 "ParishNamesModel" "state" "[I") (by decide +kernel)) (fun _ h9 => h9) rfl dX3_add_67 ?_
  refine lv_sipush (v := (nI 420)) hx hb dX3_add_70 (by decide) ?_
  refine lv_dup2_11 hx hb dX3_add_73 rfl rfl ?_
  refine pn_iald hx hb hK.1 hP 1 0 rfl rfl (i := 420) (by omega) (Nat.le_of_ble_eq_true rfl) dX3_add_74 ?_
  refine pn_top (y := (nI n)) ((pn_addS_420 St hlt kd yr wo se ow).trans hR.n0) ?_
  refine lv_iconst (v := (nI 1)) hx hb dX3_add_75 (by decide) ?_
  refine pn_iadd hx hb dX3_add_76 ?_
  refine pn_iast hx hb hK.1 hP (pn_D hN rfl) hS 1 0 rfl rfl (i := 420) (by omega) (Nat.le_of_ble_eq_true rfl) dX3_add_77 (fun H locs hP hS => ?_)
  have hP : va_P D vwCl [(m0, .inr (3, [.ref m1, .ref m2, .ref m3, .ref m4, .int (nI sd), .ref m5, .ref m6, .ref m7, .int (nI fl), .ref m8, .int (nI sl), .ref m9, .int (nI fc), .ref ma, .int (nI sc), .ref mb])), (m1, .inl (cI, 422, .inl (upd (upd (upd (upd (upd (upd St n kd) (30 + n) yr) (60 + n) wo) (90 + n) se) (120 + n) ow) 420 (nI (n + 1))))), (m2, .inl (cI, 844, .inl Im)), (m3, .inl (cZ, 2, .inl Kp)), (m4, .inl (cI, 8, .inl Pd)), (m5, .inl (cI, 12, .inl Ow)), (m6, .inl (cI, 16, .inl Nb)), (m7, .inl (cI, 8, .inl Fi)), (m8, .inl (cI, 8, .inl Se)), (m9, .inl (cI, 4, .inl Fs)), (ma, .inl (cI, 4, .inl Ss)), (mb, .inl (cI, 81, .inl Co))] H := hP
  exact W.vret hx hb hr (fun t ht hW => ⟨⟨(), rfl, trivial, pn_atH ht hP⟩, hS.F ht⟩) hS.2.2 dX3_add_78 hlocks

theorem ih_X3_takeName_X3 : ∀ w ∈ wsX30, w ∈ wsX3_takeName := by decide +kernel
set_option maxHeartbeats 4000000 in
set_option maxRecDepth 100000 in
theorem c_X3_takeName (l : Launch) (D : va_G) (cI cL cZ cO : ClassId) (m0 m1 m2 m3 m4 m5 m6 m7 m8 m9 ma mb : Nat) (St Im Kp Pd : Nat → Int32) (sd : Nat) (Ow Nb Fi : Nat → Int32) (fl : Nat) (Se : Nat → Int32) (sl : Nat) (Fs : Nat → Int32) (fc : Nat) (Ss : Nat → Int32) (sc : Nat) (Co : Nat → Int32) (K Y P S O : Nat → Int32) (N : Nat → Int64) (n F : Nat) (pd : Int64) (ev : Nat) (hN : [m0, m1, m2, m3, m4, m5, m6, m7, m8, m9, ma, mb].Nodup) (hpd : pn_pad Pd sd pd) (he : ev < 30) : Met l yX3_takeName wsX3_takeName ({ frames := 0, cells := 0, slots := 0, locals := 0 }) (va_Pc [.ref m0, .int (nI ev)] (pn_Pr D cI cL cZ cO [(m0, .inr (3, [.ref m1, .ref m2, .ref m3, .ref m4, .int (nI sd), .ref m5, .ref m6, .ref m7, .int (nI fl), .ref m8, .int (nI sl), .ref m9, .int (nI fc), .ref ma, .int (nI sc), .ref mb])), (m1, .inl (cI, 422, .inl St)), (m2, .inl (cI, 844, .inl Im)), (m3, .inl (cZ, 2, .inl Kp)), (m4, .inl (cI, 8, .inl Pd)), (m5, .inl (cI, 12, .inl Ow)), (m6, .inl (cI, 16, .inl Nb)), (m7, .inl (cI, 8, .inl Fi)), (m8, .inl (cI, 8, .inl Se)), (m9, .inl (cI, 4, .inl Fs)), (ma, .inl (cI, 4, .inl Ss)), (mb, .inl (cI, 81, .inl Co))])) (va_Qv (fun (_ : Unit) => True) (fun (_ : Unit) t => va_P D vwCl [(m0, .inr (3, [.ref m1, .ref m2, .ref m3, .ref m4, .int (nI 0), .ref m5, .ref m6, .ref m7, .int (nI fl), .ref m8, .int (nI sl), .ref m9, .int (nI fc), .ref ma, .int (nI sc), .ref mb])), (m1, .inl (cI, 422, .inl (pn_takS St Pd ev sd))), (m2, .inl (cI, 844, .inl Im)), (m3, .inl (cZ, 2, .inl Kp)), (m4, .inl (cI, 8, .inl Pd)), (m5, .inl (cI, 12, .inl Ow)), (m6, .inl (cI, 16, .inl Nb)), (m7, .inl (cI, 8, .inl Fi)), (m8, .inl (cI, 8, .inl Se)), (m9, .inl (cI, 4, .inl Fs)), (ma, .inl (cI, 4, .inl Ss)), (mb, .inl (cI, 81, .inl Co))] t.heap) (pn_In [m0, m1, m2, m3, m4, m5, m6, m7, m8, m9, ma, mb])) 0 0 (pn_In [m0, m1, m2, m3, m4, m5, m6, m7, m8, m9, ma, mb]) := by
  refine pn_mk (by decide) rfl (Nat.le_of_ble_eq_true rfl) ?_
  intro p e s m below meth c ls hx hb hr hml hown hts hlocks hK hP hl
  have hown : s.vm.findClass RX3 = some m.cls := hown
  have hS : va_S (pn_In [m0, m1, m2, m3, m4, m5, m6, m7, m8, m9, ma, mb]) s.heap s.heap [] := va_S.rf
  have hl : lv_has ls 3 [(0, .ref m0), (1, .int (nI ev))] := hl
  have hs8 := pn_pad8 hpd
  refine lv_iconst (v := (nI 0)) hx hb dX3_takeName_0 (by decide) ?_
  refine lv_istore_n (lv' := [(2, .int (nI 0)), (0, .ref m0), (1, .int (nI ev))]) hx hb dX3_takeName_1 rfl hl (by decide) rfl (fun ls hl => ?_)
  have lp2_1 : ∀ (fu : Nat) (k : Nat) (Sx : Nat → Int32), sd - k < fu → (k ≤ sd) → (Sx = pn_cpN St Pd ev k) → ∀ (H : Heap) (locs : List Loc) (ls : Array Slot), va_P D vwCl [(m0, .inr (3, [.ref m1, .ref m2, .ref m3, .ref m4, .int (nI sd), .ref m5, .ref m6, .ref m7, .int (nI fl), .ref m8, .int (nI sl), .ref m9, .int (nI fc), .ref ma, .int (nI sc), .ref mb])), (m1, .inl (cI, 422, .inl Sx)), (m2, .inl (cI, 844, .inl Im)), (m3, .inl (cZ, 2, .inl Kp)), (m4, .inl (cI, 8, .inl Pd)), (m5, .inl (cI, 12, .inl Ow)), (m6, .inl (cI, 16, .inl Nb)), (m7, .inl (cI, 8, .inl Fi)), (m8, .inl (cI, 8, .inl Se)), (m9, .inl (cI, 4, .inl Fs)), (ma, .inl (cI, 4, .inl Ss)), (mb, .inl (cI, 81, .inl Co))] H → va_S (pn_In [m0, m1, m2, m3, m4, m5, m6, m7, m8, m9, ma, mb]) s.heap H locs → lv_has ls 3 [(0, .ref m0), (1, .int (nI ev)), (2, .int (nI k))] → W p l e ({ frames := 0, cells := 0, slots := 0, locals := 0 }) s m (List.toArray [.ref m0, .int (nI ev)]) below meth c H locs 0 0 (MQ below (va_Qv (fun (_ : Unit) => True) (fun (_ : Unit) t => va_P D vwCl [(m0, .inr (3, [.ref m1, .ref m2, .ref m3, .ref m4, .int (nI 0), .ref m5, .ref m6, .ref m7, .int (nI fl), .ref m8, .int (nI sl), .ref m9, .int (nI fc), .ref ma, .int (nI sc), .ref mb])), (m1, .inl (cI, 422, .inl (pn_takS St Pd ev sd))), (m2, .inl (cI, 844, .inl Im)), (m3, .inl (cZ, 2, .inl Kp)), (m4, .inl (cI, 8, .inl Pd)), (m5, .inl (cI, 12, .inl Ow)), (m6, .inl (cI, 16, .inl Nb)), (m7, .inl (cI, 8, .inl Fi)), (m8, .inl (cI, 8, .inl Se)), (m9, .inl (cI, 4, .inl Fs)), (ma, .inl (cI, 4, .inl Ss)), (mb, .inl (cI, 81, .inl Co))] t.heap) (pn_In [m0, m1, m2, m3, m4, m5, m6, m7, m8, m9, ma, mb])) (List.toArray [.ref m0, .int (nI ev)]) s 0 0 (pn_In [m0, m1, m2, m3, m4, m5, m6, m7, m8, m9, ma, mb])) (F0 m 2 ls []) := by
    intro fu
    induction fu with
    | zero => intro k Sx hfu; exact absurd hfu (Nat.not_lt_zero _)
    | succ fu ih2_1 =>
      intro k Sx hfu hk e1 H locs ls hP hS hl
      refine lv_iload_n hx hb dX3_takeName_2 rfl (lv_at hl 2 rfl) ?_
      refine lv_aload_n hx hb dX3_takeName_3 rfl (lv_at hl 0 rfl) ?_
      refine va_get (D := D) (ci := 3) (v := .int (nI sd)) (C := RX3) (T := TX3) (N := 16) hx hb hts ih_X3_takeName_X3 hown hK.1 hP 0 rfl rfl 4 (by decide) (hts (.fieldLink RX3 48 "ParishNamesModel" "said" "I") (by decide +kernel)) (fun _ h9 => h9) rfl dX3_takeName_4 ?_
      refine lv_icmp_ge (tgt := 37) hx hb dX3_takeName_7 (by decide) (fun b7 => ?_) (fun b7 => ?_)
      · have b7 : sd ≤ k := (pn_le (by omega) (by omega)).mp (show nI sd ≤ nI k from b7)
        rw [e1, show k = sd by omega] at hP
        refine lv_aload_n hx hb dX3_takeName_37 rfl (lv_at hl 0 rfl) ?_
        refine va_get (D := D) (ci := 3) (v := .ref m1) (C := RX3) (T := TX3) (N := 16) hx hb hts ih_X3_takeName_X3 hown hK.1 hP 0 rfl rfl 0 (by decide) (hts (.fieldLink RX3 7 "ParishNamesModel" "state" "[I") (by decide +kernel)) (fun _ h9 => h9) rfl dX3_takeName_38 ?_
        refine lv_sipush (v := (nI 390)) hx hb dX3_takeName_41 (by decide) ?_
        refine lv_iload_n hx hb dX3_takeName_44 rfl (lv_at hl 1 rfl) ?_
        refine pn_iadd hx hb dX3_takeName_45 ?_
        refine lv_aload_n hx hb dX3_takeName_46 rfl (lv_at hl 0 rfl) ?_
        refine va_get (D := D) (ci := 3) (v := .int (nI sd)) (C := RX3) (T := TX3) (N := 16) hx hb hts ih_X3_takeName_X3 hown hK.1 hP 0 rfl rfl 4 (by decide) (hts (.fieldLink RX3 48 "ParishNamesModel" "said" "I") (by decide +kernel)) (fun _ h9 => h9) rfl dX3_takeName_47 ?_
        refine pn_iast hx hb hK.1 hP (pn_D hN rfl) hS 1 0 rfl rfl (i := (390 + ev)) (by omega) (Nat.le_of_ble_eq_true rfl) dX3_takeName_50 (fun H locs hP hS => ?_)
        have hP : va_P D vwCl [(m0, .inr (3, [.ref m1, .ref m2, .ref m3, .ref m4, .int (nI sd), .ref m5, .ref m6, .ref m7, .int (nI fl), .ref m8, .int (nI sl), .ref m9, .int (nI fc), .ref ma, .int (nI sc), .ref mb])), (m1, .inl (cI, 422, .inl (upd (pn_cpN St Pd ev sd) (390 + ev) (nI sd)))), (m2, .inl (cI, 844, .inl Im)), (m3, .inl (cZ, 2, .inl Kp)), (m4, .inl (cI, 8, .inl Pd)), (m5, .inl (cI, 12, .inl Ow)), (m6, .inl (cI, 16, .inl Nb)), (m7, .inl (cI, 8, .inl Fi)), (m8, .inl (cI, 8, .inl Se)), (m9, .inl (cI, 4, .inl Fs)), (ma, .inl (cI, 4, .inl Ss)), (mb, .inl (cI, 81, .inl Co))] H := hP
        refine lv_aload_n hx hb dX3_takeName_51 rfl (lv_at hl 0 rfl) ?_
        refine lv_iconst (v := (nI 0)) hx hb dX3_takeName_52 (by decide) ?_
        refine va_put (D := D) (ci := 3) (v := .int (nI 0)) (ty := .int) (C := RX3) (T := TX3) (N := 16) hx hb hts ih_X3_takeName_X3 tyX3 tyX3_ok nmX3 hown hK.1 hP (pn_D hN rfl) hS 0 rfl rfl 4 (by decide) (hts (.fieldLink RX3 48 "ParishNamesModel" "said" "I") (by decide +kernel)) (fun _ h9 => h9) rfl (by decide +kernel) rfl rfl (Nat.le_of_ble_eq_true rfl) dX3_takeName_53 (fun H locs hP _ hS => ?_)
        have hP : va_P D vwCl [(m0, .inr (3, [.ref m1, .ref m2, .ref m3, .ref m4, .int (nI 0), .ref m5, .ref m6, .ref m7, .int (nI fl), .ref m8, .int (nI sl), .ref m9, .int (nI fc), .ref ma, .int (nI sc), .ref mb])), (m1, .inl (cI, 422, .inl (upd (pn_cpN St Pd ev sd) (390 + ev) (nI sd)))), (m2, .inl (cI, 844, .inl Im)), (m3, .inl (cZ, 2, .inl Kp)), (m4, .inl (cI, 8, .inl Pd)), (m5, .inl (cI, 12, .inl Ow)), (m6, .inl (cI, 16, .inl Nb)), (m7, .inl (cI, 8, .inl Fi)), (m8, .inl (cI, 8, .inl Se)), (m9, .inl (cI, 4, .inl Fs)), (ma, .inl (cI, 4, .inl Ss)), (mb, .inl (cI, 81, .inl Co))] H := hP
        exact W.vret hx hb hr (fun t ht hW => ⟨⟨(), rfl, trivial, pn_atH ht hP⟩, hS.F ht⟩) hS.2.2 dX3_takeName_56 hlocks
      · have b7 : ¬ sd ≤ k := fun h => (show ¬ nI sd ≤ nI k from b7) ((pn_le (by omega) (by omega)).mpr h)
        refine lv_aload_n hx hb dX3_takeName_10 rfl (lv_at hl 0 rfl) ?_
        refine va_get (D := D) (ci := 3) (v := .ref m1) (C := RX3) (T := TX3) (N := 16) hx hb hts ih_X3_takeName_X3 hown hK.1 hP 0 rfl rfl 0 (by decide) (hts (.fieldLink RX3 7 "ParishNamesModel" "state" "[I") (by decide +kernel)) (fun _ h9 => h9) rfl dX3_takeName_11 ?_
        refine lv_sipush (v := (nI 150)) hx hb dX3_takeName_14 (by decide) ?_
        refine lv_bipush (v := (nI 8)) hx hb dX3_takeName_17 (by decide) ?_
        refine lv_iload_n hx hb dX3_takeName_19 rfl (lv_at hl 1 rfl) ?_
        refine pn_imul hx hb dX3_takeName_20 ?_
        refine pn_iadd hx hb dX3_takeName_21 ?_
        refine lv_iload_n hx hb dX3_takeName_22 rfl (lv_at hl 2 rfl) ?_
        refine pn_iadd hx hb dX3_takeName_23 ?_
        refine lv_aload_n hx hb dX3_takeName_24 rfl (lv_at hl 0 rfl) ?_
        refine va_get (D := D) (ci := 3) (v := .ref m4) (C := RX3) (T := TX3) (N := 16) hx hb hts ih_X3_takeName_X3 hown hK.1 hP 0 rfl rfl 3 (by decide) (hts (.fieldLink RX3 20 "ParishNamesModel" "pad" "[I") (by decide +kernel)) (fun _ h9 => h9) rfl dX3_takeName_25 ?_
        refine lv_iload_n hx hb dX3_takeName_28 rfl (lv_at hl 2 rfl) ?_
        refine pn_iald hx hb hK.1 hP 4 0 rfl rfl (i := k) (by omega) (Nat.le_of_ble_eq_true rfl) dX3_takeName_29 ?_
        refine pn_iast hx hb hK.1 hP (pn_D hN rfl) hS 1 0 rfl rfl (i := ((150 + (8 * ev)) + k)) (by omega) (Nat.le_of_ble_eq_true rfl) dX3_takeName_30 (fun H locs hP hS => ?_)
        have hP : va_P D vwCl [(m0, .inr (3, [.ref m1, .ref m2, .ref m3, .ref m4, .int (nI sd), .ref m5, .ref m6, .ref m7, .int (nI fl), .ref m8, .int (nI sl), .ref m9, .int (nI fc), .ref ma, .int (nI sc), .ref mb])), (m1, .inl (cI, 422, .inl (upd Sx ((150 + (8 * ev)) + k) (Pd k)))), (m2, .inl (cI, 844, .inl Im)), (m3, .inl (cZ, 2, .inl Kp)), (m4, .inl (cI, 8, .inl Pd)), (m5, .inl (cI, 12, .inl Ow)), (m6, .inl (cI, 16, .inl Nb)), (m7, .inl (cI, 8, .inl Fi)), (m8, .inl (cI, 8, .inl Se)), (m9, .inl (cI, 4, .inl Fs)), (ma, .inl (cI, 4, .inl Ss)), (mb, .inl (cI, 81, .inl Co))] H := hP
        refine lv_iinc (v := (nI (k + 1))) (lv' := [(2, .int (nI (k + 1))), (0, .ref m0), (1, .int (nI ev))]) hx hb dX3_takeName_31 hl (k := 2) rfl (nI_add k 1) (by decide) rfl (fun ls hl => ?_)
        refine lv_goto (tgt := 2) hx hb dX3_takeName_34 (by decide) ?_
        exact ih2_1 (k + 1) (upd Sx ((150 + (8 * ev)) + k) (Pd k)) (by omega) (by first | omega | assumption | grind | simp_all) (by rw [e1]; rfl) _ _ _ hP hS (lv_sub hl [1, 2, 0] rfl)
  exact lp2_1 ((sd - 0) + 1) 0 St (Nat.lt_succ_self _) (by first | omega | assumption | grind | simp_all) rfl _ _ _ hP hS (lv_sub hl [1, 2, 0] rfl)
