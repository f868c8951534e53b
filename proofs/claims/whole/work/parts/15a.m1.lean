set_option maxHeartbeats 4000000 in
set_option maxRecDepth 100000 in
theorem c_X3_in (l : Launch) (D : va_G) (cI cL cZ cO : ClassId)  (vv : Int32) (lo : Int32) (hi : Int32) : Met l yX3_in wsX3_in ({ frames := 0, cells := 0, slots := 0, locals := 0 }) (va_Pc [.int vv, .int lo, .int hi] (pn_Pr D cI cL cZ cO [])) (va_Qi (fun r (_ : Unit) => r = (pn_b (¬ vv < lo ∧ ¬ hi < vv))) (fun _ _ => True) pn_No) 0 0 pn_No := by
  refine pn_mk (by decide) rfl (Nat.le_of_ble_eq_true rfl) ?_
  intro p e s m below meth c ls hx hb hr hml hown hts hlocks hK hP hl
  have hown : s.vm.findClass RX3 = some m.cls := hown
  have hS : va_S pn_No s.heap s.heap [] := va_S.rf
  have hl : lv_has ls 3 [(0, .int vv), (1, .int lo), (2, .int hi)] := hl
  refine lv_iload_n hx hb dX3_in_0 rfl (lv_at hl 0 rfl) ?_
  refine lv_iload_n hx hb dX3_in_1 rfl (lv_at hl 1 rfl) ?_
  refine lv_icmp_lt (tgt := 14) hx hb dX3_in_2 (by decide) (fun b2 => ?_) (fun b2 => ?_)
  · refine lv_iconst (v := (nI 0)) hx hb dX3_in_14 (by decide) ?_
    exact W.zret hx hb hr (by decide) (fun t ht hW => ⟨⟨_, (), rfl, (by first | exact pn_bt ⟨b2, b7⟩ | exact pn_bf (fun q => q.1 b2) | exact pn_bf (fun q => q.2 b7)), trivial⟩, hS.F ht⟩) hS.2.2 dX3_in_15 hlocks
  · refine lv_iload_n hx hb dX3_in_5 rfl (lv_at hl 0 rfl) ?_
    refine lv_iload_n hx hb dX3_in_6 rfl (lv_at hl 2 rfl) ?_
    refine lv_icmp_gt (tgt := 14) hx hb dX3_in_7 (by decide) (fun b7 => ?_) (fun b7 => ?_)
    · refine lv_iconst (v := (nI 0)) hx hb dX3_in_14 (by decide) ?_
      exact W.zret hx hb hr (by decide) (fun t ht hW => ⟨⟨_, (), rfl, (by first | exact pn_bt ⟨b2, b7⟩ | exact pn_bf (fun q => q.1 b2) | exact pn_bf (fun q => q.2 b7)), trivial⟩, hS.F ht⟩) hS.2.2 dX3_in_15 hlocks
    · refine lv_iconst (v := (nI 1)) hx hb dX3_in_10 (by decide) ?_
      refine lv_goto (tgt := 15) hx hb dX3_in_11 (by decide) ?_
      exact W.zret hx hb hr (by decide) (fun t ht hW => ⟨⟨_, (), rfl, (by first | exact pn_bt ⟨b2, b7⟩ | exact pn_bf (fun q => q.1 b2) | exact pn_bf (fun q => q.2 b7)), trivial⟩, hS.F ht⟩) hS.2.2 dX3_in_15 hlocks

theorem ih_X3_isParish_X3 : ∀ w ∈ wsX30, w ∈ wsX3_isParish := by decide +kernel
set_option maxHeartbeats 4000000 in
set_option maxRecDepth 100000 in
theorem c_X3_isParish (l : Launch) (D : va_G) (cI cL cZ cO : ClassId) (m0 m1 m2 m3 m4 m5 m6 m7 m8 m9 ma mb : Nat) (St Im Kp Pd : Nat → Int32) (sd : Nat) (Ow Nb Fi : Nat → Int32) (fl : Nat) (Se : Nat → Int32) (sl : Nat) (Fs : Nat → Int32) (fc : Nat) (Ss : Nat → Int32) (sc : Nat) (Co : Nat → Int32) (K Y P S O : Nat → Int32) (N : Nat → Int64) (n F : Nat) (pd : Int64) (pa : Int32) (hR : pn_rel St K Y P S O N n F) : Met l yX3_isParish wsX3_isParish ({ frames := 1, cells := 0, slots := 0, locals := 22 }) (va_Pc [.ref m0, .int pa] (pn_Pr D cI cL cZ cO [(m0, .inr (3, [.ref m1, .ref m2, .ref m3, .ref m4, .int (nI sd), .ref m5, .ref m6, .ref m7, .int (nI fl), .ref m8, .int (nI sl), .ref m9, .int (nI fc), .ref ma, .int (nI sc), .ref mb])), (m1, .inl (cI, 422, .inl St)), (m2, .inl (cI, 844, .inl Im)), (m3, .inl (cZ, 2, .inl Kp)), (m4, .inl (cI, 8, .inl Pd)), (m5, .inl (cI, 12, .inl Ow)), (m6, .inl (cI, 16, .inl Nb)), (m7, .inl (cI, 8, .inl Fi)), (m8, .inl (cI, 8, .inl Se)), (m9, .inl (cI, 4, .inl Fs)), (ma, .inl (cI, 4, .inl Ss)), (mb, .inl (cI, 81, .inl Co))])) (va_Qi (fun r (_ : Unit) => r = (pn_b (pn_kn F pa))) (fun _ _ => True) pn_No) 0 0 pn_No := by
  refine pn_mk (by decide) rfl (Nat.le_of_ble_eq_true rfl) ?_
  intro p e s m below meth c ls hx hb hr hml hown hts hlocks hK hP hl
  have hown : s.vm.findClass RX3 = some m.cls := hown
  have hS : va_S pn_No s.heap s.heap [] := va_S.rf
  have hl : lv_has ls 2 [(0, .ref m0), (1, .int pa)] := hl
  have hn30 := hR.n30
  have hF1 := hR.F1
  have hF16 := hR.F16
  refine lv_iload_n hx hb dX3_isParish_0 rfl (lv_at hl 1 rfl) ?_
  refine lv_iconst (v := (nI 0)) hx hb dX3_isParish_1 (by decide) ?_
  refine lv_aload_n hx hb dX3_isParish_2 rfl (lv_at hl 0 rfl) ?_
  refine va_get (D := D) (ci := 3) (v := .ref m1) (C := RX3) (T := TX3) (N := 16) hx hb hts ih_X3_isParish_X3 hown hK.1 hP 0 rfl rfl 0 (by decide) (hts (.fieldLink RX3 7 "ParishNamesModel" "state" "[I") (by decide +kernel)) (fun _ h9 => h9) rfl dX3_isParish_3 ?_
  refine lv_sipush (v := (nI 421)) hx hb dX3_isParish_6 (by decide) ?_
  refine pn_iald hx hb hK.1 hP 1 0 rfl rfl (i := 421) (by omega) (Nat.le_of_ble_eq_true rfl) dX3_isParish_9 ?_
  refine pn_top (y := (nI F)) hR.F0 ?_
  refine lv_iconst (v := (nI 1)) hx hb dX3_isParish_10 (by decide) ?_
  refine pn_isub hx hb (by omega) dX3_isParish_11 ?_
  refine pn_roi (w := [(m0, .inr (3, [.ref m1, .ref m2, .ref m3, .ref m4, .int (nI sd), .ref m5, .ref m6, .ref m7, .int (nI fl), .ref m8, .int (nI sl), .ref m9, .int (nI fc), .ref ma, .int (nI sc), .ref mb])), (m1, .inl (cI, 422, .inl St)), (m2, .inl (cI, 844, .inl Im)), (m3, .inl (cZ, 2, .inl Kp)), (m4, .inl (cI, 8, .inl Pd)), (m5, .inl (cI, 12, .inl Ow)), (m6, .inl (cI, 16, .inl Nb)), (m7, .inl (cI, 8, .inl Fi)), (m8, .inl (cI, 8, .inl Se)), (m9, .inl (cI, 4, .inl Fs)), (ma, .inl (cI, 4, .inl Ss)), (mb, .inl (cI, 81, .inl Co))]) hP hS (va_runS (As := [.int pa, .int (nI 0), .int (nI (F - 1))]) (rest := []) ⟨hx, hb, hml, hown, hts⟩ (c_X3_in l D cI cL cZ cO pa (nI 0) (nI (F - 1))) (va_cwS 3 hts gX3_isParish_X3_in rfl rfl rfl (by decide +kernel) ⟨Nat.le_of_ble_eq_true rfl, Nat.le_of_ble_eq_true rfl⟩) (pn_ps (WS := []) (fun k q h => by simp at h) hK) rfl rfl hl.1 rfl (lv_room (Nat.le_of_ble_eq_true rfl)) dX3_isParish_12 ⟨Nat.le_of_ble_eq_true rfl, Nat.le_of_ble_eq_true rfl⟩) (fun H locs hP hS => ?_)
  exact W.zret hx hb hr pn_nz (fun t ht hW => ⟨⟨_, (), rfl, (pn_bcg (pn_knI hF1 (by omega))), trivial⟩, hS.F ht⟩) hS.2.2 dX3_isParish_15 hlocks

set_option maxHeartbeats 4000000 in
set_option maxRecDepth 100000 in
theorem c_X3_isSite (l : Launch) (D : va_G) (cI cL cZ cO : ClassId)  (tt : Int32) : Met l yX3_isSite wsX3_isSite ({ frames := 1, cells := 0, slots := 0, locals := 22 }) (va_Pc [.int tt] (pn_Pr D cI cL cZ cO [])) (va_Qi (fun r (_ : Unit) => r = (pn_b (pn_si tt))) (fun _ _ => True) pn_No) 0 0 pn_No := by
  refine pn_mk (by decide) rfl (Nat.le_of_ble_eq_true rfl) ?_
  intro p e s m below meth c ls hx hb hr hml hown hts hlocks hK hP hl
  have hown : s.vm.findClass RX3 = some m.cls := hown
  have hS : va_S pn_No s.heap s.heap [] := va_S.rf
  have hl : lv_has ls 1 [(0, .int tt)] := hl
  refine lv_iload_n hx hb dX3_isSite_0 rfl (lv_at hl 0 rfl) ?_
  refine lv_iconst (v := (nI 0)) hx hb dX3_isSite_1 (by decide) ?_
  refine lv_bipush (v := (nI 11)) hx hb dX3_isSite_2 (by decide) ?_
  refine pn_roi (w := []) hP hS (va_runS (As := [.int tt, .int (nI 0), .int (nI 11)]) (rest := []) ⟨hx, hb, hml, hown, hts⟩ (c_X3_in l D cI cL cZ cO tt (nI 0) (nI 11)) (va_cwS 3 hts gX3_isSite_X3_in rfl rfl rfl (by decide +kernel) ⟨Nat.le_of_ble_eq_true rfl, Nat.le_of_ble_eq_true rfl⟩) (pn_ps (WS := []) (fun k q h => by simp at h) hK) rfl rfl hl.1 rfl (lv_room (Nat.le_of_ble_eq_true rfl)) dX3_isSite_4 ⟨Nat.le_of_ble_eq_true rfl, Nat.le_of_ble_eq_true rfl⟩) (fun H locs hP hS => ?_)
  exact W.zret hx hb hr pn_nz (fun t ht hW => ⟨⟨_, (), rfl, (pn_bcg (pn_siI)), trivial⟩, hS.F ht⟩) hS.2.2 dX3_isSite_7 hlocks

set_option maxHeartbeats 4000000 in
set_option maxRecDepth 100000 in
theorem c_X3_isYear (l : Launch) (D : va_G) (cI cL cZ cO : ClassId)  (yy : Int32) : Met l yX3_isYear wsX3_isYear ({ frames := 1, cells := 0, slots := 0, locals := 22 }) (va_Pc [.int yy] (pn_Pr D cI cL cZ cO [])) (va_Qi (fun r (_ : Unit) => r = (pn_b (pn_yr yy))) (fun _ _ => True) pn_No) 0 0 pn_No := by
  refine pn_mk (by decide) rfl (Nat.le_of_ble_eq_true rfl) ?_
  intro p e s m below meth c ls hx hb hr hml hown hts hlocks hK hP hl
  have hown : s.vm.findClass RX3 = some m.cls := hown
  have hS : va_S pn_No s.heap s.heap [] := va_S.rf
  have hl : lv_has ls 1 [(0, .int yy)] := hl
  refine lv_iload_n hx hb dX3_isYear_0 rfl (lv_at hl 0 rfl) ?_
  refine lv_iconst (v := (nI 0)) hx hb dX3_isYear_1 (by decide) ?_
  refine lv_sipush (v := (nI 999)) hx hb dX3_isYear_2 (by decide) ?_
  refine pn_roi (w := []) hP hS (va_runS (As := [.int yy, .int (nI 0), .int (nI 999)]) (rest := []) ⟨hx, hb, hml, hown, hts⟩ (c_X3_in l D cI cL cZ cO yy (nI 0) (nI 999)) (va_cwS 3 hts gX3_isYear_X3_in rfl rfl rfl (by decide +kernel) ⟨Nat.le_of_ble_eq_true rfl, Nat.le_of_ble_eq_true rfl⟩) (pn_ps (WS := []) (fun k q h => by simp at h) hK) rfl rfl hl.1 rfl (lv_room (Nat.le_of_ble_eq_true rfl)) dX3_isYear_5 ⟨Nat.le_of_ble_eq_true rfl, Nat.le_of_ble_eq_true rfl⟩) (fun H locs hP hS => ?_)
  exact W.zret hx hb hr pn_nz (fun t ht hW => ⟨⟨_, (), rfl, (pn_bcg Iff.rfl), trivial⟩, hS.F ht⟩) hS.2.2 dX3_isYear_8 hlocks

set_option maxHeartbeats 4000000 in
set_option maxRecDepth 100000 in
theorem c_X3_areYears (l : Launch) (D : va_G) (cI cL cZ cO : ClassId)  (ya : Int32) (yb : Int32) : Met l yX3_areYears wsX3_areYears ({ frames := 2, cells := 0, slots := 0, locals := 42 }) (va_Pc [.int ya, .int yb] (pn_Pr D cI cL cZ cO [])) (va_Qi (fun r (_ : Unit) => r = (pn_b (pn_ys ya yb))) (fun _ _ => True) pn_No) 0 0 pn_No := by
  refine pn_mk (by decide) rfl (Nat.le_of_ble_eq_true rfl) ?_
  intro p e s m below meth c ls hx hb hr hml hown hts hlocks hK hP hl
  have hown : s.vm.findClass RX3 = some m.cls := hown
  have hS : va_S pn_No s.heap s.heap [] := va_S.rf
  have hl : lv_has ls 2 [(0, .int ya), (1, .int yb)] := hl
  refine lv_iload_n hx hb dX3_areYears_0 rfl (lv_at hl 0 rfl) ?_
  refine pn_roi (w := []) hP hS (va_runS (As := [.int ya]) (rest := []) ⟨hx, hb, hml, hown, hts⟩ (c_X3_isYear l D cI cL cZ cO ya) (va_cwS 1 hts gX3_areYears_X3_isYear rfl rfl rfl (by decide +kernel) ⟨Nat.le_of_ble_eq_true rfl, Nat.le_of_ble_eq_true rfl⟩) (pn_ps (WS := []) (fun k q h => by simp at h) hK) rfl rfl hl.1 rfl (lv_room (Nat.le_of_ble_eq_true rfl)) dX3_areYears_1 ⟨Nat.le_of_ble_eq_true rfl, Nat.le_of_ble_eq_true rfl⟩) (fun H locs hP hS => ?_)
  refine lv_if_eq (tgt := 23) hx hb dX3_areYears_4 (by decide) (fun b4 => ?_) (fun b4 => ?_)
  · have b4 : ¬ (pn_yr ya) := pn_b0.mp b4
    refine lv_iconst (v := (nI 0)) hx hb dX3_areYears_23 (by decide) ?_
    exact W.zret hx hb hr (by decide) (fun t ht hW => ⟨⟨_, (), rfl, (by first | exact pn_bt ⟨b4, b11, b16⟩ | exact pn_bf (fun q => b4 q.1) | exact pn_bf (fun q => b11 q.2.1) | exact pn_bf (fun q => q.2.2 b16)), trivial⟩, hS.F ht⟩) hS.2.2 dX3_areYears_24 hlocks
  · have b4 : pn_yr ya := pn_b1.mp b4
    refine lv_iload_n hx hb dX3_areYears_7 rfl (lv_at hl 1 rfl) ?_
    refine pn_roi (w := []) hP hS (va_runS (As := [.int yb]) (rest := []) ⟨hx, hb, hml, hown, hts⟩ (c_X3_isYear l D cI cL cZ cO yb) (va_cwS 1 hts gX3_areYears_X3_isYear rfl rfl rfl (by decide +kernel) ⟨Nat.le_of_ble_eq_true rfl, Nat.le_of_ble_eq_true rfl⟩) (pn_ps (WS := []) (fun k q h => by simp at h) hK) rfl rfl hl.1 rfl (lv_room (Nat.le_of_ble_eq_true rfl)) dX3_areYears_8 ⟨Nat.le_of_ble_eq_true rfl, Nat.le_of_ble_eq_true rfl⟩) (fun H locs hP hS => ?_)
    refine lv_if_eq (tgt := 23) hx hb dX3_areYears_11 (by decide) (fun b11 => ?_) (fun b11 => ?_)
    · have b11 : ¬ (pn_yr yb) := pn_b0.mp b11
      refine lv_iconst (v := (nI 0)) hx hb dX3_areYears_23 (by decide) ?_
      exact W.zret hx hb hr (by decide) (fun t ht hW => ⟨⟨_, (), rfl, (by first | exact pn_bt ⟨b4, b11, b16⟩ | exact pn_bf (fun q => b4 q.1) | exact pn_bf (fun q => b11 q.2.1) | exact pn_bf (fun q => q.2.2 b16)), trivial⟩, hS.F ht⟩) hS.2.2 dX3_areYears_24 hlocks
    · have b11 : pn_yr yb := pn_b1.mp b11
      refine lv_iload_n hx hb dX3_areYears_14 rfl (lv_at hl 0 rfl) ?_
      refine lv_iload_n hx hb dX3_areYears_15 rfl (lv_at hl 1 rfl) ?_
      refine lv_icmp_gt (tgt := 23) hx hb dX3_areYears_16 (by decide) (fun b16 => ?_) (fun b16 => ?_)
      · refine lv_iconst (v := (nI 0)) hx hb dX3_areYears_23 (by decide) ?_
        exact W.zret hx hb hr (by decide) (fun t ht hW => ⟨⟨_, (), rfl, (by first | exact pn_bt ⟨b4, b11, b16⟩ | exact pn_bf (fun q => b4 q.1) | exact pn_bf (fun q => b11 q.2.1) | exact pn_bf (fun q => q.2.2 b16)), trivial⟩, hS.F ht⟩) hS.2.2 dX3_areYears_24 hlocks
      · refine lv_iconst (v := (nI 1)) hx hb dX3_areYears_19 (by decide) ?_
        refine lv_goto (tgt := 24) hx hb dX3_areYears_20 (by decide) ?_
        exact W.zret hx hb hr (by decide) (fun t ht hW => ⟨⟨_, (), rfl, (by first | exact pn_bt ⟨b4, b11, b16⟩ | exact pn_bf (fun q => b4 q.1) | exact pn_bf (fun q => b11 q.2.1) | exact pn_bf (fun q => q.2.2 b16)), trivial⟩, hS.F ht⟩) hS.2.2 dX3_areYears_24 hlocks

theorem ih_X3_say_X3 : ∀ w ∈ wsX30, w ∈ wsX3_say := by decide +kernel
set_option maxHeartbeats 4000000 in
set_option maxRecDepth 100000 in
theorem c_X3_say (l : Launch) (D : va_G) (cI cL cZ cO : ClassId) (m0 m1 m2 m3 m4 m5 m6 m7 m8 m9 ma mb : Nat) (St Im Kp Pd : Nat → Int32) (sd : Nat) (Ow Nb Fi : Nat → Int32) (fl : Nat) (Se : Nat → Int32) (sl : Nat) (Fs : Nat → Int32) (fc : Nat) (Ss : Nat → Int32) (sc : Nat) (Co : Nat → Int32) (K Y P S O : Nat → Int32) (N : Nat → Int64) (n F : Nat) (pd : Int64) (x : Int32) (hN : [m0, m1, m2, m3, m4, m5, m6, m7, m8, m9, ma, mb].Nodup) (hpd : pn_pad Pd sd pd) : Met l yX3_say wsX3_say ({ frames := 1, cells := 0, slots := 0, locals := 22 }) (va_Pc [.ref m0, .int x] (pn_Pr D cI cL cZ cO [(m0, .inr (3, [.ref m1, .ref m2, .ref m3, .ref m4, .int (nI sd), .ref m5, .ref m6, .ref m7, .int (nI fl), .ref m8, .int (nI sl), .ref m9, .int (nI fc), .ref ma, .int (nI sc), .ref mb])), (m1, .inl (cI, 422, .inl St)), (m2, .inl (cI, 844, .inl Im)), (m3, .inl (cZ, 2, .inl Kp)), (m4, .inl (cI, 8, .inl Pd)), (m5, .inl (cI, 12, .inl Ow)), (m6, .inl (cI, 16, .inl Nb)), (m7, .inl (cI, 8, .inl Fi)), (m8, .inl (cI, 8, .inl Se)), (m9, .inl (cI, 4, .inl Fs)), (ma, .inl (cI, 4, .inl Ss)), (mb, .inl (cI, 81, .inl Co))])) (va_Qi (fun r (u : va_W) => ((pn_if (x < nI 97 ∨ ¬ x ≤ nI 122) (some (-2)) (pn_if (8 ≤ pn_len pd) (some (-4)) (none : Option Int32))) = some r ∧ pn_isM cI cZ m0 m1 m2 m3 m4 m5 m6 m7 m8 m9 ma mb St Im Kp Pd sd u) ∨ ((pn_if (x < nI 97 ∨ ¬ x ≤ nI 122) (some (-2)) (pn_if (8 ≤ pn_len pd) (some (-4)) (none : Option Int32))) = none ∧ r = nI (pn_len pd + 1) ∧ pn_isM cI cZ m0 m1 m2 m3 m4 m5 m6 m7 m8 m9 ma mb St Im Kp (upd Pd sd x) (sd + 1) u)) (fun (u : va_W) t => va_P D vwCl u t.heap) (pn_In [m0, m1, m2, m3, m4, m5, m6, m7, m8, m9, ma, mb])) 0 0 (pn_In [m0, m1, m2, m3, m4, m5, m6, m7, m8, m9, ma, mb]) := by
  refine pn_mk (by decide) rfl (Nat.le_of_ble_eq_true rfl) ?_
  intro p e s m below meth c ls hx hb hr hml hown hts hlocks hK hP hl
  have hown : s.vm.findClass RX3 = some m.cls := hown
  have hS : va_S (pn_In [m0, m1, m2, m3, m4, m5, m6, m7, m8, m9, ma, mb]) s.heap s.heap [] := va_S.rf
  have hl : lv_has ls 2 [(0, .ref m0), (1, .int x)] := hl
  have hs8 := pn_pad8 hpd
  refine lv_iload_n hx hb dX3_say_0 rfl (lv_at hl 1 rfl) ?_
  refine lv_bipush (v := (nI 97)) hx hb dX3_say_1 (by decide) ?_
  refine lv_bipush (v := (nI 122)) hx hb dX3_say_3 (by decide) ?_
  refine pn_roi (w := [(m0, .inr (3, [.ref m1, .ref m2, .ref m3, .ref m4, .int (nI sd), .ref m5, .ref m6, .ref m7, .int (nI fl), .ref m8, .int (nI sl), .ref m9, .int (nI fc), .ref ma, .int (nI sc), .ref mb])), (m1, .inl (cI, 422, .inl St)), (m2, .inl (cI, 844, .inl Im)), (m3, .inl (cZ, 2, .inl Kp)), (m4, .inl (cI, 8, .inl Pd)), (m5, .inl (cI, 12, .inl Ow)), (m6, .inl (cI, 16, .inl Nb)), (m7, .inl (cI, 8, .inl Fi)), (m8, .inl (cI, 8, .inl Se)), (m9, .inl (cI, 4, .inl Fs)), (ma, .inl (cI, 4, .inl Ss)), (mb, .inl (cI, 81, .inl Co))]) hP hS (va_runS (As := [.int x, .int (nI 97), .int (nI 122)]) (rest := []) ⟨hx, hb, hml, hown, hts⟩ (c_X3_in l D cI cL cZ cO x (nI 97) (nI 122)) (va_cwS 3 hts gX3_say_X3_in rfl rfl rfl (by decide +kernel) ⟨Nat.le_of_ble_eq_true rfl, Nat.le_of_ble_eq_true rfl⟩) (pn_ps (WS := []) (fun k q h => by simp at h) hK) rfl rfl hl.1 rfl (lv_room (Nat.le_of_ble_eq_true rfl)) dX3_say_5 ⟨Nat.le_of_ble_eq_true rfl, Nat.le_of_ble_eq_true rfl⟩) (fun H locs hP hS => ?_)
  refine lv_if_ne (tgt := 14) hx hb dX3_say_8 (by decide) (fun b8 => ?_) (fun b8 => ?_)
  · have b8 : ¬ x < (nI 97) ∧ ¬ (nI 122) < x := pn_b1.mp b8
    refine lv_aload_n hx hb dX3_say_14 rfl (lv_at hl 0 rfl) ?_
    refine va_get (D := D) (ci := 3) (v := .int (nI sd)) (C := RX3) (T := TX3) (N := 16) hx hb hts ih_X3_say_X3 hown hK.1 hP 0 rfl rfl 4 (by decide) (hts (.fieldLink RX3 48 "ParishNamesModel" "said" "I") (by decide +kernel)) (fun _ h9 => h9) rfl dX3_say_15 ?_
    refine lv_bipush (v := (nI 8)) hx hb dX3_say_18 (by decide) ?_
    refine lv_icmp_ne (tgt := 26) hx hb dX3_say_20 (by decide) (fun b20 => ?_) (fun b20 => ?_)
    · have b20 : ¬ sd = 8 := fun h => (show ¬ nI sd = nI 8 from b20) ((pn_eq (by omega) (by omega)).mpr h)
      refine lv_aload_n hx hb dX3_say_26 rfl (lv_at hl 0 rfl) ?_
      refine va_get (D := D) (ci := 3) (v := .ref m4) (C := RX3) (T := TX3) (N := 16) hx hb hts ih_X3_say_X3 hown hK.1 hP 0 rfl rfl 3 (by decide) (hts (.fieldLink RX3 20 "ParishNamesModel" "pad" "[I") (by decide +kernel)) (fun _ h9 => h9) rfl dX3_say_27 ?_
      refine lv_aload_n hx hb dX3_say_30 rfl (lv_at hl 0 rfl) ?_
      refine va_get (D := D) (ci := 3) (v := .int (nI sd)) (C := RX3) (T := TX3) (N := 16) hx hb hts ih_X3_say_X3 hown hK.1 hP 0 rfl rfl 4 (by decide) (hts (.fieldLink RX3 48 "ParishNamesModel" "said" "I") (by decide +kernel)) (fun _ h9 => h9) rfl dX3_say_31 ?_
      refine lv_iload_n hx hb dX3_say_34 rfl (lv_at hl 1 rfl) ?_
      refine pn_iast hx hb hK.1 hP (pn_D hN rfl) hS 4 0 rfl rfl (i := sd) (by omega) (Nat.le_of_ble_eq_true rfl) dX3_say_35 (fun H locs hP hS => ?_)
      have hP : va_P D vwCl [(m0, .inr (3, [.ref m1, .ref m2, .ref m3, .ref m4, .int (nI sd), .ref m5, .ref m6, .ref m7, .int (nI fl), .ref m8, .int (nI sl), .ref m9, .int (nI fc), .ref ma, .int (nI sc), .ref mb])), (m1, .inl (cI, 422, .inl St)), (m2, .inl (cI, 844, .inl Im)), (m3, .inl (cZ, 2, .inl Kp)), (m4, .inl (cI, 8, .inl (upd Pd sd x))), (m5, .inl (cI, 12, .inl Ow)), (m6, .inl (cI, 16, .inl Nb)), (m7, .inl (cI, 8, .inl Fi)), (m8, .inl (cI, 8, .inl Se)), (m9, .inl (cI, 4, .inl Fs)), (ma, .inl (cI, 4, .inl Ss)), (mb, .inl (cI, 81, .inl Co))] H := hP
      refine lv_aload_n hx hb dX3_say_36 rfl (lv_at hl 0 rfl) ?_
      refine lv_dup hx hb dX3_say_37 rfl ?_
      refine va_get (D := D) (ci := 3) (v := .int (nI sd)) (C := RX3) (T := TX3) (N := 16) hx hb hts ih_X3_say_X3 hown hK.1 hP 0 rfl rfl 4 (by decide) (hts (.fieldLink RX3 48 "ParishNamesModel" "said" "I") (by decide +kernel)) (fun _ h9 => h9) rfl dX3_say_38 ?_
      refine lv_iconst (v := (nI 1)) hx hb dX3_say_41 (by decide) ?_
      refine pn_iadd hx hb dX3_say_42 ?_
      refine va_put (D := D) (ci := 3) (v := .int (nI (sd + 1))) (ty := .int) (C := RX3) (T := TX3) (N := 16) hx hb hts ih_X3_say_X3 tyX3 tyX3_ok nmX3 hown hK.1 hP (pn_D hN rfl) hS 0 rfl rfl 4 (by decide) (hts (.fieldLink RX3 48 "ParishNamesModel" "said" "I") (by decide +kernel)) (fun _ h9 => h9) rfl (by decide +kernel) rfl rfl (Nat.le_of_ble_eq_true rfl) dX3_say_43 (fun H locs hP _ hS => ?_)
      have hP : va_P D vwCl [(m0, .inr (3, [.ref m1, .ref m2, .ref m3, .ref m4, .int (nI (sd + 1)), .ref m5, .ref m6, .ref m7, .int (nI fl), .ref m8, .int (nI sl), .ref m9, .int (nI fc), .ref ma, .int (nI sc), .ref mb])), (m1, .inl (cI, 422, .inl St)), (m2, .inl (cI, 844, .inl Im)), (m3, .inl (cZ, 2, .inl Kp)), (m4, .inl (cI, 8, .inl (upd Pd sd x))), (m5, .inl (cI, 12, .inl Ow)), (m6, .inl (cI, 16, .inl Nb)), (m7, .inl (cI, 8, .inl Fi)), (m8, .inl (cI, 8, .inl Se)), (m9, .inl (cI, 4, .inl Fs)), (ma, .inl (cI, 4, .inl Ss)), (mb, .inl (cI, 81, .inl Co))] H := hP
      refine lv_aload_n hx hb dX3_say_46 rfl (lv_at hl 0 rfl) ?_
      refine va_get (D := D) (ci := 3) (v := .int (nI (sd + 1))) (C := RX3) (T := TX3) (N := 16) hx hb hts ih_X3_say_X3 hown hK.1 hP 0 rfl rfl 4 (by decide) (hts (.fieldLink RX3 48 "ParishNamesModel" "said" "I") (by decide +kernel)) (fun _ h9 => h9) rfl dX3_say_47 ?_
      exact W.iret hx hb hr (fun t ht hW => ⟨⟨_, [(m0, .inr (3, [.ref m1, .ref m2, .ref m3, .ref m4, .int (nI (sd + 1)), .ref m5, .ref m6, .ref m7, .int (nI fl), .ref m8, .int (nI sl), .ref m9, .int (nI fc), .ref ma, .int (nI sc), .ref mb])), (m1, .inl (cI, 422, .inl St)), (m2, .inl (cI, 844, .inl Im)), (m3, .inl (cZ, 2, .inl Kp)), (m4, .inl (cI, 8, .inl (upd Pd sd x))), (m5, .inl (cI, 12, .inl Ow)), (m6, .inl (cI, 16, .inl Nb)), (m7, .inl (cI, 8, .inl Fi)), (m8, .inl (cI, 8, .inl Se)), (m9, .inl (cI, 4, .inl Fs)), (ma, .inl (cI, 4, .inl Ss)), (mb, .inl (cI, 81, .inl Co))], rfl, (Or.inr ⟨(pn_in (fun q => (pn_sayI.mpr q) b8)).trans (pn_in (by rw [← hpd.1]; omega)), by rw [← hpd.1], ⟨_, _, _, _, _, _, _, _, _, _, _, rfl⟩⟩), pn_atH ht hP⟩, hS.F ht⟩) hS.2.2 dX3_say_50 hlocks
    · have b20 : sd = 8 := (pn_eq (by omega) (by omega)).mp (show nI sd = nI 8 from b20)
      refine lv_bipush (v := (-4)) hx hb dX3_say_23 (by decide) ?_
      exact W.iret hx hb hr (fun t ht hW => ⟨⟨_, [(m0, .inr (3, [.ref m1, .ref m2, .ref m3, .ref m4, .int (nI sd), .ref m5, .ref m6, .ref m7, .int (nI fl), .ref m8, .int (nI sl), .ref m9, .int (nI fc), .ref ma, .int (nI sc), .ref mb])), (m1, .inl (cI, 422, .inl St)), (m2, .inl (cI, 844, .inl Im)), (m3, .inl (cZ, 2, .inl Kp)), (m4, .inl (cI, 8, .inl Pd)), (m5, .inl (cI, 12, .inl Ow)), (m6, .inl (cI, 16, .inl Nb)), (m7, .inl (cI, 8, .inl Fi)), (m8, .inl (cI, 8, .inl Se)), (m9, .inl (cI, 4, .inl Fs)), (ma, .inl (cI, 4, .inl Ss)), (mb, .inl (cI, 81, .inl Co))], rfl, (Or.inl ⟨(pn_in (fun q => (pn_sayI.mpr q) b8)).trans (pn_ip (by rw [← hpd.1]; omega)), ⟨_, _, _, _, _, _, _, _, _, _, _, rfl⟩⟩), pn_atH ht hP⟩, hS.F ht⟩) hS.2.2 dX3_say_25 hlocks
  · have b8 : ¬ (¬ x < (nI 97) ∧ ¬ (nI 122) < x) := pn_b0.mp b8
    refine lv_bipush (v := (-2)) hx hb dX3_say_11 (by decide) ?_
    exact W.iret hx hb hr (fun t ht hW => ⟨⟨_, [(m0, .inr (3, [.ref m1, .ref m2, .ref m3, .ref m4, .int (nI sd), .ref m5, .ref m6, .ref m7, .int (nI fl), .ref m8, .int (nI sl), .ref m9, .int (nI fc), .ref ma, .int (nI sc), .ref mb])), (m1, .inl (cI, 422, .inl St)), (m2, .inl (cI, 844, .inl Im)), (m3, .inl (cZ, 2, .inl Kp)), (m4, .inl (cI, 8, .inl Pd)), (m5, .inl (cI, 12, .inl Ow)), (m6, .inl (cI, 16, .inl Nb)), (m7, .inl (cI, 8, .inl Fi)), (m8, .inl (cI, 8, .inl Se)), (m9, .inl (cI, 4, .inl Fs)), (ma, .inl (cI, 4, .inl Ss)), (mb, .inl (cI, 81, .inl Co))], rfl, (Or.inl ⟨pn_ip (pn_sayI.mp b8), ⟨_, _, _, _, _, _, _, _, _, _, _, rfl⟩⟩), pn_atH ht hP⟩, hS.F ht⟩) hS.2.2 dX3_say_13 hlocks

theorem ih_X3_wipe_X3 : ∀ w ∈ wsX30, w ∈ wsX3_wipe := by decide +kernel
set_option maxHeartbeats 4000000 in
set_option maxRecDepth 100000 in
theorem c_X3_wipe (l : Launch) (D : va_G) (cI cL cZ cO : ClassId) (m0 m1 m2 m3 m4 m5 m6 m7 m8 m9 ma mb : Nat) (St Im Kp Pd : Nat → Int32) (sd : Nat) (Ow Nb Fi : Nat → Int32) (fl : Nat) (Se : Nat → Int32) (sl : Nat) (Fs : Nat → Int32) (fc : Nat) (Ss : Nat → Int32) (sc : Nat) (Co : Nat → Int32) (K Y P S O : Nat → Int32) (N : Nat → Int64) (n F : Nat) (pd : Int64) (hN : [m0, m1, m2, m3, m4, m5, m6, m7, m8, m9, ma, mb].Nodup) (hpd : pn_pad Pd sd pd) : Met l yX3_wipe wsX3_wipe ({ frames := 0, cells := 0, slots := 0, locals := 0 }) (va_Pc [.ref m0] (pn_Pr D cI cL cZ cO [(m0, .inr (3, [.ref m1, .ref m2, .ref m3, .ref m4, .int (nI sd), .ref m5, .ref m6, .ref m7, .int (nI fl), .ref m8, .int (nI sl), .ref m9, .int (nI fc), .ref ma, .int (nI sc), .ref mb])), (m1, .inl (cI, 422, .inl St)), (m2, .inl (cI, 844, .inl Im)), (m3, .inl (cZ, 2, .inl Kp)), (m4, .inl (cI, 8, .inl Pd)), (m5, .inl (cI, 12, .inl Ow)), (m6, .inl (cI, 16, .inl Nb)), (m7, .inl (cI, 8, .inl Fi)), (m8, .inl (cI, 8, .inl Se)), (m9, .inl (cI, 4, .inl Fs)), (ma, .inl (cI, 4, .inl Ss)), (mb, .inl (cI, 81, .inl Co))])) (va_Qi (fun r (u : va_W) => r = nI (pn_len pd) ∧ pn_isM cI cZ m0 m1 m2 m3 m4 m5 m6 m7 m8 m9 ma mb St Im Kp Pd 0 u) (fun (u : va_W) t => va_P D vwCl u t.heap) (pn_In [m0, m1, m2, m3, m4, m5, m6, m7, m8, m9, ma, mb])) 0 0 (pn_In [m0, m1, m2, m3, m4, m5, m6, m7, m8, m9, ma, mb]) := by
  refine pn_mk (by decide) rfl (Nat.le_of_ble_eq_true rfl) ?_
  intro p e s m below meth c ls hx hb hr hml hown hts hlocks hK hP hl
  have hown : s.vm.findClass RX3 = some m.cls := hown
  have hS : va_S (pn_In [m0, m1, m2, m3, m4, m5, m6, m7, m8, m9, ma, mb]) s.heap s.heap [] := va_S.rf
  have hl : lv_has ls 2 [(0, .ref m0)] := hl
  refine lv_aload_n hx hb dX3_wipe_0 rfl (lv_at hl 0 rfl) ?_
  refine va_get (D := D) (ci := 3) (v := .int (nI sd)) (C := RX3) (T := TX3) (N := 16) hx hb hts ih_X3_wipe_X3 hown hK.1 hP 0 rfl rfl 4 (by decide) (hts (.fieldLink RX3 48 "ParishNamesModel" "said" "I") (by decide +kernel)) (fun _ h9 => h9) rfl dX3_wipe_1 ?_
  refine lv_istore_n (lv' := [(1, .int (nI sd)), (0, .ref m0)]) hx hb dX3_wipe_4 rfl hl (by decide) rfl (fun ls hl => ?_)
  refine lv_aload_n hx hb dX3_wipe_5 rfl (lv_at hl 1 rfl) ?_
  refine lv_iconst (v := (nI 0)) hx hb dX3_wipe_6 (by decide) ?_
  refine va_put (D := D) (ci := 3) (v := .int (nI 0)) (ty := .int) (C := RX3) (T := TX3) (N := 16) hx hb hts ih_X3_wipe_X3 tyX3 tyX3_ok nmX3 hown hK.1 hP (pn_D hN rfl) hS 0 rfl rfl 4 (by decide) (hts (.fieldLink RX3 48 "ParishNamesModel" "said" "I") (by decide +kernel)) (fun _ h9 => h9) rfl (by decide +kernel) rfl rfl (Nat.le_of_ble_eq_true rfl) dX3_wipe_7 (fun H locs hP _ hS => ?_)
  have hP : va_P D vwCl [(m0, .inr (3, [.ref m1, .ref m2, .ref m3, .ref m4, .int (nI 0), .ref m5, .ref m6, .ref m7, .int (nI fl), .ref m8, .int (nI sl), .ref m9, .int (nI fc), .ref ma, .int (nI sc), .ref mb])), (m1, .inl (cI, 422, .inl St)), (m2, .inl (cI, 844, .inl Im)), (m3, .inl (cZ, 2, .inl Kp)), (m4, .inl (cI, 8, .inl Pd)), (m5, .inl (cI, 12, .inl Ow)), (m6, .inl (cI, 16, .inl Nb)), (m7, .inl (cI, 8, .inl Fi)), (m8, .inl (cI, 8, .inl Se)), (m9, .inl (cI, 4, .inl Fs)), (ma, .inl (cI, 4, .inl Ss)), (mb, .inl (cI, 81, .inl Co))] H := hP
  refine lv_iload_n hx hb dX3_wipe_10 rfl (lv_at hl 0 rfl) ?_
  exact W.iret hx hb hr (fun t ht hW => ⟨⟨_, [(m0, .inr (3, [.ref m1, .ref m2, .ref m3, .ref m4, .int (nI 0), .ref m5, .ref m6, .ref m7, .int (nI fl), .ref m8, .int (nI sl), .ref m9, .int (nI fc), .ref ma, .int (nI sc), .ref mb])), (m1, .inl (cI, 422, .inl St)), (m2, .inl (cI, 844, .inl Im)), (m3, .inl (cZ, 2, .inl Kp)), (m4, .inl (cI, 8, .inl Pd)), (m5, .inl (cI, 12, .inl Ow)), (m6, .inl (cI, 16, .inl Nb)), (m7, .inl (cI, 8, .inl Fi)), (m8, .inl (cI, 8, .inl Se)), (m9, .inl (cI, 4, .inl Fs)), (ma, .inl (cI, 4, .inl Ss)), (mb, .inl (cI, 81, .inl Co))], rfl, ⟨by rw [← hpd.1], ⟨_, _, _, _, _, _, _, _, _, _, _, rfl⟩⟩, pn_atH ht hP⟩, hS.F ht⟩) hS.2.2 dX3_wipe_11 hlocks
