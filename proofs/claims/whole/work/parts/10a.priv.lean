set_option maxHeartbeats 4000000 in
set_option maxRecDepth 100000 in
theorem c_X2_isYear (l : Launch) (D : va_G) (cI cL cZ cO : ClassId)  (yy : Int32) : Met l yX2_isYear wsX2_isYear ({ frames := 0, cells := 0, slots := 0, locals := 0 }) (va_Pc [.int yy] (pn_Pr D cI cL cZ cO [])) (va_Qi (fun r (_ : Unit) => r = (pn_b (pn_yr yy))) (fun _ _ => True) pn_No) 0 0 pn_No := by
  refine pn_mk (by decide) rfl (Nat.le_of_ble_eq_true rfl) ?_
  intro p e s m below meth c ls hx hb hr hml hown hts hlocks hK hP hl
  have hown : s.vm.findClass RX2 = some m.cls := hown
  have hS : va_S pn_No s.heap s.heap [] := va_S.rf
  have hl : lv_has ls 1 [(0, .int yy)] := hl
  refine lv_iload_n hx hb dX2_isYear_0 rfl (lv_at hl 0 rfl) ?_
  refine lv_if_lt (tgt := 15) hx hb dX2_isYear_1 (by decide) (fun b1 => ?_) (fun b1 => ?_)
  · refine lv_iconst (v := (nI 0)) hx hb dX2_isYear_15 (by decide) ?_
    exact W.zret hx hb hr (by decide) (fun t ht hW => ⟨⟨_, (), rfl, (by first | exact pn_bt ⟨b1, b8⟩ | exact pn_bf (fun q => q.1 b1) | exact pn_bf (fun q => q.2 b8)), trivial⟩, hS.F ht⟩) hS.2.2 dX2_isYear_16 hlocks
  · refine lv_iload_n hx hb dX2_isYear_4 rfl (lv_at hl 0 rfl) ?_
    refine lv_sipush (v := (nI 999)) hx hb dX2_isYear_5 (by decide) ?_
    refine lv_icmp_gt (tgt := 15) hx hb dX2_isYear_8 (by decide) (fun b8 => ?_) (fun b8 => ?_)
    · refine lv_iconst (v := (nI 0)) hx hb dX2_isYear_15 (by decide) ?_
      exact W.zret hx hb hr (by decide) (fun t ht hW => ⟨⟨_, (), rfl, (by first | exact pn_bt ⟨b1, b8⟩ | exact pn_bf (fun q => q.1 b1) | exact pn_bf (fun q => q.2 b8)), trivial⟩, hS.F ht⟩) hS.2.2 dX2_isYear_16 hlocks
    · refine lv_iconst (v := (nI 1)) hx hb dX2_isYear_11 (by decide) ?_
      refine lv_goto (tgt := 16) hx hb dX2_isYear_12 (by decide) ?_
      exact W.zret hx hb hr (by decide) (fun t ht hW => ⟨⟨_, (), rfl, (by first | exact pn_bt ⟨b1, b8⟩ | exact pn_bf (fun q => q.1 b1) | exact pn_bf (fun q => q.2 b8)), trivial⟩, hS.F ht⟩) hS.2.2 dX2_isYear_16 hlocks

set_option maxHeartbeats 4000000 in
set_option maxRecDepth 100000 in
theorem c_X2_isSite (l : Launch) (D : va_G) (cI cL cZ cO : ClassId)  (tt : Int32) : Met l yX2_isSite wsX2_isSite ({ frames := 0, cells := 0, slots := 0, locals := 0 }) (va_Pc [.int tt] (pn_Pr D cI cL cZ cO [])) (va_Qi (fun r (_ : Unit) => r = (pn_b (pn_si tt))) (fun _ _ => True) pn_No) 0 0 pn_No := by
  refine pn_mk (by decide) rfl (Nat.le_of_ble_eq_true rfl) ?_
  intro p e s m below meth c ls hx hb hr hml hown hts hlocks hK hP hl
  have hown : s.vm.findClass RX2 = some m.cls := hown
  have hS : va_S pn_No s.heap s.heap [] := va_S.rf
  have hl : lv_has ls 1 [(0, .int tt)] := hl
  refine lv_iload_n hx hb dX2_isSite_0 rfl (lv_at hl 0 rfl) ?_
  refine lv_if_lt (tgt := 14) hx hb dX2_isSite_1 (by decide) (fun b1 => ?_) (fun b1 => ?_)
  · refine lv_iconst (v := (nI 0)) hx hb dX2_isSite_14 (by decide) ?_
    exact W.zret hx hb hr (by decide) (fun t ht hW => ⟨⟨_, (), rfl, (by first | exact pn_bt ⟨b1, b7⟩ | exact pn_bf (fun q => q.1 b1) | exact pn_bf (fun q => q.2 b7)), trivial⟩, hS.F ht⟩) hS.2.2 dX2_isSite_15 hlocks
  · refine lv_iload_n hx hb dX2_isSite_4 rfl (lv_at hl 0 rfl) ?_
    refine lv_bipush (v := (nI 12)) hx hb dX2_isSite_5 (by decide) ?_
    refine lv_icmp_ge (tgt := 14) hx hb dX2_isSite_7 (by decide) (fun b7 => ?_) (fun b7 => ?_)
    · refine lv_iconst (v := (nI 0)) hx hb dX2_isSite_14 (by decide) ?_
      exact W.zret hx hb hr (by decide) (fun t ht hW => ⟨⟨_, (), rfl, (by first | exact pn_bt ⟨b1, b7⟩ | exact pn_bf (fun q => q.1 b1) | exact pn_bf (fun q => q.2 b7)), trivial⟩, hS.F ht⟩) hS.2.2 dX2_isSite_15 hlocks
    · refine lv_iconst (v := (nI 1)) hx hb dX2_isSite_10 (by decide) ?_
      refine lv_goto (tgt := 15) hx hb dX2_isSite_11 (by decide) ?_
      exact W.zret hx hb hr (by decide) (fun t ht hW => ⟨⟨_, (), rfl, (by first | exact pn_bt ⟨b1, b7⟩ | exact pn_bf (fun q => q.1 b1) | exact pn_bf (fun q => q.2 b7)), trivial⟩, hS.F ht⟩) hS.2.2 dX2_isSite_15 hlocks

set_option maxHeartbeats 4000000 in
set_option maxRecDepth 100000 in
theorem c_X2_isSetOfSites (l : Launch) (D : va_G) (cI cL cZ cO : ClassId)  (xx : Int32) : Met l yX2_isSetOfSites wsX2_isSetOfSites ({ frames := 0, cells := 0, slots := 0, locals := 0 }) (va_Pc [.int xx] (pn_Pr D cI cL cZ cO [])) (va_Qi (fun r (_ : Unit) => r = (pn_b (pn_se xx))) (fun _ _ => True) pn_No) 0 0 pn_No := by
  refine pn_mk (by decide) rfl (Nat.le_of_ble_eq_true rfl) ?_
  intro p e s m below meth c ls hx hb hr hml hown hts hlocks hK hP hl
  have hown : s.vm.findClass RX2 = some m.cls := hown
  have hS : va_S pn_No s.heap s.heap [] := va_S.rf
  have hl : lv_has ls 1 [(0, .int xx)] := hl
  refine lv_iload_n hx hb dX2_isSetOfSites_0 rfl (lv_at hl 0 rfl) ?_
  refine lv_if_lt (tgt := 15) hx hb dX2_isSetOfSites_1 (by decide) (fun b1 => ?_) (fun b1 => ?_)
  · refine lv_iconst (v := (nI 0)) hx hb dX2_isSetOfSites_15 (by decide) ?_
    exact W.zret hx hb hr (by decide) (fun t ht hW => ⟨⟨_, (), rfl, (by first | exact pn_bt ⟨b1, b8⟩ | exact pn_bf (fun q => q.1 b1) | exact pn_bf (fun q => q.2 b8)), trivial⟩, hS.F ht⟩) hS.2.2 dX2_isSetOfSites_16 hlocks
  · refine lv_iload_n hx hb dX2_isSetOfSites_4 rfl (lv_at hl 0 rfl) ?_
    refine lv_sipush (v := (nI 4095)) hx hb dX2_isSetOfSites_5 (by decide) ?_
    refine lv_icmp_gt (tgt := 15) hx hb dX2_isSetOfSites_8 (by decide) (fun b8 => ?_) (fun b8 => ?_)
    · refine lv_iconst (v := (nI 0)) hx hb dX2_isSetOfSites_15 (by decide) ?_
      exact W.zret hx hb hr (by decide) (fun t ht hW => ⟨⟨_, (), rfl, (by first | exact pn_bt ⟨b1, b8⟩ | exact pn_bf (fun q => q.1 b1) | exact pn_bf (fun q => q.2 b8)), trivial⟩, hS.F ht⟩) hS.2.2 dX2_isSetOfSites_16 hlocks
    · refine lv_iconst (v := (nI 1)) hx hb dX2_isSetOfSites_11 (by decide) ?_
      refine lv_goto (tgt := 16) hx hb dX2_isSetOfSites_12 (by decide) ?_
      exact W.zret hx hb hr (by decide) (fun t ht hW => ⟨⟨_, (), rfl, (by first | exact pn_bt ⟨b1, b8⟩ | exact pn_bf (fun q => q.1 b1) | exact pn_bf (fun q => q.2 b8)), trivial⟩, hS.F ht⟩) hS.2.2 dX2_isSetOfSites_16 hlocks

set_option maxHeartbeats 4000000 in
set_option maxRecDepth 100000 in
theorem c_X2_isHow (l : Launch) (D : va_G) (cI cL cZ cO : ClassId)  (xx : Int32) : Met l yX2_isHow wsX2_isHow ({ frames := 0, cells := 0, slots := 0, locals := 0 }) (va_Pc [.int xx] (pn_Pr D cI cL cZ cO [])) (va_Qi (fun r (_ : Unit) => r = (pn_b (pn_hw xx))) (fun _ _ => True) pn_No) 0 0 pn_No := by
  refine pn_mk (by decide) rfl (Nat.le_of_ble_eq_true rfl) ?_
  intro p e s m below meth c ls hx hb hr hml hown hts hlocks hK hP hl
  have hown : s.vm.findClass RX2 = some m.cls := hown
  have hS : va_S pn_No s.heap s.heap [] := va_S.rf
  have hl : lv_has ls 1 [(0, .int xx)] := hl
  refine lv_iload_n hx hb dX2_isHow_0 rfl (lv_at hl 0 rfl) ?_
  refine lv_if_lt (tgt := 13) hx hb dX2_isHow_1 (by decide) (fun b1 => ?_) (fun b1 => ?_)
  · refine lv_iconst (v := (nI 0)) hx hb dX2_isHow_13 (by decide) ?_
    exact W.zret hx hb hr (by decide) (fun t ht hW => ⟨⟨_, (), rfl, (by first | exact pn_bt ⟨b1, b6⟩ | exact pn_bf (fun q => q.1 b1) | exact pn_bf (fun q => q.2 b6)), trivial⟩, hS.F ht⟩) hS.2.2 dX2_isHow_14 hlocks
  · refine lv_iload_n hx hb dX2_isHow_4 rfl (lv_at hl 0 rfl) ?_
    refine lv_iconst (v := (nI 2)) hx hb dX2_isHow_5 (by decide) ?_
    refine lv_icmp_gt (tgt := 13) hx hb dX2_isHow_6 (by decide) (fun b6 => ?_) (fun b6 => ?_)
    · refine lv_iconst (v := (nI 0)) hx hb dX2_isHow_13 (by decide) ?_
      exact W.zret hx hb hr (by decide) (fun t ht hW => ⟨⟨_, (), rfl, (by first | exact pn_bt ⟨b1, b6⟩ | exact pn_bf (fun q => q.1 b1) | exact pn_bf (fun q => q.2 b6)), trivial⟩, hS.F ht⟩) hS.2.2 dX2_isHow_14 hlocks
    · refine lv_iconst (v := (nI 1)) hx hb dX2_isHow_9 (by decide) ?_
      refine lv_goto (tgt := 14) hx hb dX2_isHow_10 (by decide) ?_
      exact W.zret hx hb hr (by decide) (fun t ht hW => ⟨⟨_, (), rfl, (by first | exact pn_bt ⟨b1, b6⟩ | exact pn_bf (fun q => q.1 b1) | exact pn_bf (fun q => q.2 b6)), trivial⟩, hS.F ht⟩) hS.2.2 dX2_isHow_14 hlocks

set_option maxHeartbeats 4000000 in
set_option maxRecDepth 100000 in
theorem c_X2_areYears (l : Launch) (D : va_G) (cI cL cZ cO : ClassId)  (ya : Int32) (yb : Int32) : Met l yX2_areYears wsX2_areYears ({ frames := 1, cells := 0, slots := 0, locals := 20 }) (va_Pc [.int ya, .int yb] (pn_Pr D cI cL cZ cO [])) (va_Qi (fun r (_ : Unit) => r = (pn_b (pn_ys ya yb))) (fun _ _ => True) pn_No) 0 0 pn_No := by
  refine pn_mk (by decide) rfl (Nat.le_of_ble_eq_true rfl) ?_
  intro p e s m below meth c ls hx hb hr hml hown hts hlocks hK hP hl
  have hown : s.vm.findClass RX2 = some m.cls := hown
  have hS : va_S pn_No s.heap s.heap [] := va_S.rf
  have hl : lv_has ls 2 [(0, .int ya), (1, .int yb)] := hl
  refine lv_iload_n hx hb dX2_areYears_0 rfl (lv_at hl 0 rfl) ?_
  refine pn_roi (w := []) hP hS (va_runS (As := [.int ya]) (rest := []) ⟨hx, hb, hml, hown, hts⟩ (c_X2_isYear l D cI cL cZ cO ya) (va_cwS 1 hts gX2_areYears_X2_isYear rfl rfl rfl (by decide +kernel) ⟨Nat.le_of_ble_eq_true rfl, Nat.le_of_ble_eq_true rfl⟩) (pn_ps (WS := []) (fun k q h => by simp at h) hK) rfl rfl hl.1 rfl (lv_room (Nat.le_of_ble_eq_true rfl)) dX2_areYears_1 ⟨Nat.le_of_ble_eq_true rfl, Nat.le_of_ble_eq_true rfl⟩) (fun H locs hP hS => ?_)
  refine lv_if_eq (tgt := 23) hx hb dX2_areYears_4 (by decide) (fun b4 => ?_) (fun b4 => ?_)
  · have b4 : ¬ (pn_yr ya) := pn_b0.mp b4
    refine lv_iconst (v := (nI 0)) hx hb dX2_areYears_23 (by decide) ?_
    exact W.zret hx hb hr (by decide) (fun t ht hW => ⟨⟨_, (), rfl, (by first | exact pn_bt ⟨b4, b11, b16⟩ | exact pn_bf (fun q => b4 q.1) | exact pn_bf (fun q => b11 q.2.1) | exact pn_bf (fun q => q.2.2 b16)), trivial⟩, hS.F ht⟩) hS.2.2 dX2_areYears_24 hlocks
  · have b4 : pn_yr ya := pn_b1.mp b4
    refine lv_iload_n hx hb dX2_areYears_7 rfl (lv_at hl 1 rfl) ?_
    refine pn_roi (w := []) hP hS (va_runS (As := [.int yb]) (rest := []) ⟨hx, hb, hml, hown, hts⟩ (c_X2_isYear l D cI cL cZ cO yb) (va_cwS 1 hts gX2_areYears_X2_isYear rfl rfl rfl (by decide +kernel) ⟨Nat.le_of_ble_eq_true rfl, Nat.le_of_ble_eq_true rfl⟩) (pn_ps (WS := []) (fun k q h => by simp at h) hK) rfl rfl hl.1 rfl (lv_room (Nat.le_of_ble_eq_true rfl)) dX2_areYears_8 ⟨Nat.le_of_ble_eq_true rfl, Nat.le_of_ble_eq_true rfl⟩) (fun H locs hP hS => ?_)
    refine lv_if_eq (tgt := 23) hx hb dX2_areYears_11 (by decide) (fun b11 => ?_) (fun b11 => ?_)
    · have b11 : ¬ (pn_yr yb) := pn_b0.mp b11
      refine lv_iconst (v := (nI 0)) hx hb dX2_areYears_23 (by decide) ?_
      exact W.zret hx hb hr (by decide) (fun t ht hW => ⟨⟨_, (), rfl, (by first | exact pn_bt ⟨b4, b11, b16⟩ | exact pn_bf (fun q => b4 q.1) | exact pn_bf (fun q => b11 q.2.1) | exact pn_bf (fun q => q.2.2 b16)), trivial⟩, hS.F ht⟩) hS.2.2 dX2_areYears_24 hlocks
    · have b11 : pn_yr yb := pn_b1.mp b11
      refine lv_iload_n hx hb dX2_areYears_14 rfl (lv_at hl 0 rfl) ?_
      refine lv_iload_n hx hb dX2_areYears_15 rfl (lv_at hl 1 rfl) ?_
      refine lv_icmp_gt (tgt := 23) hx hb dX2_areYears_16 (by decide) (fun b16 => ?_) (fun b16 => ?_)
      · refine lv_iconst (v := (nI 0)) hx hb dX2_areYears_23 (by decide) ?_
        exact W.zret hx hb hr (by decide) (fun t ht hW => ⟨⟨_, (), rfl, (by first | exact pn_bt ⟨b4, b11, b16⟩ | exact pn_bf (fun q => b4 q.1) | exact pn_bf (fun q => b11 q.2.1) | exact pn_bf (fun q => q.2.2 b16)), trivial⟩, hS.F ht⟩) hS.2.2 dX2_areYears_24 hlocks
      · refine lv_iconst (v := (nI 1)) hx hb dX2_areYears_19 (by decide) ?_
        refine lv_goto (tgt := 24) hx hb dX2_areYears_20 (by decide) ?_
        exact W.zret hx hb hr (by decide) (fun t ht hW => ⟨⟨_, (), rfl, (by first | exact pn_bt ⟨b4, b11, b16⟩ | exact pn_bf (fun q => b4 q.1) | exact pn_bf (fun q => b11 q.2.1) | exact pn_bf (fun q => q.2.2 b16)), trivial⟩, hS.F ht⟩) hS.2.2 dX2_areYears_24 hlocks

set_option maxHeartbeats 4000000 in
set_option maxRecDepth 100000 in
theorem c_X2_isProperPart (l : Launch) (D : va_G) (cI cL cZ cO : ClassId)  (xx : Int32) (ww : Int32) : Met l yX2_isProperPart wsX2_isProperPart ({ frames := 0, cells := 0, slots := 0, locals := 0 }) (va_Pc [.int xx, .int ww] (pn_Pr D cI cL cZ cO [])) (va_Qi (fun r (_ : Unit) => r = (pn_b (pn_pp xx ww))) (fun _ _ => True) pn_No) 0 0 pn_No := by
  refine pn_mk (by decide) rfl (Nat.le_of_ble_eq_true rfl) ?_
  intro p e s m below meth c ls hx hb hr hml hown hts hlocks hK hP hl
  have hown : s.vm.findClass RX2 = some m.cls := hown
  have hS : va_S pn_No s.heap s.heap [] := va_S.rf
  have hl : lv_has ls 2 [(0, .int xx), (1, .int ww)] := hl
  refine lv_iload_n hx hb dX2_isProperPart_0 rfl (lv_at hl 0 rfl) ?_
  refine lv_if_eq (tgt := 21) hx hb dX2_isProperPart_1 (by decide) (fun b1 => ?_) (fun b1 => ?_)
  · refine lv_iconst (v := (nI 0)) hx hb dX2_isProperPart_21 (by decide) ?_
    exact W.zret hx hb hr (by decide) (fun t ht hW => ⟨⟨_, (), rfl, (by first | exact pn_bt ⟨b1, b9, b14⟩ | exact pn_bf (fun q => q.1 b1) | exact pn_bf (fun q => b9 q.2.1) | exact pn_bf (fun q => q.2.2 b14)), trivial⟩, hS.F ht⟩) hS.2.2 dX2_isProperPart_22 hlocks
  · refine lv_iload_n hx hb dX2_isProperPart_4 rfl (lv_at hl 0 rfl) ?_
    refine lv_iload_n hx hb dX2_isProperPart_5 rfl (lv_at hl 1 rfl) ?_
    refine lv_iconst (v := (-1)) hx hb dX2_isProperPart_6 (by decide) ?_
    refine lv_ixor hx hb dX2_isProperPart_7 ?_
    refine lv_iand hx hb dX2_isProperPart_8 ?_
    refine lv_if_ne (tgt := 21) hx hb dX2_isProperPart_9 (by decide) (fun b9 => ?_) (fun b9 => ?_)
    · refine lv_iconst (v := (nI 0)) hx hb dX2_isProperPart_21 (by decide) ?_
      exact W.zret hx hb hr (by decide) (fun t ht hW => ⟨⟨_, (), rfl, (by first | exact pn_bt ⟨b1, b9, b14⟩ | exact pn_bf (fun q => q.1 b1) | exact pn_bf (fun q => b9 q.2.1) | exact pn_bf (fun q => q.2.2 b14)), trivial⟩, hS.F ht⟩) hS.2.2 dX2_isProperPart_22 hlocks
    · refine lv_iload_n hx hb dX2_isProperPart_12 rfl (lv_at hl 0 rfl) ?_
      refine lv_iload_n hx hb dX2_isProperPart_13 rfl (lv_at hl 1 rfl) ?_
      refine lv_icmp_eq (tgt := 21) hx hb dX2_isProperPart_14 (by decide) (fun b14 => ?_) (fun b14 => ?_)
      · refine lv_iconst (v := (nI 0)) hx hb dX2_isProperPart_21 (by decide) ?_
        exact W.zret hx hb hr (by decide) (fun t ht hW => ⟨⟨_, (), rfl, (by first | exact pn_bt ⟨b1, b9, b14⟩ | exact pn_bf (fun q => q.1 b1) | exact pn_bf (fun q => b9 q.2.1) | exact pn_bf (fun q => q.2.2 b14)), trivial⟩, hS.F ht⟩) hS.2.2 dX2_isProperPart_22 hlocks
      · refine lv_iconst (v := (nI 1)) hx hb dX2_isProperPart_17 (by decide) ?_
        refine lv_goto (tgt := 22) hx hb dX2_isProperPart_18 (by decide) ?_
        exact W.zret hx hb hr (by decide) (fun t ht hW => ⟨⟨_, (), rfl, (by first | exact pn_bt ⟨b1, b9, b14⟩ | exact pn_bf (fun q => q.1 b1) | exact pn_bf (fun q => b9 q.2.1) | exact pn_bf (fun q => q.2.2 b14)), trivial⟩, hS.F ht⟩) hS.2.2 dX2_isProperPart_22 hlocks

theorem ih_X2_padIsNoName_X2 : ∀ w ∈ wsX20, w ∈ wsX2_padIsNoName := by decide +kernel
set_option maxHeartbeats 4000000 in
set_option maxRecDepth 100000 in
theorem c_X2_padIsNoName (l : Launch) (D : va_G) (cI cL cZ cO : ClassId) (a0 kp : Nat) (h0 q1 q2 q3 q4 q5 q6 : Nat) (K Y P S O : Nat → Int32) (N : Nat → Int64) (n F : Nat) (g0 z1 z2 z3 z4 z5 z6 : Nat) (K2 Y2 P2 S2 O2 : Nat → Int32) (N2 : Nat → Int64) (n2 F2 : Nat) (w0 v1 v2 v3 v4 v5 v6 : Nat) (K3 Y3 P3 S3 O3 : Nat → Int32) (N3 : Nat → Int64) (n3 F3 : Nat) (y0 y1 : Nat) (Rw : Nat → Int32) (ks : Int32) (pd : Int64) : Met l yX2_padIsNoName wsX2_padIsNoName ({ frames := 0, cells := 0, slots := 0, locals := 0 }) (va_Pc [.ref a0] (pn_Pr D cI cL cZ cO [(a0, .inr (2, [.ref h0, .ref kp, .ref y0, .int ks, .long pd])), (kp, .inl (cO, 2, .inr (.inr (.inr (.inr (fun i => if i = 0 then some g0 else some w0)))))), (h0, .inr (0, [.ref q1, .ref q2, .ref q3, .ref q4, .ref q5, .ref q6, .int (nI n), .int (nI F)])), (q1, .inl (cI, 30, .inl K)), (q2, .inl (cI, 30, .inl Y)), (q3, .inl (cI, 30, .inl P)), (q4, .inl (cI, 30, .inl S)), (q5, .inl (cI, 30, .inl O)), (q6, .inl (cL, 30, .inr (.inl N))), (g0, .inr (0, [.ref z1, .ref z2, .ref z3, .ref z4, .ref z5, .ref z6, .int (nI n2), .int (nI F2)])), (z1, .inl (cI, 30, .inl K2)), (z2, .inl (cI, 30, .inl Y2)), (z3, .inl (cI, 30, .inl P2)), (z4, .inl (cI, 30, .inl S2)), (z5, .inl (cI, 30, .inl O2)), (z6, .inl (cL, 30, .inr (.inl N2))), (w0, .inr (0, [.ref v1, .ref v2, .ref v3, .ref v4, .ref v5, .ref v6, .int (nI n3), .int (nI F3)])), (v1, .inl (cI, 30, .inl K3)), (v2, .inl (cI, 30, .inl Y3)), (v3, .inl (cI, 30, .inl P3)), (v4, .inl (cI, 30, .inl S3)), (v5, .inl (cI, 30, .inl O3)), (v6, .inl (cL, 30, .inr (.inl N3))), (y0, .inr (1, [.ref y1])), (y1, .inl (cI, 9, .inl Rw))])) (va_Qi (fun r (_ : Unit) => r = (pn_b (pd = 0))) (fun _ _ => True) pn_No) 0 0 pn_No := by
  refine pn_mk (by decide) rfl (Nat.le_of_ble_eq_true rfl) ?_
  intro p e s m below meth c ls hx hb hr hml hown hts hlocks hK hP hl
  have hown : s.vm.findClass RX2 = some m.cls := hown
  have hS : va_S pn_No s.heap s.heap [] := va_S.rf
  have hl : lv_has ls 1 [(0, .ref a0)] := hl
  refine lv_aload_n hx hb dX2_padIsNoName_0 rfl (lv_at hl 0 rfl) ?_
  refine va_get (D := D) (ci := 2) (v := .long pd) (C := RX2) (T := TX2) (N := 5) hx hb hts ih_X2_padIsNoName_X2 hown hK.1 hP 0 rfl rfl 4 (by decide) (hts (.fieldLink RX2 31 "ParishNames" "pad" "J") (by decide +kernel)) (fun _ h9 => h9) rfl dX2_padIsNoName_1 ?_
  refine lv_lconst (v := 0) hx hb dX2_padIsNoName_4 (by decide) ?_
  refine W.lcmp hx hb dX2_padIsNoName_5 ?_
  refine lv_if_ne (tgt := 13) hx hb dX2_padIsNoName_6 (by decide) (fun b6 => ?_) (fun b6 => ?_)
  · have b6 : ¬ pd = 0 := fun h => b6 (pn_cmp0.mpr h)
    refine lv_iconst (v := (nI 0)) hx hb dX2_padIsNoName_13 (by decide) ?_
    exact W.zret hx hb hr (by decide) (fun t ht hW => ⟨⟨_, (), rfl, (by first | exact pn_bt b6 | exact pn_bf b6), trivial⟩, hS.F ht⟩) hS.2.2 dX2_padIsNoName_14 hlocks
  · have b6 : pd = 0 := pn_cmp0.mp b6
    refine lv_iconst (v := (nI 1)) hx hb dX2_padIsNoName_9 (by decide) ?_
    refine lv_goto (tgt := 14) hx hb dX2_padIsNoName_10 (by decide) ?_
    exact W.zret hx hb hr (by decide) (fun t ht hW => ⟨⟨_, (), rfl, (by first | exact pn_bt b6 | exact pn_bf b6), trivial⟩, hS.F ht⟩) hS.2.2 dX2_padIsNoName_14 hlocks

theorem ih_X2_takePad_X2 : ∀ w ∈ wsX20, w ∈ wsX2_takePad := by decide +kernel
set_option maxHeartbeats 4000000 in
set_option maxRecDepth 100000 in
theorem c_X2_takePad (l : Launch) (D : va_G) (cI cL cZ cO : ClassId) (a0 kp : Nat) (h0 q1 q2 q3 q4 q5 q6 : Nat) (K Y P S O : Nat → Int32) (N : Nat → Int64) (n F : Nat) (g0 z1 z2 z3 z4 z5 z6 : Nat) (K2 Y2 P2 S2 O2 : Nat → Int32) (N2 : Nat → Int64) (n2 F2 : Nat) (w0 v1 v2 v3 v4 v5 v6 : Nat) (K3 Y3 P3 S3 O3 : Nat → Int32) (N3 : Nat → Int64) (n3 F3 : Nat) (y0 y1 : Nat) (Rw : Nat → Int32) (ks : Int32) (pd : Int64) (hN : [a0, kp, h0, q1, q2, q3, q4, q5, q6, g0, z1, z2, z3, z4, z5, z6, w0, v1, v2, v3, v4, v5, v6, y0, y1].Nodup) : Met l yX2_takePad wsX2_takePad ({ frames := 0, cells := 0, slots := 0, locals := 0 }) (va_Pc [.ref a0] (pn_Pr D cI cL cZ cO [(a0, .inr (2, [.ref h0, .ref kp, .ref y0, .int ks, .long pd])), (kp, .inl (cO, 2, .inr (.inr (.inr (.inr (fun i => if i = 0 then some g0 else some w0)))))), (h0, .inr (0, [.ref q1, .ref q2, .ref q3, .ref q4, .ref q5, .ref q6, .int (nI n), .int (nI F)])), (q1, .inl (cI, 30, .inl K)), (q2, .inl (cI, 30, .inl Y)), (q3, .inl (cI, 30, .inl P)), (q4, .inl (cI, 30, .inl S)), (q5, .inl (cI, 30, .inl O)), (q6, .inl (cL, 30, .inr (.inl N))), (g0, .inr (0, [.ref z1, .ref z2, .ref z3, .ref z4, .ref z5, .ref z6, .int (nI n2), .int (nI F2)])), (z1, .inl (cI, 30, .inl K2)), (z2, .inl (cI, 30, .inl Y2)), (z3, .inl (cI, 30, .inl P2)), (z4, .inl (cI, 30, .inl S2)), (z5, .inl (cI, 30, .inl O2)), (z6, .inl (cL, 30, .inr (.inl N2))), (w0, .inr (0, [.ref v1, .ref v2, .ref v3, .ref v4, .ref v5, .ref v6, .int (nI n3), .int (nI F3)])), (v1, .inl (cI, 30, .inl K3)), (v2, .inl (cI, 30, .inl Y3)), (v3, .inl (cI, 30, .inl P3)), (v4, .inl (cI, 30, .inl S3)), (v5, .inl (cI, 30, .inl O3)), (v6, .inl (cL, 30, .inr (.inl N3))), (y0, .inr (1, [.ref y1])), (y1, .inl (cI, 9, .inl Rw))])) (va_Ql (fun r (_ : Unit) => r = pd) (fun (_ : Unit) t => va_P D vwCl [(a0, .inr (2, [.ref h0, .ref kp, .ref y0, .int ks, .long 0])), (kp, .inl (cO, 2, .inr (.inr (.inr (.inr (fun i => if i = 0 then some g0 else some w0)))))), (h0, .inr (0, [.ref q1, .ref q2, .ref q3, .ref q4, .ref q5, .ref q6, .int (nI n), .int (nI F)])), (q1, .inl (cI, 30, .inl K)), (q2, .inl (cI, 30, .inl Y)), (q3, .inl (cI, 30, .inl P)), (q4, .inl (cI, 30, .inl S)), (q5, .inl (cI, 30, .inl O)), (q6, .inl (cL, 30, .inr (.inl N))), (g0, .inr (0, [.ref z1, .ref z2, .ref z3, .ref z4, .ref z5, .ref z6, .int (nI n2), .int (nI F2)])), (z1, .inl (cI, 30, .inl K2)), (z2, .inl (cI, 30, .inl Y2)), (z3, .inl (cI, 30, .inl P2)), (z4, .inl (cI, 30, .inl S2)), (z5, .inl (cI, 30, .inl O2)), (z6, .inl (cL, 30, .inr (.inl N2))), (w0, .inr (0, [.ref v1, .ref v2, .ref v3, .ref v4, .ref v5, .ref v6, .int (nI n3), .int (nI F3)])), (v1, .inl (cI, 30, .inl K3)), (v2, .inl (cI, 30, .inl Y3)), (v3, .inl (cI, 30, .inl P3)), (v4, .inl (cI, 30, .inl S3)), (v5, .inl (cI, 30, .inl O3)), (v6, .inl (cL, 30, .inr (.inl N3))), (y0, .inr (1, [.ref y1])), (y1, .inl (cI, 9, .inl Rw))] t.heap) (pn_In [a0, kp, h0, q1, q2, q3, q4, q5, q6, g0, z1, z2, z3, z4, z5, z6, w0, v1, v2, v3, v4, v5, v6, y0, y1])) 0 0 (pn_In [a0, kp, h0, q1, q2, q3, q4, q5, q6, g0, z1, z2, z3, z4, z5, z6, w0, v1, v2, v3, v4, v5, v6, y0, y1]) := by
  refine pn_mk (by decide) rfl (Nat.le_of_ble_eq_true rfl) ?_
  intro p e s m below meth c ls hx hb hr hml hown hts hlocks hK hP hl
  have hown : s.vm.findClass RX2 = some m.cls := hown
  have hS : va_S (pn_In [a0, kp, h0, q1, q2, q3, q4, q5, q6, g0, z1, z2, z3, z4, z5, z6, w0, v1, v2, v3, v4, v5, v6, y0, y1]) s.heap s.heap [] := va_S.rf
  have hl : lv_has ls 3 [(0, .ref a0)] := hl
  refine lv_aload_n hx hb dX2_takePad_0 rfl (lv_at hl 0 rfl) ?_
  refine va_get (D := D) (ci := 2) (v := .long pd) (C := RX2) (T := TX2) (N := 5) hx hb hts ih_X2_takePad_X2 hown hK.1 hP 0 rfl rfl 4 (by decide) (hts (.fieldLink RX2 31 "ParishNames" "pad" "J") (by decide +kernel)) (fun _ h9 => h9) rfl dX2_takePad_1 ?_
  refine lv_lstore_n (lv' := [(1, .long pd), (0, .ref a0)]) hx hb dX2_takePad_4 rfl hl (by decide) rfl (fun ls hl => ?_)
  refine lv_aload_n hx hb dX2_takePad_5 rfl (lv_at hl 1 rfl) ?_
  refine lv_lconst (v := 0) hx hb dX2_takePad_6 (by decide) ?_
  refine va_put (D := D) (ci := 2) (v := .long 0) (ty := .long) (C := RX2) (T := TX2) (N := 5) hx hb hts ih_X2_takePad_X2 tyX2 tyX2_ok nmX2 hown hK.1 hP (pn_D hN rfl) hS 0 rfl rfl 4 (by decide) (hts (.fieldLink RX2 31 "ParishNames" "pad" "J") (by decide +kernel)) (fun _ h9 => h9) rfl (by decide +kernel) rfl rfl (Nat.le_of_ble_eq_true rfl) dX2_takePad_7 (fun H locs hP _ hS => ?_)
  have hP : va_P D vwCl [(a0, .inr (2, [.ref h0, .ref kp, .ref y0, .int ks, .long 0])), (kp, .inl (cO, 2, .inr (.inr (.inr (.inr (fun i => if i = 0 then some g0 else some w0)))))), (h0, .inr (0, [.ref q1, .ref q2, .ref q3, .ref q4, .ref q5, .ref q6, .int (nI n), .int (nI F)])), (q1, .inl (cI, 30, .inl K)), (q2, .inl (cI, 30, .inl Y)), (q3, .inl (cI, 30, .inl P)), (q4, .inl (cI, 30, .inl S)), (q5, .inl (cI, 30, .inl O)), (q6, .inl (cL, 30, .inr (.inl N))), (g0, .inr (0, [.ref z1, .ref z2, .ref z3, .ref z4, .ref z5, .ref z6, .int (nI n2), .int (nI F2)])), (z1, .inl (cI, 30, .inl K2)), (z2, .inl (cI, 30, .inl Y2)), (z3, .inl (cI, 30, .inl P2)), (z4, .inl (cI, 30, .inl S2)), (z5, .inl (cI, 30, .inl O2)), (z6, .inl (cL, 30, .inr (.inl N2))), (w0, .inr (0, [.ref v1, .ref v2, .ref v3, .ref v4, .ref v5, .ref v6, .int (nI n3), .int (nI F3)])), (v1, .inl (cI, 30, .inl K3)), (v2, .inl (cI, 30, .inl Y3)), (v3, .inl (cI, 30, .inl P3)), (v4, .inl (cI, 30, .inl S3)), (v5, .inl (cI, 30, .inl O3)), (v6, .inl (cL, 30, .inr (.inl N3))), (y0, .inr (1, [.ref y1])), (y1, .inl (cI, 9, .inl Rw))] H := hP
  refine lv_lload_n hx hb dX2_takePad_10 rfl (lv_at hl 0 rfl) ?_
  exact W.lret hx hb hr (fun t ht hW => ⟨⟨_, (), rfl, rfl, pn_atH ht hP⟩, hS.F ht⟩) hS.2.2 dX2_takePad_11 hlocks

theorem ih_X2_spanFact_X2 : ∀ w ∈ wsX20, w ∈ wsX2_spanFact := by decide +kernel
set_option maxHeartbeats 4000000 in
set_option maxRecDepth 100000 in
theorem c_X2_spanFact (l : Launch) (D : va_G) (cI cL cZ cO : ClassId) (a0 kp : Nat) (h0 q1 q2 q3 q4 q5 q6 : Nat) (K Y P S O : Nat → Int32) (N : Nat → Int64) (n F : Nat) (g0 z1 z2 z3 z4 z5 z6 : Nat) (K2 Y2 P2 S2 O2 : Nat → Int32) (N2 : Nat → Int64) (n2 F2 : Nat) (w0 v1 v2 v3 v4 v5 v6 : Nat) (K3 Y3 P3 S3 O3 : Nat → Int32) (N3 : Nat → Int64) (n3 F3 : Nat) (y0 y1 : Nat) (Rw : Nat → Int32) (ks : Int32) (pd : Int64) (t : Nat) (g : Nat) (nx : Nat) (wh : Nat) (hn : n ≤ 30) (hg : g ≤ n) (hx1 : nx ≤ n + 1) (hw : wh ≤ 2) : Met l yX2_spanFact wsX2_spanFact ({ frames := 2, cells := 0, slots := 0, locals := 45 }) (va_Pc [.ref a0, .int (nI t), .int (nI g), .int (nI nx), .int (nI wh)] (pn_Pr D cI cL cZ cO [(a0, .inr (2, [.ref h0, .ref kp, .ref y0, .int ks, .long pd])), (kp, .inl (cO, 2, .inr (.inr (.inr (.inr (fun i => if i = 0 then some g0 else some w0)))))), (h0, .inr (0, [.ref q1, .ref q2, .ref q3, .ref q4, .ref q5, .ref q6, .int (nI n), .int (nI F)])), (q1, .inl (cI, 30, .inl K)), (q2, .inl (cI, 30, .inl Y)), (q3, .inl (cI, 30, .inl P)), (q4, .inl (cI, 30, .inl S)), (q5, .inl (cI, 30, .inl O)), (q6, .inl (cL, 30, .inr (.inl N))), (g0, .inr (0, [.ref z1, .ref z2, .ref z3, .ref z4, .ref z5, .ref z6, .int (nI n2), .int (nI F2)])), (z1, .inl (cI, 30, .inl K2)), (z2, .inl (cI, 30, .inl Y2)), (z3, .inl (cI, 30, .inl P2)), (z4, .inl (cI, 30, .inl S2)), (z5, .inl (cI, 30, .inl O2)), (z6, .inl (cL, 30, .inr (.inl N2))), (w0, .inr (0, [.ref v1, .ref v2, .ref v3, .ref v4, .ref v5, .ref v6, .int (nI n3), .int (nI F3)])), (v1, .inl (cI, 30, .inl K3)), (v2, .inl (cI, 30, .inl Y3)), (v3, .inl (cI, 30, .inl P3)), (v4, .inl (cI, 30, .inl S3)), (v5, .inl (cI, 30, .inl O3)), (v6, .inl (cL, 30, .inr (.inl N3))), (y0, .inr (1, [.ref y1])), (y1, .inl (cI, 9, .inl Rw))])) (va_Qi (fun r (_ : Unit) => r = (pn_sf Y S O n t g nx wh)) (fun _ _ => True) pn_No) 0 0 pn_No := by
  refine pn_mk (by decide) rfl (Nat.le_of_ble_eq_true rfl) ?_
  intro p e s m below meth c ls hx hb hr hml hown hts hlocks hK hP hl
  have hown : s.vm.findClass RX2 = some m.cls := hown
  have hS : va_S pn_No s.heap s.heap [] := va_S.rf
  have hl : lv_has ls 5 [(0, .ref a0), (1, .int (nI t)), (2, .int (nI g)), (3, .int (nI nx)), (4, .int (nI wh))] := hl
  refine lv_iload hx hb dX2_spanFact_0 (lv_at hl 4 rfl) ?_
  refine lv_if_ne (tgt := 14) hx hb dX2_spanFact_2 (by decide) (fun b2 => ?_) (fun b2 => ?_)
  · have b2 : ¬ wh = 0 := fun h => (show ¬ nI wh = nI 0 from b2) ((pn_eq (by omega) (by omega)).mpr h)
    refine lv_iload hx hb dX2_spanFact_14 (lv_at hl 4 rfl) ?_
    refine lv_iconst (v := (nI 2)) hx hb dX2_spanFact_16 (by decide) ?_
    refine lv_icmp_ne (tgt := 30) hx hb dX2_spanFact_17 (by decide) (fun b17 => ?_) (fun b17 => ?_)
    · have b17 : ¬ wh = 2 := fun h => (show ¬ nI wh = nI 2 from b17) ((pn_eq (by omega) (by omega)).mpr h)
      refine lv_iload_n hx hb dX2_spanFact_30 rfl (lv_at hl 3 rfl) ?_
      refine lv_aload_n hx hb dX2_spanFact_31 rfl (lv_at hl 0 rfl) ?_
      refine va_get (D := D) (ci := 2) (v := .ref h0) (C := RX2) (T := TX2) (N := 5) hx hb hts ih_X2_spanFact_X2 hown hK.1 hP 0 rfl rfl 0 (by decide) (hts (.fieldLink RX2 10 "ParishNames" "now" "LParishNames$Chronicle;") (by decide +kernel)) (fun _ h9 => h9) rfl dX2_spanFact_32 ?_
      refine pn_roi (w := [(a0, .inr (2, [.ref h0, .ref kp, .ref y0, .int ks, .long pd])), (kp, .inl (cO, 2, .inr (.inr (.inr (.inr (fun i => if i = 0 then some g0 else some w0)))))), (h0, .inr (0, [.ref q1, .ref q2, .ref q3, .ref q4, .ref q5, .ref q6, .int (nI n), .int (nI F)])), (q1, .inl (cI, 30, .inl K)), (q2, .inl (cI, 30, .inl Y)), (q3, .inl (cI, 30, .inl P)), (q4, .inl (cI, 30, .inl S)), (q5, .inl (cI, 30, .inl O)), (q6, .inl (cL, 30, .inr (.inl N))), (g0, .inr (0, [.ref z1, .ref z2, .ref z3, .ref z4, .ref z5, .ref z6, .int (nI n2), .int (nI F2)])), (z1, .inl (cI, 30, .inl K2)), (z2, .inl (cI, 30, .inl Y2)), (z3, .inl (cI, 30, .inl P2)), (z4, .inl (cI, 30, .inl S2)), (z5, .inl (cI, 30, .inl O2)), (z6, .inl (cL, 30, .inr (.inl N2))), (w0, .inr (0, [.ref v1, .ref v2, .ref v3, .ref v4, .ref v5, .ref v6, .int (nI n3), .int (nI F3)])), (v1, .inl (cI, 30, .inl K3)), (v2, .inl (cI, 30, .inl Y3)), (v3, .inl (cI, 30, .inl P3)), (v4, .inl (cI, 30, .inl S3)), (v5, .inl (cI, 30, .inl O3)), (v6, .inl (cL, 30, .inr (.inl N3))), (y0, .inr (1, [.ref y1])), (y1, .inl (cI, 9, .inl Rw))]) hP hS (va_runV (As := []) (rest := [.int (nI nx)]) ⟨hx, hb, hml, hown, hts⟩ (c_X0_eventCount l D cI cL cZ cO h0 q1 q2 q3 q4 q5 q6 K Y P S O N n F) (cwV 0 hts gX2_spanFact_X0_eventCount rfl rfl rfl (by decide +kernel) ⟨Nat.le_of_ble_eq_true rfl, Nat.le_of_ble_eq_true rfl⟩) (pn_pv (hP.sub (ws' := [(h0, .inr (0, [.ref q1, .ref q2, .ref q3, .ref q4, .ref q5, .ref q6, .int (nI n), .int (nI F)])), (q1, .inl (cI, 30, .inl K)), (q2, .inl (cI, 30, .inl Y)), (q3, .inl (cI, 30, .inl P)), (q4, .inl (cI, 30, .inl S)), (q5, .inl (cI, 30, .inl O)), (q6, .inl (cL, 30, .inr (.inl N)))]) [2, 3, 4, 5, 6, 7, 8] rfl) hK (q0 := 0) rfl rfl) rfl rfl hl.1 rfl (lv_room (Nat.le_of_ble_eq_true rfl)) dX2_spanFact_35 ⟨Nat.le_of_ble_eq_true rfl, Nat.le_of_ble_eq_true rfl⟩) (fun H locs hP hS => ?_)
      refine lv_icmp_le (tgt := 47) hx hb dX2_spanFact_38 (by decide) (fun b38 => ?_) (fun b38 => ?_)
      · have b38 : nx ≤ n := (pn_le (by omega) (by omega)).mp (show nI nx ≤ nI n from b38)
        refine lv_aload_n hx hb dX2_spanFact_47 rfl (lv_at hl 0 rfl) ?_
        refine va_get (D := D) (ci := 2) (v := .ref h0) (C := RX2) (T := TX2) (N := 5) hx hb hts ih_X2_spanFact_X2 hown hK.1 hP 0 rfl rfl 0 (by decide) (hts (.fieldLink RX2 10 "ParishNames" "now" "LParishNames$Chronicle;") (by decide +kernel)) (fun _ h9 => h9) rfl dX2_spanFact_48 ?_
        refine lv_iload_n hx hb dX2_spanFact_51 rfl (lv_at hl 3 rfl) ?_
        refine pn_roi (w := [(a0, .inr (2, [.ref h0, .ref kp, .ref y0, .int ks, .long pd])), (kp, .inl (cO, 2, .inr (.inr (.inr (.inr (fun i => if i = 0 then some g0 else some w0)))))), (h0, .inr (0, [.ref q1, .ref q2, .ref q3, .ref q4, .ref q5, .ref q6, .int (nI n), .int (nI F)])), (q1, .inl (cI, 30, .inl K)), (q2, .inl (cI, 30, .inl Y)), (q3, .inl (cI, 30, .inl P)), (q4, .inl (cI, 30, .inl S)), (q5, .inl (cI, 30, .inl O)), (q6, .inl (cL, 30, .inr (.inl N))), (g0, .inr (0, [.ref z1, .ref z2, .ref z3, .ref z4, .ref z5, .ref z6, .int (nI n2), .int (nI F2)])), (z1, .inl (cI, 30, .inl K2)), (z2, .inl (cI, 30, .inl Y2)), (z3, .inl (cI, 30, .inl P2)), (z4, .inl (cI, 30, .inl S2)), (z5, .inl (cI, 30, .inl O2)), (z6, .inl (cL, 30, .inr (.inl N2))), (w0, .inr (0, [.ref v1, .ref v2, .ref v3, .ref v4, .ref v5, .ref v6, .int (nI n3), .int (nI F3)])), (v1, .inl (cI, 30, .inl K3)), (v2, .inl (cI, 30, .inl Y3)), (v3, .inl (cI, 30, .inl P3)), (v4, .inl (cI, 30, .inl S3)), (v5, .inl (cI, 30, .inl O3)), (v6, .inl (cL, 30, .inr (.inl N3))), (y0, .inr (1, [.ref y1])), (y1, .inl (cI, 9, .inl Rw))]) hP hS (va_runV (As := [.int (nI nx)]) (rest := []) ⟨hx, hb, hml, hown, hts⟩ (c_X0_firstYear l D cI cL cZ cO h0 q1 q2 q3 q4 q5 q6 K Y P S O N n F nx (by first | omega | assumption | grind | simp_all) (by first | omega | assumption | grind | simp_all)) (cwV 1 hts gX2_spanFact_X0_firstYear rfl rfl rfl (by decide +kernel) ⟨Nat.le_of_ble_eq_true rfl, Nat.le_of_ble_eq_true rfl⟩) (pn_pv (hP.sub (ws' := [(h0, .inr (0, [.ref q1, .ref q2, .ref q3, .ref q4, .ref q5, .ref q6, .int (nI n), .int (nI F)])), (q1, .inl (cI, 30, .inl K)), (q2, .inl (cI, 30, .inl Y)), (q3, .inl (cI, 30, .inl P)), (q4, .inl (cI, 30, .inl S)), (q5, .inl (cI, 30, .inl O)), (q6, .inl (cL, 30, .inr (.inl N)))]) [2, 3, 4, 5, 6, 7, 8] rfl) hK (q0 := 0) rfl rfl) rfl rfl hl.1 rfl (lv_room (Nat.le_of_ble_eq_true rfl)) dX2_spanFact_52 ⟨Nat.le_of_ble_eq_true rfl, Nat.le_of_ble_eq_true rfl⟩) (fun H locs hP hS => ?_)
        refine lv_iconst (v := (nI 1)) hx hb dX2_spanFact_55 (by decide) ?_
        refine lv_isub hx hb dX2_spanFact_56 ?_
        exact W.iret hx hb hr (fun t ht hW => ⟨⟨_, (), rfl, (by rw [show wh = 1 by omega]; first | exact (if_pos (by omega)).symm | exact (if_neg (by omega)).symm), trivial⟩, hS.F ht⟩) hS.2.2 dX2_spanFact_57 hlocks
      · have b38 : ¬ nx ≤ n := fun h => (show ¬ nI nx ≤ nI n from b38) ((pn_le (by omega) (by omega)).mpr h)
        refine lv_sipush (v := (nI 999)) hx hb dX2_spanFact_41 (by decide) ?_
        refine lv_goto (tgt := 57) hx hb dX2_spanFact_44 (by decide) ?_
        exact W.iret hx hb hr (fun t ht hW => ⟨⟨_, (), rfl, (by rw [show wh = 1 by omega]; first | exact (if_pos (by omega)).symm | exact (if_neg (by omega)).symm), trivial⟩, hS.F ht⟩) hS.2.2 dX2_spanFact_57 hlocks
    · have b17 : wh = 2 := (pn_eq (by omega) (by omega)).mp (show nI wh = nI 2 from b17)
      refine lv_aload_n hx hb dX2_spanFact_20 rfl (lv_at hl 0 rfl) ?_
      refine va_get (D := D) (ci := 2) (v := .ref h0) (C := RX2) (T := TX2) (N := 5) hx hb hts ih_X2_spanFact_X2 hown hK.1 hP 0 rfl rfl 0 (by decide) (hts (.fieldLink RX2 10 "ParishNames" "now" "LParishNames$Chronicle;") (by decide +kernel)) (fun _ h9 => h9) rfl dX2_spanFact_21 ?_
      refine lv_iload_n hx hb dX2_spanFact_24 rfl (lv_at hl 1 rfl) ?_
      refine lv_iload_n hx hb dX2_spanFact_25 rfl (lv_at hl 2 rfl) ?_
      refine pn_roi (w := [(a0, .inr (2, [.ref h0, .ref kp, .ref y0, .int ks, .long pd])), (kp, .inl (cO, 2, .inr (.inr (.inr (.inr (fun i => if i = 0 then some g0 else some w0)))))), (h0, .inr (0, [.ref q1, .ref q2, .ref q3, .ref q4, .ref q5, .ref q6, .int (nI n), .int (nI F)])), (q1, .inl (cI, 30, .inl K)), (q2, .inl (cI, 30, .inl Y)), (q3, .inl (cI, 30, .inl P)), (q4, .inl (cI, 30, .inl S)), (q5, .inl (cI, 30, .inl O)), (q6, .inl (cL, 30, .inr (.inl N))), (g0, .inr (0, [.ref z1, .ref z2, .ref z3, .ref z4, .ref z5, .ref z6, .int (nI n2), .int (nI F2)])), (z1, .inl (cI, 30, .inl K2)), (z2, .inl (cI, 30, .inl Y2)), (z3, .inl (cI, 30, .inl P2)), (z4, .inl (cI, 30, .inl S2)), (z5, .inl (cI, 30, .inl O2)), (z6, .inl (cL, 30, .inr (.inl N2))), (w0, .inr (0, [.ref v1, .ref v2, .ref v3, .ref v4, .ref v5, .ref v6, .int (nI n3), .int (nI F3)])), (v1, .inl (cI, 30, .inl K3)), (v2, .inl (cI, 30, .inl Y3)), (v3, .inl (cI, 30, .inl P3)), (v4, .inl (cI, 30, .inl S3)), (v5, .inl (cI, 30, .inl O3)), (v6, .inl (cL, 30, .inr (.inl N3))), (y0, .inr (1, [.ref y1])), (y1, .inl (cI, 9, .inl Rw))]) hP hS (va_runV (As := [.int (nI t), .int (nI g)]) (rest := []) ⟨hx, hb, hml, hown, hts⟩ (c_X0_ownerBehind l D cI cL cZ cO h0 q1 q2 q3 q4 q5 q6 K Y P S O N n F t g (by first | omega | assumption | grind | simp_all) (by first | omega | assumption | grind | simp_all)) (cwV 2 hts gX2_spanFact_X0_ownerBehind rfl rfl rfl (by decide +kernel) ⟨Nat.le_of_ble_eq_true rfl, Nat.le_of_ble_eq_true rfl⟩) (pn_pv (hP.sub (ws' := [(h0, .inr (0, [.ref q1, .ref q2, .ref q3, .ref q4, .ref q5, .ref q6, .int (nI n), .int (nI F)])), (q1, .inl (cI, 30, .inl K)), (q2, .inl (cI, 30, .inl Y)), (q3, .inl (cI, 30, .inl P)), (q4, .inl (cI, 30, .inl S)), (q5, .inl (cI, 30, .inl O)), (q6, .inl (cL, 30, .inr (.inl N)))]) [2, 3, 4, 5, 6, 7, 8] rfl) hK (q0 := 0) rfl rfl) rfl rfl hl.1 rfl (lv_room (Nat.le_of_ble_eq_true rfl)) dX2_spanFact_26 ⟨Nat.le_of_ble_eq_true rfl, Nat.le_of_ble_eq_true rfl⟩) (fun H locs hP hS => ?_)
      exact W.iret hx hb hr (fun t ht hW => ⟨⟨_, (), rfl, (by rw [b17]; rfl), trivial⟩, hS.F ht⟩) hS.2.2 dX2_spanFact_29 hlocks
  · have b2 : wh = 0 := (pn_eq (by omega) (by omega)).mp (show nI wh = nI 0 from b2)
    refine lv_aload_n hx hb dX2_spanFact_5 rfl (lv_at hl 0 rfl) ?_
    refine va_get (D := D) (ci := 2) (v := .ref h0) (C := RX2) (T := TX2) (N := 5) hx hb hts ih_X2_spanFact_X2 hown hK.1 hP 0 rfl rfl 0 (by decide) (hts (.fieldLink RX2 10 "ParishNames" "now" "LParishNames$Chronicle;") (by decide +kernel)) (fun _ h9 => h9) rfl dX2_spanFact_6 ?_
    refine lv_iload_n hx hb dX2_spanFact_9 rfl (lv_at hl 2 rfl) ?_
    refine pn_roi (w := [(a0, .inr (2, [.ref h0, .ref kp, .ref y0, .int ks, .long pd])), (kp, .inl (cO, 2, .inr (.inr (.inr (.inr (fun i => if i = 0 then some g0 else some w0)))))), (h0, .inr (0, [.ref q1, .ref q2, .ref q3, .ref q4, .ref q5, .ref q6, .int (nI n), .int (nI F)])), (q1, .inl (cI, 30, .inl K)), (q2, .inl (cI, 30, .inl Y)), (q3, .inl (cI, 30, .inl P)), (q4, .inl (cI, 30, .inl S)), (q5, .inl (cI, 30, .inl O)), (q6, .inl (cL, 30, .inr (.inl N))), (g0, .inr (0, [.ref z1, .ref z2, .ref z3, .ref z4, .ref z5, .ref z6, .int (nI n2), .int (nI F2)])), (z1, .inl (cI, 30, .inl K2)), (z2, .inl (cI, 30, .inl Y2)), (z3, .inl (cI, 30, .inl P2)), (z4, .inl (cI, 30, .inl S2)), (z5, .inl (cI, 30, .inl O2)), (z6, .inl (cL, 30, .inr (.inl N2))), (w0, .inr (0, [.ref v1, .ref v2, .ref v3, .ref v4, .ref v5, .ref v6, .int (nI n3), .int (nI F3)])), (v1, .inl (cI, 30, .inl K3)), (v2, .inl (cI, 30, .inl Y3)), (v3, .inl (cI, 30, .inl P3)), (v4, .inl (cI, 30, .inl S3)), (v5, .inl (cI, 30, .inl O3)), (v6, .inl (cL, 30, .inr (.inl N3))), (y0, .inr (1, [.ref y1])), (y1, .inl (cI, 9, .inl Rw))]) hP hS (va_runV (As := [.int (nI g)]) (rest := []) ⟨hx, hb, hml, hown, hts⟩ (c_X0_firstYear l D cI cL cZ cO h0 q1 q2 q3 q4 q5 q6 K Y P S O N n F g (by first | omega | assumption | grind | simp_all) (by first | omega | assumption | grind | simp_all)) (cwV 1 hts gX2_spanFact_X0_firstYear rfl rfl rfl (by decide +kernel) ⟨Nat.le_of_ble_eq_true rfl, Nat.le_of_ble_eq_true rfl⟩) (pn_pv (hP.sub (ws' := [(h0, .inr (0, [.ref q1, .ref q2, .ref q3, .ref q4, .ref q5, .ref q6, .int (nI n), .int (nI F)])), (q1, .inl (cI, 30, .inl K)), (q2, .inl (cI, 30, .inl Y)), (q3, .inl (cI, 30, .inl P)), (q4, .inl (cI, 30, .inl S)), (q5, .inl (cI, 30, .inl O)), (q6, .inl (cL, 30, .inr (.inl N)))]) [2, 3, 4, 5, 6, 7, 8] rfl) hK (q0 := 0) rfl rfl) rfl rfl hl.1 rfl (lv_room (Nat.le_of_ble_eq_true rfl)) dX2_spanFact_10 ⟨Nat.le_of_ble_eq_true rfl, Nat.le_of_ble_eq_true rfl⟩) (fun H locs hP hS => ?_)
    exact W.iret hx hb hr (fun t ht hW => ⟨⟨_, (), rfl, (by rw [b2]; rfl), trivial⟩, hS.F ht⟩) hS.2.2 dX2_spanFact_13 hlocks
