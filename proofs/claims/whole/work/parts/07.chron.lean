theorem ih_X0_eventCount_X0 : ∀ w ∈ wsX00, w ∈ wsX0_eventCount := by decide +kernel
set_option maxHeartbeats 4000000 in
set_option maxRecDepth 100000 in
theorem c_X0_eventCount (l : Launch) (D : va_G) (cI cL cZ cO : ClassId) (h0 q1 q2 q3 q4 q5 q6 : Nat) (K Y P S O : Nat → Int32) (N : Nat → Int64) (n F : Nat) : Met l yX0_eventCount wsX0_eventCount ({ frames := 0, cells := 0, slots := 0, locals := 0 }) (va_Pc [.ref h0] (pn_Pr D cI cL cZ cO [(h0, .inr (0, [.ref q1, .ref q2, .ref q3, .ref q4, .ref q5, .ref q6, .int (nI n), .int (nI F)])), (q1, .inl (cI, 30, .inl K)), (q2, .inl (cI, 30, .inl Y)), (q3, .inl (cI, 30, .inl P)), (q4, .inl (cI, 30, .inl S)), (q5, .inl (cI, 30, .inl O)), (q6, .inl (cL, 30, .inr (.inl N)))])) (va_Qi (fun r (_ : Unit) => r = (nI n)) (fun _ _ => True) pn_No) 0 0 pn_No := by
  refine pn_mk (by decide) rfl (Nat.le_of_ble_eq_true rfl) ?_
  intro p e s m below meth c ls hx hb hr hml hown hts hlocks hK hP hl
  have hown : s.vm.findClass RX0 = some m.cls := hown
  have hS : va_S pn_No s.heap s.heap [] := va_S.rf
  have hl : lv_has ls 1 [(0, .ref h0)] := hl
  refine lv_aload_n hx hb dX0_eventCount_0 rfl (lv_at hl 0 rfl) ?_
  refine va_get (D := D) (ci := 0) (v := .int (nI n)) (C := RX0) (T := TX0) (N := 8) hx hb hts ih_X0_eventCount_X0 hown hK.1 hP 0 rfl rfl 6 (by decide) (hts (.fieldLink RX0 31 "ParishNames$Chronicle" "told" "I") (by decide +kernel)) (fun _ h9 => h9) rfl dX0_eventCount_1 ?_
  exact W.iret hx hb hr (fun t ht hW => ⟨⟨_, (), rfl, rfl, trivial⟩, hS.F ht⟩) hS.2.2 dX0_eventCount_4 hlocks

theorem ih_X0_parishCount_X0 : ∀ w ∈ wsX00, w ∈ wsX0_parishCount := by decide +kernel
set_option maxHeartbeats 4000000 in
set_option maxRecDepth 100000 in
theorem c_X0_parishCount (l : Launch) (D : va_G) (cI cL cZ cO : ClassId) (h0 q1 q2 q3 q4 q5 q6 : Nat) (K Y P S O : Nat → Int32) (N : Nat → Int64) (n F : Nat) : Met l yX0_parishCount wsX0_parishCount ({ frames := 0, cells := 0, slots := 0, locals := 0 }) (va_Pc [.ref h0] (pn_Pr D cI cL cZ cO [(h0, .inr (0, [.ref q1, .ref q2, .ref q3, .ref q4, .ref q5, .ref q6, .int (nI n), .int (nI F)])), (q1, .inl (cI, 30, .inl K)), (q2, .inl (cI, 30, .inl Y)), (q3, .inl (cI, 30, .inl P)), (q4, .inl (cI, 30, .inl S)), (q5, .inl (cI, 30, .inl O)), (q6, .inl (cL, 30, .inr (.inl N)))])) (va_Qi (fun r (_ : Unit) => r = (nI F)) (fun _ _ => True) pn_No) 0 0 pn_No := by
  refine pn_mk (by decide) rfl (Nat.le_of_ble_eq_true rfl) ?_
  intro p e s m below meth c ls hx hb hr hml hown hts hlocks hK hP hl
  have hown : s.vm.findClass RX0 = some m.cls := hown
  have hS : va_S pn_No s.heap s.heap [] := va_S.rf
  have hl : lv_has ls 1 [(0, .ref h0)] := hl
  refine lv_aload_n hx hb dX0_parishCount_0 rfl (lv_at hl 0 rfl) ?_
  refine va_get (D := D) (ci := 0) (v := .int (nI F)) (C := RX0) (T := TX0) (N := 8) hx hb hts ih_X0_parishCount_X0 hown hK.1 hP 0 rfl rfl 7 (by decide) (hts (.fieldLink RX0 35 "ParishNames$Chronicle" "founded" "I") (by decide +kernel)) (fun _ h9 => h9) rfl dX0_parishCount_1 ?_
  exact W.iret hx hb hr (fun t ht hW => ⟨⟨_, (), rfl, rfl, trivial⟩, hS.F ht⟩) hS.2.2 dX0_parishCount_4 hlocks

theorem ih_X0_lastEvent_X0 : ∀ w ∈ wsX00, w ∈ wsX0_lastEvent := by decide +kernel
set_option maxHeartbeats 4000000 in
set_option maxRecDepth 100000 in
theorem c_X0_lastEvent (l : Launch) (D : va_G) (cI cL cZ cO : ClassId) (h0 q1 q2 q3 q4 q5 q6 : Nat) (K Y P S O : Nat → Int32) (N : Nat → Int64) (n F : Nat) : Met l yX0_lastEvent wsX0_lastEvent ({ frames := 0, cells := 0, slots := 0, locals := 0 }) (va_Pc [.ref h0] (pn_Pr D cI cL cZ cO [(h0, .inr (0, [.ref q1, .ref q2, .ref q3, .ref q4, .ref q5, .ref q6, .int (nI n), .int (nI F)])), (q1, .inl (cI, 30, .inl K)), (q2, .inl (cI, 30, .inl Y)), (q3, .inl (cI, 30, .inl P)), (q4, .inl (cI, 30, .inl S)), (q5, .inl (cI, 30, .inl O)), (q6, .inl (cL, 30, .inr (.inl N)))])) (va_Qi (fun r (_ : Unit) => r = (nI n - nI 1)) (fun _ _ => True) pn_No) 0 0 pn_No := by
  refine pn_mk (by decide) rfl (Nat.le_of_ble_eq_true rfl) ?_
  intro p e s m below meth c ls hx hb hr hml hown hts hlocks hK hP hl
  have hown : s.vm.findClass RX0 = some m.cls := hown
  have hS : va_S pn_No s.heap s.heap [] := va_S.rf
  have hl : lv_has ls 1 [(0, .ref h0)] := hl
  refine lv_aload_n hx hb dX0_lastEvent_0 rfl (lv_at hl 0 rfl) ?_
  refine va_get (D := D) (ci := 0) (v := .int (nI n)) (C := RX0) (T := TX0) (N := 8) hx hb hts ih_X0_lastEvent_X0 hown hK.1 hP 0 rfl rfl 6 (by decide) (hts (.fieldLink RX0 31 "ParishNames$Chronicle" "told" "I") (by decide +kernel)) (fun _ h9 => h9) rfl dX0_lastEvent_1 ?_
  refine lv_iconst (v := (nI 1)) hx hb dX0_lastEvent_4 (by decide) ?_
  refine lv_isub hx hb dX0_lastEvent_5 ?_
  exact W.iret hx hb hr (fun t ht hW => ⟨⟨_, (), rfl, rfl, trivial⟩, hS.F ht⟩) hS.2.2 dX0_lastEvent_6 hlocks

theorem ih_X0_isFull_X0 : ∀ w ∈ wsX00, w ∈ wsX0_isFull := by decide +kernel
set_option maxHeartbeats 4000000 in
set_option maxRecDepth 100000 in
theorem c_X0_isFull (l : Launch) (D : va_G) (cI cL cZ cO : ClassId) (h0 q1 q2 q3 q4 q5 q6 : Nat) (K Y P S O : Nat → Int32) (N : Nat → Int64) (n F : Nat) (hn : n ≤ 30) : Met l yX0_isFull wsX0_isFull ({ frames := 0, cells := 0, slots := 0, locals := 0 }) (va_Pc [.ref h0] (pn_Pr D cI cL cZ cO [(h0, .inr (0, [.ref q1, .ref q2, .ref q3, .ref q4, .ref q5, .ref q6, .int (nI n), .int (nI F)])), (q1, .inl (cI, 30, .inl K)), (q2, .inl (cI, 30, .inl Y)), (q3, .inl (cI, 30, .inl P)), (q4, .inl (cI, 30, .inl S)), (q5, .inl (cI, 30, .inl O)), (q6, .inl (cL, 30, .inr (.inl N)))])) (va_Qi (fun r (_ : Unit) => r = (pn_b (30 ≤ n))) (fun _ _ => True) pn_No) 0 0 pn_No := by
  refine pn_mk (by decide) rfl (Nat.le_of_ble_eq_true rfl) ?_
  intro p e s m below meth c ls hx hb hr hml hown hts hlocks hK hP hl
  have hown : s.vm.findClass RX0 = some m.cls := hown
  have hS : va_S pn_No s.heap s.heap [] := va_S.rf
  have hl : lv_has ls 1 [(0, .ref h0)] := hl
  refine lv_aload_n hx hb dX0_isFull_0 rfl (lv_at hl 0 rfl) ?_
  refine va_get (D := D) (ci := 0) (v := .int (nI n)) (C := RX0) (T := TX0) (N := 8) hx hb hts ih_X0_isFull_X0 hown hK.1 hP 0 rfl rfl 6 (by decide) (hts (.fieldLink RX0 31 "ParishNames$Chronicle" "told" "I") (by decide +kernel)) (fun _ h9 => h9) rfl dX0_isFull_1 ?_
  refine lv_bipush (v := (nI 30)) hx hb dX0_isFull_4 (by decide) ?_
  refine lv_icmp_lt (tgt := 13) hx hb dX0_isFull_6 (by decide) (fun b6 => ?_) (fun b6 => ?_)
  · have b6 : n < 30 := (pn_lt (by omega) (by omega)).mp (show nI n < nI 30 from b6)
    refine lv_iconst (v := (nI 0)) hx hb dX0_isFull_13 (by decide) ?_
    exact W.zret hx hb hr (by decide) (fun t ht hW => ⟨⟨_, (), rfl, (by first | exact pn_bt (by omega) | exact pn_bf (by omega)), trivial⟩, hS.F ht⟩) hS.2.2 dX0_isFull_14 hlocks
  · have b6 : ¬ n < 30 := fun h => (show ¬ nI n < nI 30 from b6) ((pn_lt (by omega) (by omega)).mpr h)
    refine lv_iconst (v := (nI 1)) hx hb dX0_isFull_9 (by decide) ?_
    refine lv_goto (tgt := 14) hx hb dX0_isFull_10 (by decide) ?_
    exact W.zret hx hb hr (by decide) (fun t ht hW => ⟨⟨_, (), rfl, (by first | exact pn_bt (by omega) | exact pn_bf (by omega)), trivial⟩, hS.F ht⟩) hS.2.2 dX0_isFull_14 hlocks

theorem ih_X0_knows_X0 : ∀ w ∈ wsX00, w ∈ wsX0_knows := by decide +kernel
set_option maxHeartbeats 4000000 in
set_option maxRecDepth 100000 in
theorem c_X0_knows (l : Launch) (D : va_G) (cI cL cZ cO : ClassId) (h0 q1 q2 q3 q4 q5 q6 : Nat) (K Y P S O : Nat → Int32) (N : Nat → Int64) (n F : Nat) (pa : Int32) : Met l yX0_knows wsX0_knows ({ frames := 0, cells := 0, slots := 0, locals := 0 }) (va_Pc [.ref h0, .int pa] (pn_Pr D cI cL cZ cO [(h0, .inr (0, [.ref q1, .ref q2, .ref q3, .ref q4, .ref q5, .ref q6, .int (nI n), .int (nI F)])), (q1, .inl (cI, 30, .inl K)), (q2, .inl (cI, 30, .inl Y)), (q3, .inl (cI, 30, .inl P)), (q4, .inl (cI, 30, .inl S)), (q5, .inl (cI, 30, .inl O)), (q6, .inl (cL, 30, .inr (.inl N)))])) (va_Qi (fun r (_ : Unit) => r = (pn_b (pn_kn F pa))) (fun _ _ => True) pn_No) 0 0 pn_No := by
  refine pn_mk (by decide) rfl (Nat.le_of_ble_eq_true rfl) ?_
  intro p e s m below meth c ls hx hb hr hml hown hts hlocks hK hP hl
  have hown : s.vm.findClass RX0 = some m.cls := hown
  have hS : va_S pn_No s.heap s.heap [] := va_S.rf
  have hl : lv_has ls 2 [(0, .ref h0), (1, .int pa)] := hl
  refine lv_iload_n hx hb dX0_knows_0 rfl (lv_at hl 1 rfl) ?_
  refine lv_if_lt (tgt := 16) hx hb dX0_knows_1 (by decide) (fun b1 => ?_) (fun b1 => ?_)
  · refine lv_iconst (v := (nI 0)) hx hb dX0_knows_16 (by decide) ?_
    exact W.zret hx hb hr (by decide) (fun t ht hW => ⟨⟨_, (), rfl, (by first | exact pn_bt ⟨by assumption, by assumption⟩ | exact pn_bf (fun h => by first | exact h.1 (by assumption) | exact h.2 (by assumption))), trivial⟩, hS.F ht⟩) hS.2.2 dX0_knows_17 hlocks
  · refine lv_iload_n hx hb dX0_knows_4 rfl (lv_at hl 1 rfl) ?_
    refine lv_aload_n hx hb dX0_knows_5 rfl (lv_at hl 0 rfl) ?_
    refine va_get (D := D) (ci := 0) (v := .int (nI F)) (C := RX0) (T := TX0) (N := 8) hx hb hts ih_X0_knows_X0 hown hK.1 hP 0 rfl rfl 7 (by decide) (hts (.fieldLink RX0 35 "ParishNames$Chronicle" "founded" "I") (by decide +kernel)) (fun _ h9 => h9) rfl dX0_knows_6 ?_
    refine lv_icmp_ge (tgt := 16) hx hb dX0_knows_9 (by decide) (fun b9 => ?_) (fun b9 => ?_)
    · refine lv_iconst (v := (nI 0)) hx hb dX0_knows_16 (by decide) ?_
      exact W.zret hx hb hr (by decide) (fun t ht hW => ⟨⟨_, (), rfl, (by first | exact pn_bt ⟨by assumption, by assumption⟩ | exact pn_bf (fun h => by first | exact h.1 (by assumption) | exact h.2 (by assumption))), trivial⟩, hS.F ht⟩) hS.2.2 dX0_knows_17 hlocks
    · refine lv_iconst (v := (nI 1)) hx hb dX0_knows_12 (by decide) ?_
      refine lv_goto (tgt := 17) hx hb dX0_knows_13 (by decide) ?_
      exact W.zret hx hb hr (by decide) (fun t ht hW => ⟨⟨_, (), rfl, (by first | exact pn_bt ⟨by assumption, by assumption⟩ | exact pn_bf (fun h => by first | exact h.1 (by assumption) | exact h.2 (by assumption))), trivial⟩, hS.F ht⟩) hS.2.2 dX0_knows_17 hlocks

theorem ih_X0_yearOfLast_X0 : ∀ w ∈ wsX00, w ∈ wsX0_yearOfLast := by decide +kernel
set_option maxHeartbeats 4000000 in
set_option maxRecDepth 100000 in
theorem c_X0_yearOfLast (l : Launch) (D : va_G) (cI cL cZ cO : ClassId) (h0 q1 q2 q3 q4 q5 q6 : Nat) (K Y P S O : Nat → Int32) (N : Nat → Int64) (n F : Nat) (hn : n ≤ 30) : Met l yX0_yearOfLast wsX0_yearOfLast ({ frames := 0, cells := 0, slots := 0, locals := 0 }) (va_Pc [.ref h0] (pn_Pr D cI cL cZ cO [(h0, .inr (0, [.ref q1, .ref q2, .ref q3, .ref q4, .ref q5, .ref q6, .int (nI n), .int (nI F)])), (q1, .inl (cI, 30, .inl K)), (q2, .inl (cI, 30, .inl Y)), (q3, .inl (cI, 30, .inl P)), (q4, .inl (cI, 30, .inl S)), (q5, .inl (cI, 30, .inl O)), (q6, .inl (cL, 30, .inr (.inl N)))])) (va_Qi (fun r (_ : Unit) => r = (pn_lY Y n)) (fun _ _ => True) pn_No) 0 0 pn_No := by
  refine pn_mk (by decide) rfl (Nat.le_of_ble_eq_true rfl) ?_
  intro p e s m below meth c ls hx hb hr hml hown hts hlocks hK hP hl
  have hown : s.vm.findClass RX0 = some m.cls := hown
  have hS : va_S pn_No s.heap s.heap [] := va_S.rf
  have hl : lv_has ls 1 [(0, .ref h0)] := hl
  refine lv_aload_n hx hb dX0_yearOfLast_0 rfl (lv_at hl 0 rfl) ?_
  refine va_get (D := D) (ci := 0) (v := .int (nI n)) (C := RX0) (T := TX0) (N := 8) hx hb hts ih_X0_yearOfLast_X0 hown hK.1 hP 0 rfl rfl 6 (by decide) (hts (.fieldLink RX0 31 "ParishNames$Chronicle" "told" "I") (by decide +kernel)) (fun _ h9 => h9) rfl dX0_yearOfLast_1 ?_
  refine lv_if_ne (tgt := 11) hx hb dX0_yearOfLast_4 (by decide) (fun b4 => ?_) (fun b4 => ?_)
  · have b4 : ¬ n = 0 := fun h => (show ¬ nI n = nI 0 from b4) ((pn_eq (by omega) (by omega)).mpr h)
    refine lv_aload_n hx hb dX0_yearOfLast_11 rfl (lv_at hl 0 rfl) ?_
    refine va_get (D := D) (ci := 0) (v := .ref q2) (C := RX0) (T := TX0) (N := 8) hx hb hts ih_X0_yearOfLast_X0 hown hK.1 hP 0 rfl rfl 1 (by decide) (hts (.fieldLink RX0 15 "ParishNames$Chronicle" "years" "[I") (by decide +kernel)) (fun _ h9 => h9) rfl dX0_yearOfLast_12 ?_
    refine lv_aload_n hx hb dX0_yearOfLast_15 rfl (lv_at hl 0 rfl) ?_
    refine va_get (D := D) (ci := 0) (v := .int (nI n)) (C := RX0) (T := TX0) (N := 8) hx hb hts ih_X0_yearOfLast_X0 hown hK.1 hP 0 rfl rfl 6 (by decide) (hts (.fieldLink RX0 31 "ParishNames$Chronicle" "told" "I") (by decide +kernel)) (fun _ h9 => h9) rfl dX0_yearOfLast_16 ?_
    refine lv_iconst (v := (nI 1)) hx hb dX0_yearOfLast_19 (by decide) ?_
    refine pn_isub hx hb (by omega) dX0_yearOfLast_20 ?_
    refine pn_iald hx hb hK.1 hP 2 0 rfl rfl (i := (n - 1)) (by omega) (Nat.le_of_ble_eq_true rfl) dX0_yearOfLast_21 ?_
    exact W.iret hx hb hr (fun t ht hW => ⟨⟨_, (), rfl, (by unfold pn_lY; split <;> first | rfl | contradiction), trivial⟩, hS.F ht⟩) hS.2.2 dX0_yearOfLast_22 hlocks
  · have b4 : n = 0 := (pn_eq (by omega) (by omega)).mp (show nI n = nI 0 from b4)
    refine lv_iconst (v := (nI 0)) hx hb dX0_yearOfLast_7 (by decide) ?_
    refine lv_goto (tgt := 22) hx hb dX0_yearOfLast_8 (by decide) ?_
    exact W.iret hx hb hr (fun t ht hW => ⟨⟨_, (), rfl, (by unfold pn_lY; split <;> first | rfl | contradiction), trivial⟩, hS.F ht⟩) hS.2.2 dX0_yearOfLast_22 hlocks

theorem ih_X0_factOf_X0 : ∀ w ∈ wsX00, w ∈ wsX0_factOf := by decide +kernel
set_option maxHeartbeats 4000000 in
set_option maxRecDepth 100000 in
theorem c_X0_factOf (l : Launch) (D : va_G) (cI cL cZ cO : ClassId) (h0 q1 q2 q3 q4 q5 q6 : Nat) (K Y P S O : Nat → Int32) (N : Nat → Int64) (n F : Nat) (i : Int32) (wh : Nat) (hn : n ≤ 30) (hw : wh ≤ 4) : Met l yX0_factOf wsX0_factOf ({ frames := 0, cells := 0, slots := 0, locals := 0 }) (va_Pc [.ref h0, .int i, .int (nI wh)] (pn_Pr D cI cL cZ cO [(h0, .inr (0, [.ref q1, .ref q2, .ref q3, .ref q4, .ref q5, .ref q6, .int (nI n), .int (nI F)])), (q1, .inl (cI, 30, .inl K)), (q2, .inl (cI, 30, .inl Y)), (q3, .inl (cI, 30, .inl P)), (q4, .inl (cI, 30, .inl S)), (q5, .inl (cI, 30, .inl O)), (q6, .inl (cL, 30, .inr (.inl N)))])) (va_Qi (fun r (_ : Unit) => r = (pn_fact K Y P S O n i wh)) (fun _ _ => True) pn_No) 0 0 pn_No := by
  refine pn_mk (by decide) rfl (Nat.le_of_ble_eq_true rfl) ?_
  intro p e s m below meth c ls hx hb hr hml hown hts hlocks hK hP hl
  have hown : s.vm.findClass RX0 = some m.cls := hown
  have hS : va_S pn_No s.heap s.heap [] := va_S.rf
  have hl : lv_has ls 3 [(0, .ref h0), (1, .int i), (2, .int (nI wh))] := hl
  refine lv_iload_n hx hb dX0_factOf_0 rfl (lv_at hl 1 rfl) ?_
  refine lv_if_lt (tgt := 12) hx hb dX0_factOf_1 (by decide) (fun b1 => ?_) (fun b1 => ?_)
  · refine lv_bipush (v := (-6)) hx hb dX0_factOf_12 (by decide) ?_
    exact W.iret hx hb hr (fun t ht hW => ⟨⟨_, (), rfl, (by unfold pn_fact; first | exact (if_pos (Or.inl (by assumption))).symm | exact (if_pos (Or.inr (Int32.not_lt.mp (by assumption)))).symm), trivial⟩, hS.F ht⟩) hS.2.2 dX0_factOf_14 hlocks
  · refine lv_iload_n hx hb dX0_factOf_4 rfl (lv_at hl 1 rfl) ?_
    refine lv_aload_n hx hb dX0_factOf_5 rfl (lv_at hl 0 rfl) ?_
    refine va_get (D := D) (ci := 0) (v := .int (nI n)) (C := RX0) (T := TX0) (N := 8) hx hb hts ih_X0_factOf_X0 hown hK.1 hP 0 rfl rfl 6 (by decide) (hts (.fieldLink RX0 31 "ParishNames$Chronicle" "told" "I") (by decide +kernel)) (fun _ h9 => h9) rfl dX0_factOf_6 ?_
    refine lv_icmp_lt (tgt := 15) hx hb dX0_factOf_9 (by decide) (fun b9 => ?_) (fun b9 => ?_)
    · obtain ⟨k, hk, rfl⟩ := pn_ofI (by assumption) b9 (by omega)
      refine lv_iload_n hx hb dX0_factOf_15 rfl (lv_at hl 2 rfl) ?_
      rcases pn_sw (nI wh) (lo := 0) (hi := 3) with b16 | b16
      · refine lv_tableOut (tgt := 90) hx hb dX0_factOf_16 b16 (by decide) ?_
        have b16 : wh < 0 ∨ 3 < wh := by rw [nI_toInt (by omega)] at b16; omega
        obtain rfl : wh = 4 := by omega
        refine lv_aload_n hx hb dX0_factOf_90 rfl (lv_at hl 0 rfl) ?_
        refine va_get (D := D) (ci := 0) (v := .ref q1) (C := RX0) (T := TX0) (N := 8) hx hb hts ih_X0_factOf_X0 hown hK.1 hP 0 rfl rfl 0 (by decide) (hts (.fieldLink RX0 9 "ParishNames$Chronicle" "kinds" "[I") (by decide +kernel)) (fun _ h9 => h9) rfl dX0_factOf_91 ?_
        refine lv_iload_n hx hb dX0_factOf_94 rfl (lv_at hl 1 rfl) ?_
        refine pn_iald hx hb hK.1 hP 1 0 rfl rfl (i := k) (by omega) (Nat.le_of_ble_eq_true rfl) dX0_factOf_95 ?_
        refine lv_if_ne (tgt := 104) hx hb dX0_factOf_96 (by decide) (fun b96 => ?_) (fun b96 => ?_)
        · refine lv_aload_n hx hb dX0_factOf_104 rfl (lv_at hl 0 rfl) ?_
          refine va_get (D := D) (ci := 0) (v := .ref q5) (C := RX0) (T := TX0) (N := 8) hx hb hts ih_X0_factOf_X0 hown hK.1 hP 0 rfl rfl 4 (by decide) (hts (.fieldLink RX0 24 "ParishNames$Chronicle" "owners" "[I") (by decide +kernel)) (fun _ h9 => h9) rfl dX0_factOf_105 ?_
          refine lv_iload_n hx hb dX0_factOf_108 rfl (lv_at hl 1 rfl) ?_
          refine pn_iald hx hb hK.1 hP 5 0 rfl rfl (i := k) (by omega) (Nat.le_of_ble_eq_true rfl) dX0_factOf_109 ?_
          exact W.iret hx hb hr (fun t ht hW => ⟨⟨_, (), rfl, (by rw [pn_fact_in hk (by omega)]; (try subst_vars); first | rfl | exact (if_pos (by assumption)).symm | exact (if_neg (by assumption)).symm), trivial⟩, hS.F ht⟩) hS.2.2 dX0_factOf_110 hlocks
        · refine lv_bipush (v := (-6)) hx hb dX0_factOf_99 (by decide) ?_
          refine lv_goto (tgt := 110) hx hb dX0_factOf_101 (by decide) ?_
          exact W.iret hx hb hr (fun t ht hW => ⟨⟨_, (), rfl, (by rw [pn_fact_in hk (by omega)]; (try subst_vars); first | rfl | exact (if_pos (by assumption)).symm | exact (if_neg (by assumption)).symm), trivial⟩, hS.F ht⟩) hS.2.2 dX0_factOf_110 hlocks
      · obtain ⟨k_16, hk_16, b16⟩ := b16
        have hk_16 : k_16 = 0 ∨ k_16 = 1 ∨ k_16 = 2 ∨ k_16 = 3 := by omega
        rcases hk_16 with rfl | rfl | rfl | rfl
        · refine lv_tableIn (tgt := 48) hx hb dX0_factOf_16 (by rw [b16]; decide) (by rw [b16]; decide) (by rw [b16]; rfl) (by decide) ?_
          have b16 : (nI wh) = nI 0 := pn_swe b16 (by decide)
          have b16 : wh = 0 := (pn_eq (by omega) (by omega)).mp b16
          refine lv_aload_n hx hb dX0_factOf_48 rfl (lv_at hl 0 rfl) ?_
          refine va_get (D := D) (ci := 0) (v := .ref q1) (C := RX0) (T := TX0) (N := 8) hx hb hts ih_X0_factOf_X0 hown hK.1 hP 0 rfl rfl 0 (by decide) (hts (.fieldLink RX0 9 "ParishNames$Chronicle" "kinds" "[I") (by decide +kernel)) (fun _ h9 => h9) rfl dX0_factOf_49 ?_
          refine lv_iload_n hx hb dX0_factOf_52 rfl (lv_at hl 1 rfl) ?_
          refine pn_iald hx hb hK.1 hP 1 0 rfl rfl (i := k) (by omega) (Nat.le_of_ble_eq_true rfl) dX0_factOf_53 ?_
          exact W.iret hx hb hr (fun t ht hW => ⟨⟨_, (), rfl, (by rw [pn_fact_in hk (by omega)]; (try subst_vars); first | rfl | exact (if_pos (by assumption)).symm | exact (if_neg (by assumption)).symm), trivial⟩, hS.F ht⟩) hS.2.2 dX0_factOf_54 hlocks
        · refine lv_tableIn (tgt := 55) hx hb dX0_factOf_16 (by rw [b16]; decide) (by rw [b16]; decide) (by rw [b16]; rfl) (by decide) ?_
          have b16 : (nI wh) = nI 1 := pn_swe b16 (by decide)
          have b16 : wh = 1 := (pn_eq (by omega) (by omega)).mp b16
          refine lv_aload_n hx hb dX0_factOf_55 rfl (lv_at hl 0 rfl) ?_
          refine va_get (D := D) (ci := 0) (v := .ref q2) (C := RX0) (T := TX0) (N := 8) hx hb hts ih_X0_factOf_X0 hown hK.1 hP 0 rfl rfl 1 (by decide) (hts (.fieldLink RX0 15 "ParishNames$Chronicle" "years" "[I") (by decide +kernel)) (fun _ h9 => h9) rfl dX0_factOf_56 ?_
          refine lv_iload_n hx hb dX0_factOf_59 rfl (lv_at hl 1 rfl) ?_
          refine pn_iald hx hb hK.1 hP 2 0 rfl rfl (i := k) (by omega) (Nat.le_of_ble_eq_true rfl) dX0_factOf_60 ?_
          exact W.iret hx hb hr (fun t ht hW => ⟨⟨_, (), rfl, (by rw [pn_fact_in hk (by omega)]; (try subst_vars); first | rfl | exact (if_pos (by assumption)).symm | exact (if_neg (by assumption)).symm), trivial⟩, hS.F ht⟩) hS.2.2 dX0_factOf_61 hlocks
        · refine lv_tableIn (tgt := 62) hx hb dX0_factOf_16 (by rw [b16]; decide) (by rw [b16]; decide) (by rw [b16]; rfl) (by decide) ?_
          have b16 : (nI wh) = nI 2 := pn_swe b16 (by decide)
          have b16 : wh = 2 := (pn_eq (by omega) (by omega)).mp b16
          refine lv_aload_n hx hb dX0_factOf_62 rfl (lv_at hl 0 rfl) ?_
          refine va_get (D := D) (ci := 0) (v := .ref q3) (C := RX0) (T := TX0) (N := 8) hx hb hts ih_X0_factOf_X0 hown hK.1 hP 0 rfl rfl 2 (by decide) (hts (.fieldLink RX0 18 "ParishNames$Chronicle" "parishes" "[I") (by decide +kernel)) (fun _ h9 => h9) rfl dX0_factOf_63 ?_
          refine lv_iload_n hx hb dX0_factOf_66 rfl (lv_at hl 1 rfl) ?_
          refine pn_iald hx hb hK.1 hP 3 0 rfl rfl (i := k) (by omega) (Nat.le_of_ble_eq_true rfl) dX0_factOf_67 ?_
          exact W.iret hx hb hr (fun t ht hW => ⟨⟨_, (), rfl, (by rw [pn_fact_in hk (by omega)]; (try subst_vars); first | rfl | exact (if_pos (by assumption)).symm | exact (if_neg (by assumption)).symm), trivial⟩, hS.F ht⟩) hS.2.2 dX0_factOf_68 hlocks
        · refine lv_tableIn (tgt := 69) hx hb dX0_factOf_16 (by rw [b16]; decide) (by rw [b16]; decide) (by rw [b16]; rfl) (by decide) ?_
          have b16 : (nI wh) = nI 3 := pn_swe b16 (by decide)
          have b16 : wh = 3 := (pn_eq (by omega) (by omega)).mp b16
          refine lv_aload_n hx hb dX0_factOf_69 rfl (lv_at hl 0 rfl) ?_
          refine va_get (D := D) (ci := 0) (v := .ref q1) (C := RX0) (T := TX0) (N := 8) hx hb hts ih_X0_factOf_X0 hown hK.1 hP 0 rfl rfl 0 (by decide) (hts (.fieldLink RX0 9 "ParishNames$Chronicle" "kinds" "[I") (by decide +kernel)) (fun _ h9 => h9) rfl dX0_factOf_70 ?_
          refine lv_iload_n hx hb dX0_factOf_73 rfl (lv_at hl 1 rfl) ?_
          refine pn_iald hx hb hK.1 hP 1 0 rfl rfl (i := k) (by omega) (Nat.le_of_ble_eq_true rfl) dX0_factOf_74 ?_
          refine lv_if_ne (tgt := 83) hx hb dX0_factOf_75 (by decide) (fun b75 => ?_) (fun b75 => ?_)
          · refine lv_aload_n hx hb dX0_factOf_83 rfl (lv_at hl 0 rfl) ?_
            refine va_get (D := D) (ci := 0) (v := .ref q4) (C := RX0) (T := TX0) (N := 8) hx hb hts ih_X0_factOf_X0 hown hK.1 hP 0 rfl rfl 3 (by decide) (hts (.fieldLink RX0 21 "ParishNames$Chronicle" "sets" "[I") (by decide +kernel)) (fun _ h9 => h9) rfl dX0_factOf_84 ?_
            refine lv_iload_n hx hb dX0_factOf_87 rfl (lv_at hl 1 rfl) ?_
            refine pn_iald hx hb hK.1 hP 4 0 rfl rfl (i := k) (by omega) (Nat.le_of_ble_eq_true rfl) dX0_factOf_88 ?_
            exact W.iret hx hb hr (fun t ht hW => ⟨⟨_, (), rfl, (by rw [pn_fact_in hk (by omega)]; (try subst_vars); first | rfl | exact (if_pos (by assumption)).symm | exact (if_neg (by assumption)).symm), trivial⟩, hS.F ht⟩) hS.2.2 dX0_factOf_89 hlocks
          · refine lv_bipush (v := (-6)) hx hb dX0_factOf_78 (by decide) ?_
            refine lv_goto (tgt := 89) hx hb dX0_factOf_80 (by decide) ?_
            exact W.iret hx hb hr (fun t ht hW => ⟨⟨_, (), rfl, (by rw [pn_fact_in hk (by omega)]; (try subst_vars); first | rfl | exact (if_pos (by assumption)).symm | exact (if_neg (by assumption)).symm), trivial⟩, hS.F ht⟩) hS.2.2 dX0_factOf_89 hlocks
    · refine lv_bipush (v := (-6)) hx hb dX0_factOf_12 (by decide) ?_
      exact W.iret hx hb hr (fun t ht hW => ⟨⟨_, (), rfl, (by unfold pn_fact; first | exact (if_pos (Or.inl (by assumption))).symm | exact (if_pos (Or.inr (Int32.not_lt.mp (by assumption)))).symm), trivial⟩, hS.F ht⟩) hS.2.2 dX0_factOf_14 hlocks

theorem ih_X0_firstYear_X0 : ∀ w ∈ wsX00, w ∈ wsX0_firstYear := by decide +kernel
set_option maxHeartbeats 4000000 in
set_option maxRecDepth 100000 in
theorem c_X0_firstYear (l : Launch) (D : va_G) (cI cL cZ cO : ClassId) (h0 q1 q2 q3 q4 q5 q6 : Nat) (K Y P S O : Nat → Int32) (N : Nat → Int64) (n F : Nat) (j : Nat) (hn : n ≤ 30) (hj : j ≤ 31) : Met l yX0_firstYear wsX0_firstYear ({ frames := 0, cells := 0, slots := 0, locals := 0 }) (va_Pc [.ref h0, .int (nI j)] (pn_Pr D cI cL cZ cO [(h0, .inr (0, [.ref q1, .ref q2, .ref q3, .ref q4, .ref q5, .ref q6, .int (nI n), .int (nI F)])), (q1, .inl (cI, 30, .inl K)), (q2, .inl (cI, 30, .inl Y)), (q3, .inl (cI, 30, .inl P)), (q4, .inl (cI, 30, .inl S)), (q5, .inl (cI, 30, .inl O)), (q6, .inl (cL, 30, .inr (.inl N)))])) (va_Qi (fun r (_ : Unit) => r = (pn_fy Y n j)) (fun _ _ => True) pn_No) 0 0 pn_No := by
  refine pn_mk (by decide) rfl (Nat.le_of_ble_eq_true rfl) ?_
  intro p e s m below meth c ls hx hb hr hml hown hts hlocks hK hP hl
  have hown : s.vm.findClass RX0 = some m.cls := hown
  have hS : va_S pn_No s.heap s.heap [] := va_S.rf
  have hl : lv_has ls 2 [(0, .ref h0), (1, .int (nI j))] := hl
  refine lv_iload_n hx hb dX0_firstYear_0 rfl (lv_at hl 1 rfl) ?_
  refine lv_if_le (tgt := 12) hx hb dX0_firstYear_1 (by decide) (fun b1 => ?_) (fun b1 => ?_)
  · have b1 : j ≤ 0 := (pn_le (by omega) (by omega)).mp (show nI j ≤ nI 0 from b1)
    refine lv_iconst (v := (nI 0)) hx hb dX0_firstYear_12 (by decide) ?_
    refine lv_goto (tgt := 24) hx hb dX0_firstYear_13 (by decide) ?_
    exact W.iret hx hb hr (fun t ht hW => ⟨⟨_, (), rfl, (by unfold pn_fy; (repeat' split) <;> first | rfl | contradiction | omega | grind), trivial⟩, hS.F ht⟩) hS.2.2 dX0_firstYear_24 hlocks
  · have b1 : ¬ j ≤ 0 := fun h => (show ¬ nI j ≤ nI 0 from b1) ((pn_le (by omega) (by omega)).mpr h)
    refine lv_iload_n hx hb dX0_firstYear_4 rfl (lv_at hl 1 rfl) ?_
    refine lv_aload_n hx hb dX0_firstYear_5 rfl (lv_at hl 0 rfl) ?_
    refine va_get (D := D) (ci := 0) (v := .int (nI n)) (C := RX0) (T := TX0) (N := 8) hx hb hts ih_X0_firstYear_X0 hown hK.1 hP 0 rfl rfl 6 (by decide) (hts (.fieldLink RX0 31 "ParishNames$Chronicle" "told" "I") (by decide +kernel)) (fun _ h9 => h9) rfl dX0_firstYear_6 ?_
    refine lv_icmp_le (tgt := 16) hx hb dX0_firstYear_9 (by decide) (fun b9 => ?_) (fun b9 => ?_)
    · have b9 : j ≤ n := (pn_le (by omega) (by omega)).mp (show nI j ≤ nI n from b9)
      refine lv_aload_n hx hb dX0_firstYear_16 rfl (lv_at hl 0 rfl) ?_
      refine va_get (D := D) (ci := 0) (v := .ref q2) (C := RX0) (T := TX0) (N := 8) hx hb hts ih_X0_firstYear_X0 hown hK.1 hP 0 rfl rfl 1 (by decide) (hts (.fieldLink RX0 15 "ParishNames$Chronicle" "years" "[I") (by decide +kernel)) (fun _ h9 => h9) rfl dX0_firstYear_17 ?_
      refine lv_iload_n hx hb dX0_firstYear_20 rfl (lv_at hl 1 rfl) ?_
      refine lv_iconst (v := (nI 1)) hx hb dX0_firstYear_21 (by decide) ?_
      refine pn_isub hx hb (by omega) dX0_firstYear_22 ?_
      refine pn_iald hx hb hK.1 hP 2 0 rfl rfl (i := (j - 1)) (by omega) (Nat.le_of_ble_eq_true rfl) dX0_firstYear_23 ?_
      exact W.iret hx hb hr (fun t ht hW => ⟨⟨_, (), rfl, (by unfold pn_fy; (repeat' split) <;> first | rfl | contradiction | omega | grind), trivial⟩, hS.F ht⟩) hS.2.2 dX0_firstYear_24 hlocks
    · have b9 : ¬ j ≤ n := fun h => (show ¬ nI j ≤ nI n from b9) ((pn_le (by omega) (by omega)).mpr h)
      refine lv_iconst (v := (nI 0)) hx hb dX0_firstYear_12 (by decide) ?_
      refine lv_goto (tgt := 24) hx hb dX0_firstYear_13 (by decide) ?_
      exact W.iret hx hb hr (fun t ht hW => ⟨⟨_, (), rfl, (by unfold pn_fy; (repeat' split) <;> first | rfl | contradiction | omega | grind), trivial⟩, hS.F ht⟩) hS.2.2 dX0_firstYear_24 hlocks

theorem ih_X0_lastYear_X0 : ∀ w ∈ wsX00, w ∈ wsX0_lastYear := by decide +kernel
set_option maxHeartbeats 4000000 in
set_option maxRecDepth 100000 in
theorem c_X0_lastYear (l : Launch) (D : va_G) (cI cL cZ cO : ClassId) (h0 q1 q2 q3 q4 q5 q6 : Nat) (K Y P S O : Nat → Int32) (N : Nat → Int64) (n F : Nat) (j : Nat) (hn : n ≤ 30) (hj : j ≤ 31) : Met l yX0_lastYear wsX0_lastYear ({ frames := 0, cells := 0, slots := 0, locals := 0 }) (va_Pc [.ref h0, .int (nI j)] (pn_Pr D cI cL cZ cO [(h0, .inr (0, [.ref q1, .ref q2, .ref q3, .ref q4, .ref q5, .ref q6, .int (nI n), .int (nI F)])), (q1, .inl (cI, 30, .inl K)), (q2, .inl (cI, 30, .inl Y)), (q3, .inl (cI, 30, .inl P)), (q4, .inl (cI, 30, .inl S)), (q5, .inl (cI, 30, .inl O)), (q6, .inl (cL, 30, .inr (.inl N)))])) (va_Qi (fun r (_ : Unit) => r = (pn_ly Y n j)) (fun _ _ => True) pn_No) 0 0 pn_No := by
  refine pn_mk (by decide) rfl (Nat.le_of_ble_eq_true rfl) ?_
  intro p e s m below meth c ls hx hb hr hml hown hts hlocks hK hP hl
  have hown : s.vm.findClass RX0 = some m.cls := hown
  have hS : va_S pn_No s.heap s.heap [] := va_S.rf
  have hl : lv_has ls 2 [(0, .ref h0), (1, .int (nI j))] := hl
  refine lv_iload_n hx hb dX0_lastYear_0 rfl (lv_at hl 1 rfl) ?_
  refine lv_if_lt (tgt := 12) hx hb dX0_lastYear_1 (by decide) (fun b1 => ?_) (fun b1 => ?_)
  · have b1 : j < 0 := (pn_lt (by omega) (by omega)).mp (show nI j < nI 0 from b1)
    refine lv_sipush (v := (nI 999)) hx hb dX0_lastYear_12 (by decide) ?_
    refine lv_goto (tgt := 26) hx hb dX0_lastYear_15 (by decide) ?_
    exact W.iret hx hb hr (fun t ht hW => ⟨⟨_, (), rfl, (by unfold pn_ly; (repeat' split) <;> first | rfl | contradiction | omega | grind), trivial⟩, hS.F ht⟩) hS.2.2 dX0_lastYear_26 hlocks
  · have b1 : ¬ j < 0 := fun h => (show ¬ nI j < nI 0 from b1) ((pn_lt (by omega) (by omega)).mpr h)
    refine lv_iload_n hx hb dX0_lastYear_4 rfl (lv_at hl 1 rfl) ?_
    refine lv_aload_n hx hb dX0_lastYear_5 rfl (lv_at hl 0 rfl) ?_
    refine va_get (D := D) (ci := 0) (v := .int (nI n)) (C := RX0) (T := TX0) (N := 8) hx hb hts ih_X0_lastYear_X0 hown hK.1 hP 0 rfl rfl 6 (by decide) (hts (.fieldLink RX0 31 "ParishNames$Chronicle" "told" "I") (by decide +kernel)) (fun _ h9 => h9) rfl dX0_lastYear_6 ?_
    refine lv_icmp_lt (tgt := 18) hx hb dX0_lastYear_9 (by decide) (fun b9 => ?_) (fun b9 => ?_)
    · have b9 : j < n := (pn_lt (by omega) (by omega)).mp (show nI j < nI n from b9)
      refine lv_aload_n hx hb dX0_lastYear_18 rfl (lv_at hl 0 rfl) ?_
      refine va_get (D := D) (ci := 0) (v := .ref q2) (C := RX0) (T := TX0) (N := 8) hx hb hts ih_X0_lastYear_X0 hown hK.1 hP 0 rfl rfl 1 (by decide) (hts (.fieldLink RX0 15 "ParishNames$Chronicle" "years" "[I") (by decide +kernel)) (fun _ h9 => h9) rfl dX0_lastYear_19 ?_
      refine lv_iload_n hx hb dX0_lastYear_22 rfl (lv_at hl 1 rfl) ?_
      refine pn_iald hx hb hK.1 hP 2 0 rfl rfl (i := j) (by omega) (Nat.le_of_ble_eq_true rfl) dX0_lastYear_23 ?_
      refine lv_iconst (v := (nI 1)) hx hb dX0_lastYear_24 (by decide) ?_
      refine lv_isub hx hb dX0_lastYear_25 ?_
      exact W.iret hx hb hr (fun t ht hW => ⟨⟨_, (), rfl, (by unfold pn_ly; (repeat' split) <;> first | rfl | contradiction | omega | grind), trivial⟩, hS.F ht⟩) hS.2.2 dX0_lastYear_26 hlocks
    · have b9 : ¬ j < n := fun h => (show ¬ nI j < nI n from b9) ((pn_lt (by omega) (by omega)).mpr h)
      refine lv_sipush (v := (nI 999)) hx hb dX0_lastYear_12 (by decide) ?_
      refine lv_goto (tgt := 26) hx hb dX0_lastYear_15 (by decide) ?_
      exact W.iret hx hb hr (fun t ht hW => ⟨⟨_, (), rfl, (by unfold pn_ly; (repeat' split) <;> first | rfl | contradiction | omega | grind), trivial⟩, hS.F ht⟩) hS.2.2 dX0_lastYear_26 hlocks

set_option maxHeartbeats 4000000 in
set_option maxRecDepth 100000 in
theorem c_X0_holdsInAYear (l : Launch) (D : va_G) (cI cL cZ cO : ClassId) (h0 q1 q2 q3 q4 q5 q6 : Nat) (K Y P S O : Nat → Int32) (N : Nat → Int64) (n F : Nat) (j : Nat) (hn : n ≤ 30) (hj : j ≤ 31) : Met l yX0_holdsInAYear wsX0_holdsInAYear ({ frames := 1, cells := 0, slots := 0, locals := 21 }) (va_Pc [.ref h0, .int (nI j)] (pn_Pr D cI cL cZ cO [(h0, .inr (0, [.ref q1, .ref q2, .ref q3, .ref q4, .ref q5, .ref q6, .int (nI n), .int (nI F)])), (q1, .inl (cI, 30, .inl K)), (q2, .inl (cI, 30, .inl Y)), (q3, .inl (cI, 30, .inl P)), (q4, .inl (cI, 30, .inl S)), (q5, .inl (cI, 30, .inl O)), (q6, .inl (cL, 30, .inr (.inl N)))])) (va_Qi (fun r (_ : Unit) => r = (pn_b (pn_fy Y n j ≤ pn_ly Y n j))) (fun _ _ => True) pn_No) 0 0 pn_No := by
  refine pn_mk (by decide) rfl (Nat.le_of_ble_eq_true rfl) ?_
  intro p e s m below meth c ls hx hb hr hml hown hts hlocks hK hP hl
  have hown : s.vm.findClass RX0 = some m.cls := hown
  have hS : va_S pn_No s.heap s.heap [] := va_S.rf
  have hl : lv_has ls 2 [(0, .ref h0), (1, .int (nI j))] := hl
  refine lv_aload_n hx hb dX0_holdsInAYear_0 rfl (lv_at hl 0 rfl) ?_
  refine lv_iload_n hx hb dX0_holdsInAYear_1 rfl (lv_at hl 1 rfl) ?_
  refine pn_roi (w := [(h0, .inr (0, [.ref q1, .ref q2, .ref q3, .ref q4, .ref q5, .ref q6, .int (nI n), .int (nI F)])), (q1, .inl (cI, 30, .inl K)), (q2, .inl (cI, 30, .inl Y)), (q3, .inl (cI, 30, .inl P)), (q4, .inl (cI, 30, .inl S)), (q5, .inl (cI, 30, .inl O)), (q6, .inl (cL, 30, .inr (.inl N)))]) hP hS (va_runV (As := [.int (nI j)]) (rest := []) ⟨hx, hb, hml, hown, hts⟩ (c_X0_firstYear l D cI cL cZ cO h0 q1 q2 q3 q4 q5 q6 K Y P S O N n F j (by first | omega | assumption | grind | simp_all) (by first | omega | assumption | grind | simp_all)) (cwV 1 hts gX0_holdsInAYear_X0_firstYear rfl rfl rfl (by decide +kernel) ⟨Nat.le_of_ble_eq_true rfl, Nat.le_of_ble_eq_true rfl⟩) (pn_pv hP hK (q0 := 0) rfl rfl) rfl rfl hl.1 rfl (lv_room (Nat.le_of_ble_eq_true rfl)) dX0_holdsInAYear_2 ⟨Nat.le_of_ble_eq_true rfl, Nat.le_of_ble_eq_true rfl⟩) (fun H locs hP hS => ?_)
  refine lv_aload_n hx hb dX0_holdsInAYear_5 rfl (lv_at hl 0 rfl) ?_
  refine lv_iload_n hx hb dX0_holdsInAYear_6 rfl (lv_at hl 1 rfl) ?_
  refine pn_roi (w := [(h0, .inr (0, [.ref q1, .ref q2, .ref q3, .ref q4, .ref q5, .ref q6, .int (nI n), .int (nI F)])), (q1, .inl (cI, 30, .inl K)), (q2, .inl (cI, 30, .inl Y)), (q3, .inl (cI, 30, .inl P)), (q4, .inl (cI, 30, .inl S)), (q5, .inl (cI, 30, .inl O)), (q6, .inl (cL, 30, .inr (.inl N)))]) hP hS (va_runV (As := [.int (nI j)]) (rest := [.int (pn_fy Y n j)]) ⟨hx, hb, hml, hown, hts⟩ (c_X0_lastYear l D cI cL cZ cO h0 q1 q2 q3 q4 q5 q6 K Y P S O N n F j (by first | omega | assumption | grind | simp_all) (by first | omega | assumption | grind | simp_all)) (cwV 1 hts gX0_holdsInAYear_X0_lastYear rfl rfl rfl (by decide +kernel) ⟨Nat.le_of_ble_eq_true rfl, Nat.le_of_ble_eq_true rfl⟩) (pn_pv hP hK (q0 := 0) rfl rfl) rfl rfl hl.1 rfl (lv_room (Nat.le_of_ble_eq_true rfl)) dX0_holdsInAYear_7 ⟨Nat.le_of_ble_eq_true rfl, Nat.le_of_ble_eq_true rfl⟩) (fun H locs hP hS => ?_)
  refine lv_icmp_gt (tgt := 17) hx hb dX0_holdsInAYear_10 (by decide) (fun b10 => ?_) (fun b10 => ?_)
  · refine lv_iconst (v := (nI 0)) hx hb dX0_holdsInAYear_17 (by decide) ?_
    exact W.zret hx hb hr (by decide) (fun t ht hW => ⟨⟨_, (), rfl, (by first | exact pn_bt (by first | assumption | (exact Int32.not_lt.mp (by assumption)) | (simp_all)) | exact pn_bf (by first | assumption | exact Int32.not_le.mpr (by assumption))), trivial⟩, hS.F ht⟩) hS.2.2 dX0_holdsInAYear_18 hlocks
  · refine lv_iconst (v := (nI 1)) hx hb dX0_holdsInAYear_13 (by decide) ?_
    refine lv_goto (tgt := 18) hx hb dX0_holdsInAYear_14 (by decide) ?_
    exact W.zret hx hb hr (by decide) (fun t ht hW => ⟨⟨_, (), rfl, (by first | exact pn_bt (by first | assumption | (exact Int32.not_lt.mp (by assumption)) | (simp_all)) | exact pn_bf (by first | assumption | exact Int32.not_le.mpr (by assumption))), trivial⟩, hS.F ht⟩) hS.2.2 dX0_holdsInAYear_18 hlocks

theorem ih_X0_stageIn_X0 : ∀ w ∈ wsX00, w ∈ wsX0_stageIn := by decide +kernel
set_option maxHeartbeats 4000000 in
set_option maxRecDepth 100000 in
theorem c_X0_stageIn (l : Launch) (D : va_G) (cI cL cZ cO : ClassId) (h0 q1 q2 q3 q4 q5 q6 : Nat) (K Y P S O : Nat → Int32) (N : Nat → Int64) (n F : Nat) (yr : Int32) (hn : n ≤ 30) : Met l yX0_stageIn wsX0_stageIn ({ frames := 0, cells := 0, slots := 0, locals := 0 }) (va_Pc [.ref h0, .int yr] (pn_Pr D cI cL cZ cO [(h0, .inr (0, [.ref q1, .ref q2, .ref q3, .ref q4, .ref q5, .ref q6, .int (nI n), .int (nI F)])), (q1, .inl (cI, 30, .inl K)), (q2, .inl (cI, 30, .inl Y)), (q3, .inl (cI, 30, .inl P)), (q4, .inl (cI, 30, .inl S)), (q5, .inl (cI, 30, .inl O)), (q6, .inl (cL, 30, .inr (.inl N)))])) (va_Qi (fun r (_ : Unit) => r = (nI (pn_st Y yr n))) (fun _ _ => True) pn_No) 0 0 pn_No := by
  refine pn_mk (by decide) rfl (Nat.le_of_ble_eq_true rfl) ?_
  intro p e s m below meth c ls hx hb hr hml hown hts hlocks hK hP hl
  have hown : s.vm.findClass RX0 = some m.cls := hown
  have hS : va_S pn_No s.heap s.heap [] := va_S.rf
  have hl : lv_has ls 3 [(0, .ref h0), (1, .int yr)] := hl
  refine lv_iconst (v := (nI 0)) hx hb dX0_stageIn_0 (by decide) ?_
  refine lv_istore_n (lv' := [(2, .int (nI 0)), (0, .ref h0), (1, .int yr)]) hx hb dX0_stageIn_1 rfl hl (by decide) rfl (fun ls hl => ?_)
  have lp2_1 : ∀ (fu : Nat) (k : Nat), n - k < fu → (k ≤ n) → (∀ i, i < k → Y i ≤ yr) → ∀ (H : Heap) (locs : List Loc) (ls : Array Slot), va_P D vwCl [(h0, .inr (0, [.ref q1, .ref q2, .ref q3, .ref q4, .ref q5, .ref q6, .int (nI n), .int (nI F)])), (q1, .inl (cI, 30, .inl K)), (q2, .inl (cI, 30, .inl Y)), (q3, .inl (cI, 30, .inl P)), (q4, .inl (cI, 30, .inl S)), (q5, .inl (cI, 30, .inl O)), (q6, .inl (cL, 30, .inr (.inl N)))] H → va_S pn_No s.heap H locs → lv_has ls 3 [(0, .ref h0), (1, .int yr), (2, .int (nI k))] → W p l e ({ frames := 0, cells := 0, slots := 0, locals := 0 }) s m (List.toArray [.ref h0, .int yr]) below meth c H locs 0 0 (MQ below (va_Qi (fun r (_ : Unit) => r = (nI (pn_st Y yr n))) (fun _ _ => True) pn_No) (List.toArray [.ref h0, .int yr]) s 0 0 pn_No) (F0 m 2 ls []) := by
    intro fu
    induction fu with
    | zero => intro k hfu; exact absurd hfu (Nat.not_lt_zero _)
    | succ fu ih2_1 =>
      intro k hfu hk hp H locs ls hP hS hl
      refine lv_iload_n hx hb dX0_stageIn_2 rfl (lv_at hl 2 rfl) ?_
      refine lv_aload_n hx hb dX0_stageIn_3 rfl (lv_at hl 0 rfl) ?_
      refine va_get (D := D) (ci := 0) (v := .int (nI n)) (C := RX0) (T := TX0) (N := 8) hx hb hts ih_X0_stageIn_X0 hown hK.1 hP 0 rfl rfl 6 (by decide) (hts (.fieldLink RX0 31 "ParishNames$Chronicle" "told" "I") (by decide +kernel)) (fun _ h9 => h9) rfl dX0_stageIn_4 ?_
      refine lv_icmp_ge (tgt := 26) hx hb dX0_stageIn_7 (by decide) (fun b7 => ?_) (fun b7 => ?_)
      · have b7 : n ≤ k := (pn_le (by omega) (by omega)).mp (show nI n ≤ nI k from b7)
        refine lv_iload_n hx hb dX0_stageIn_26 rfl (lv_at hl 2 rfl) ?_
        exact W.iret hx hb hr (fun t ht hW => ⟨⟨_, (), rfl, (congrArg nI (pn_cw_eq (fun i h => decide_eq_true (hp i h)) (by omega) (by first | exact Or.inl (by omega) | exact Or.inr (by rw [decide_eq_true_iff]; exact Int32.not_le.mpr (by assumption)))).symm), trivial⟩, hS.F ht⟩) hS.2.2 dX0_stageIn_27 hlocks
      · have b7 : ¬ n ≤ k := fun h => (show ¬ nI n ≤ nI k from b7) ((pn_le (by omega) (by omega)).mpr h)
        refine lv_aload_n hx hb dX0_stageIn_10 rfl (lv_at hl 0 rfl) ?_
        refine va_get (D := D) (ci := 0) (v := .ref q2) (C := RX0) (T := TX0) (N := 8) hx hb hts ih_X0_stageIn_X0 hown hK.1 hP 0 rfl rfl 1 (by decide) (hts (.fieldLink RX0 15 "ParishNames$Chronicle" "years" "[I") (by decide +kernel)) (fun _ h9 => h9) rfl dX0_stageIn_11 ?_
        refine lv_iload_n hx hb dX0_stageIn_14 rfl (lv_at hl 2 rfl) ?_
        refine pn_iald hx hb hK.1 hP 2 0 rfl rfl (i := k) (by omega) (Nat.le_of_ble_eq_true rfl) dX0_stageIn_15 ?_
        refine lv_iload_n hx hb dX0_stageIn_16 rfl (lv_at hl 1 rfl) ?_
        refine lv_icmp_gt (tgt := 26) hx hb dX0_stageIn_17 (by decide) (fun b17 => ?_) (fun b17 => ?_)
        · refine lv_iload_n hx hb dX0_stageIn_26 rfl (lv_at hl 2 rfl) ?_
          exact W.iret hx hb hr (fun t ht hW => ⟨⟨_, (), rfl, (congrArg nI (pn_cw_eq (fun i h => decide_eq_true (hp i h)) (by omega) (by first | exact Or.inl (by omega) | exact Or.inr (by rw [decide_eq_true_iff]; exact Int32.not_le.mpr (by assumption)))).symm), trivial⟩, hS.F ht⟩) hS.2.2 dX0_stageIn_27 hlocks
        · refine lv_iinc (v := (nI (k + 1))) (lv' := [(2, .int (nI (k + 1))), (0, .ref h0), (1, .int yr)]) hx hb dX0_stageIn_20 hl (k := 2) rfl (nI_add k 1) (by decide) rfl (fun ls hl => ?_)
          refine lv_goto (tgt := 2) hx hb dX0_stageIn_23 (by decide) ?_
          exact ih2_1 (k + 1) (by omega) (by first | omega | assumption | grind | simp_all) (lt_s hp (Int32.not_lt.mp (by assumption))) _ _ _ hP hS (lv_sub hl [1, 2, 0] rfl)
  exact lp2_1 ((n - 0) + 1) 0 (Nat.lt_succ_self _) (by first | omega | assumption | grind | simp_all) (fun i h => absurd h (Nat.not_lt_zero _)) _ _ _ hP hS (lv_sub hl [1, 2, 0] rfl)

set_option maxHeartbeats 4000000 in
set_option maxRecDepth 100000 in
theorem c_X0_sitesAtFirst (l : Launch) (D : va_G) (cI cL cZ cO : ClassId)  (pa : Int32) : Met l yX0_sitesAtFirst wsX0_sitesAtFirst ({ frames := 0, cells := 0, slots := 0, locals := 0 }) (va_Pc [.int pa] (pn_Pr D cI cL cZ cO [])) (va_Qi (fun r (_ : Unit) => r = (pn_sit0 pa)) (fun _ _ => True) pn_No) 0 0 pn_No := by
  refine pn_mk (by decide) rfl (Nat.le_of_ble_eq_true rfl) ?_
  intro p e s m below meth c ls hx hb hr hml hown hts hlocks hK hP hl
  have hown : s.vm.findClass RX0 = some m.cls := hown
  have hS : va_S pn_No s.heap s.heap [] := va_S.rf
  have hl : lv_has ls 1 [(0, .int pa)] := hl
  refine lv_iload_n hx hb dX0_sitesAtFirst_0 rfl (lv_at hl 0 rfl) ?_
  refine lv_if_ne (tgt := 10) hx hb dX0_sitesAtFirst_1 (by decide) (fun b1 => ?_) (fun b1 => ?_)
  · refine lv_iconst (v := (nI 0)) hx hb dX0_sitesAtFirst_10 (by decide) ?_
    exact W.iret hx hb hr (fun t ht hW => ⟨⟨_, (), rfl, (by unfold pn_sit0; (repeat' split) <;> first | rfl | contradiction | omega | grind), trivial⟩, hS.F ht⟩) hS.2.2 dX0_sitesAtFirst_11 hlocks
  · refine lv_sipush (v := (nI 4095)) hx hb dX0_sitesAtFirst_4 (by decide) ?_
    refine lv_goto (tgt := 11) hx hb dX0_sitesAtFirst_7 (by decide) ?_
    exact W.iret hx hb hr (fun t ht hW => ⟨⟨_, (), rfl, (by unfold pn_sit0; (repeat' split) <;> first | rfl | contradiction | omega | grind), trivial⟩, hS.F ht⟩) hS.2.2 dX0_sitesAtFirst_11 hlocks

set_option maxHeartbeats 4000000 in
set_option maxRecDepth 100000 in
theorem c_X0_nameAtFirst (l : Launch) (D : va_G) (cI cL cZ cO : ClassId)  (pa : Int32) : Met l yX0_nameAtFirst wsX0_nameAtFirst ({ frames := 1, cells := 0, slots := 0, locals := 23 }) (va_Pc [.int pa] (pn_Pr D cI cL cZ cO [])) (va_Ql (fun r (_ : Unit) => r = (pn_nam0 pa)) (fun _ _ => True) pn_No) 0 0 pn_No := by
  refine pn_mk (by decide) rfl (Nat.le_of_ble_eq_true rfl) ?_
  intro p e s m below meth c ls hx hb hr hml hown hts hlocks hK hP hl
  have hown : s.vm.findClass RX0 = some m.cls := hown
  have hS : va_S pn_No s.heap s.heap [] := va_S.rf
  have hl : lv_has ls 1 [(0, .int pa)] := hl
  refine lv_iload_n hx hb dX0_nameAtFirst_0 rfl (lv_at hl 0 rfl) ?_
  refine lv_if_ne (tgt := 14) hx hb dX0_nameAtFirst_1 (by decide) (fun b1 => ?_) (fun b1 => ?_)
  · refine lv_lconst (v := 0) hx hb dX0_nameAtFirst_14 (by decide) ?_
    exact W.lret hx hb hr (fun t ht hW => ⟨⟨_, (), rfl, (by unfold pn_nam0; (repeat' split) <;> first | rfl | contradiction | omega | grind), trivial⟩, hS.F ht⟩) hS.2.2 dX0_nameAtFirst_15 hlocks
  · refine lv_lconst (v := 0) hx hb dX0_nameAtFirst_4 (by decide) ?_
    refine lv_iconst (v := (nI 0)) hx hb dX0_nameAtFirst_5 (by decide) ?_
    refine lv_bipush (v := (nI 97)) hx hb dX0_nameAtFirst_6 (by decide) ?_
    refine pn_rol (w := []) hP hS (va_runS (As := [.long 0, .int (nI 0), .int (nI 97)]) (rest := []) ⟨hx, hb, hml, hown, hts⟩ (c_X1_withLetter l D cI cL cZ cO 0 0 (nI 97)) (va_cwS 3 hts gX0_nameAtFirst_X1_withLetter rfl rfl rfl (by decide +kernel) ⟨Nat.le_of_ble_eq_true rfl, Nat.le_of_ble_eq_true rfl⟩) (pn_ps (WS := []) (fun k q h => by simp at h) hK) rfl rfl hl.1 rfl (lv_room (Nat.le_of_ble_eq_true rfl)) dX0_nameAtFirst_8 ⟨Nat.le_of_ble_eq_true rfl, Nat.le_of_ble_eq_true rfl⟩) (fun H locs hP hS => ?_)
    refine lv_goto (tgt := 15) hx hb dX0_nameAtFirst_11 (by decide) ?_
    exact W.lret hx hb hr (fun t ht hW => ⟨⟨_, (), rfl, (by unfold pn_nam0; (repeat' split) <;> first | rfl | contradiction | omega | grind), trivial⟩, hS.F ht⟩) hS.2.2 dX0_nameAtFirst_15 hlocks

theorem ih_X0_sitesThrough_X0 : ∀ w ∈ wsX00, w ∈ wsX0_sitesThrough := by decide +kernel
set_option maxHeartbeats 4000000 in
set_option maxRecDepth 100000 in
theorem c_X0_sitesThrough (l : Launch) (D : va_G) (cI cL cZ cO : ClassId) (h0 q1 q2 q3 q4 q5 q6 : Nat) (K Y P S O : Nat → Int32) (N : Nat → Int64) (n F : Nat) (i : Nat) (pa : Int32) (hd : Int32) (hn : n ≤ 30) (hi : i < n) : Met l yX0_sitesThrough wsX0_sitesThrough ({ frames := 0, cells := 0, slots := 0, locals := 0 }) (va_Pc [.ref h0, .int (nI i), .int pa, .int hd] (pn_Pr D cI cL cZ cO [(h0, .inr (0, [.ref q1, .ref q2, .ref q3, .ref q4, .ref q5, .ref q6, .int (nI n), .int (nI F)])), (q1, .inl (cI, 30, .inl K)), (q2, .inl (cI, 30, .inl Y)), (q3, .inl (cI, 30, .inl P)), (q4, .inl (cI, 30, .inl S)), (q5, .inl (cI, 30, .inl O)), (q6, .inl (cL, 30, .inr (.inl N)))])) (va_Qi (fun r (_ : Unit) => r = (pn_sitT P S O i pa hd)) (fun _ _ => True) pn_No) 0 0 pn_No := by
  refine pn_mk (by decide) rfl (Nat.le_of_ble_eq_true rfl) ?_
  intro p e s m below meth c ls hx hb hr hml hown hts hlocks hK hP hl
  have hown : s.vm.findClass RX0 = some m.cls := hown
  have hS : va_S pn_No s.heap s.heap [] := va_S.rf
  have hl : lv_has ls 4 [(0, .ref h0), (1, .int (nI i)), (2, .int pa), (3, .int hd)] := hl
  refine lv_iload_n hx hb dX0_sitesThrough_0 rfl (lv_at hl 1 rfl) ?_
  refine lv_if_lt (tgt := 12) hx hb dX0_sitesThrough_1 (by decide) (fun b1 => ?_) (fun b1 => ?_)
  · have b1 : i < 0 := (pn_lt (by omega) (by omega)).mp (show nI i < nI 0 from b1)
    omega
  · have b1 : ¬ i < 0 := fun h => (show ¬ nI i < nI 0 from b1) ((pn_lt (by omega) (by omega)).mpr h)
    refine lv_iload_n hx hb dX0_sitesThrough_4 rfl (lv_at hl 1 rfl) ?_
    refine lv_aload_n hx hb dX0_sitesThrough_5 rfl (lv_at hl 0 rfl) ?_
    refine va_get (D := D) (ci := 0) (v := .int (nI n)) (C := RX0) (T := TX0) (N := 8) hx hb hts ih_X0_sitesThrough_X0 hown hK.1 hP 0 rfl rfl 6 (by decide) (hts (.fieldLink RX0 31 "ParishNames$Chronicle" "told" "I") (by decide +kernel)) (fun _ h9 => h9) rfl dX0_sitesThrough_6 ?_
    refine lv_icmp_lt (tgt := 14) hx hb dX0_sitesThrough_9 (by decide) (fun b9 => ?_) (fun b9 => ?_)
    · have b9 : i < n := (pn_lt (by omega) (by omega)).mp (show nI i < nI n from b9)
      refine lv_aload_n hx hb dX0_sitesThrough_14 rfl (lv_at hl 0 rfl) ?_
      refine va_get (D := D) (ci := 0) (v := .ref q3) (C := RX0) (T := TX0) (N := 8) hx hb hts ih_X0_sitesThrough_X0 hown hK.1 hP 0 rfl rfl 2 (by decide) (hts (.fieldLink RX0 18 "ParishNames$Chronicle" "parishes" "[I") (by decide +kernel)) (fun _ h9 => h9) rfl dX0_sitesThrough_15 ?_
      refine lv_iload_n hx hb dX0_sitesThrough_18 rfl (lv_at hl 1 rfl) ?_
      refine pn_iald hx hb hK.1 hP 3 0 rfl rfl (i := i) (by omega) (Nat.le_of_ble_eq_true rfl) dX0_sitesThrough_19 ?_
      refine lv_iload_n hx hb dX0_sitesThrough_20 rfl (lv_at hl 2 rfl) ?_
      refine lv_icmp_ne (tgt := 35) hx hb dX0_sitesThrough_21 (by decide) (fun b21 => ?_) (fun b21 => ?_)
      · refine lv_aload_n hx hb dX0_sitesThrough_35 rfl (lv_at hl 0 rfl) ?_
        refine va_get (D := D) (ci := 0) (v := .ref q5) (C := RX0) (T := TX0) (N := 8) hx hb hts ih_X0_sitesThrough_X0 hown hK.1 hP 0 rfl rfl 4 (by decide) (hts (.fieldLink RX0 24 "ParishNames$Chronicle" "owners" "[I") (by decide +kernel)) (fun _ h9 => h9) rfl dX0_sitesThrough_36 ?_
        refine lv_iload_n hx hb dX0_sitesThrough_39 rfl (lv_at hl 1 rfl) ?_
        refine pn_iald hx hb hK.1 hP 5 0 rfl rfl (i := i) (by omega) (Nat.le_of_ble_eq_true rfl) dX0_sitesThrough_40 ?_
        refine lv_iload_n hx hb dX0_sitesThrough_41 rfl (lv_at hl 2 rfl) ?_
        refine lv_icmp_ne (tgt := 56) hx hb dX0_sitesThrough_42 (by decide) (fun b42 => ?_) (fun b42 => ?_)
        · refine lv_iload_n hx hb dX0_sitesThrough_56 rfl (lv_at hl 3 rfl) ?_
          exact W.iret hx hb hr (fun t ht hW => ⟨⟨_, (), rfl, (by unfold pn_sitT; (repeat' split) <;> first | rfl | contradiction | omega | grind), trivial⟩, hS.F ht⟩) hS.2.2 dX0_sitesThrough_57 hlocks
        · refine lv_iload_n hx hb dX0_sitesThrough_45 rfl (lv_at hl 3 rfl) ?_
          refine lv_aload_n hx hb dX0_sitesThrough_46 rfl (lv_at hl 0 rfl) ?_
          refine va_get (D := D) (ci := 0) (v := .ref q4) (C := RX0) (T := TX0) (N := 8) hx hb hts ih_X0_sitesThrough_X0 hown hK.1 hP 0 rfl rfl 3 (by decide) (hts (.fieldLink RX0 21 "ParishNames$Chronicle" "sets" "[I") (by decide +kernel)) (fun _ h9 => h9) rfl dX0_sitesThrough_47 ?_
          refine lv_iload_n hx hb dX0_sitesThrough_50 rfl (lv_at hl 1 rfl) ?_
          refine pn_iald hx hb hK.1 hP 4 0 rfl rfl (i := i) (by omega) (Nat.le_of_ble_eq_true rfl) dX0_sitesThrough_51 ?_
          refine lv_ior hx hb dX0_sitesThrough_52 ?_
          refine lv_goto (tgt := 57) hx hb dX0_sitesThrough_53 (by decide) ?_
          exact W.iret hx hb hr (fun t ht hW => ⟨⟨_, (), rfl, (by unfold pn_sitT; (repeat' split) <;> first | rfl | contradiction | omega | grind), trivial⟩, hS.F ht⟩) hS.2.2 dX0_sitesThrough_57 hlocks
      · refine lv_iload_n hx hb dX0_sitesThrough_24 rfl (lv_at hl 3 rfl) ?_
        refine lv_aload_n hx hb dX0_sitesThrough_25 rfl (lv_at hl 0 rfl) ?_
        refine va_get (D := D) (ci := 0) (v := .ref q4) (C := RX0) (T := TX0) (N := 8) hx hb hts ih_X0_sitesThrough_X0 hown hK.1 hP 0 rfl rfl 3 (by decide) (hts (.fieldLink RX0 21 "ParishNames$Chronicle" "sets" "[I") (by decide +kernel)) (fun _ h9 => h9) rfl dX0_sitesThrough_26 ?_
        refine lv_iload_n hx hb dX0_sitesThrough_29 rfl (lv_at hl 1 rfl) ?_
        refine pn_iald hx hb hK.1 hP 4 0 rfl rfl (i := i) (by omega) (Nat.le_of_ble_eq_true rfl) dX0_sitesThrough_30 ?_
        refine lv_iconst (v := (-1)) hx hb dX0_sitesThrough_31 (by decide) ?_
        refine lv_ixor hx hb dX0_sitesThrough_32 ?_
        refine lv_iand hx hb dX0_sitesThrough_33 ?_
        exact W.iret hx hb hr (fun t ht hW => ⟨⟨_, (), rfl, (by unfold pn_sitT; (repeat' split) <;> first | rfl | contradiction | omega | grind), trivial⟩, hS.F ht⟩) hS.2.2 dX0_sitesThrough_34 hlocks
    · have b9 : ¬ i < n := fun h => (show ¬ nI i < nI n from b9) ((pn_lt (by omega) (by omega)).mpr h)
      omega

theorem ih_X0_nameThrough_X0 : ∀ w ∈ wsX00, w ∈ wsX0_nameThrough := by decide +kernel
set_option maxHeartbeats 4000000 in
set_option maxRecDepth 100000 in
theorem c_X0_nameThrough (l : Launch) (D : va_G) (cI cL cZ cO : ClassId) (h0 q1 q2 q3 q4 q5 q6 : Nat) (K Y P S O : Nat → Int32) (N : Nat → Int64) (n F : Nat) (i : Nat) (pa : Int32) (nm : Int64) (hn : n ≤ 30) (hi : i < n) : Met l yX0_nameThrough wsX0_nameThrough ({ frames := 0, cells := 0, slots := 0, locals := 0 }) (va_Pc [.ref h0, .int (nI i), .int pa, .long nm] (pn_Pr D cI cL cZ cO [(h0, .inr (0, [.ref q1, .ref q2, .ref q3, .ref q4, .ref q5, .ref q6, .int (nI n), .int (nI F)])), (q1, .inl (cI, 30, .inl K)), (q2, .inl (cI, 30, .inl Y)), (q3, .inl (cI, 30, .inl P)), (q4, .inl (cI, 30, .inl S)), (q5, .inl (cI, 30, .inl O)), (q6, .inl (cL, 30, .inr (.inl N)))])) (va_Ql (fun r (_ : Unit) => r = (pn_namT K P O N i pa nm)) (fun _ _ => True) pn_No) 0 0 pn_No := by
  refine pn_mk (by decide) rfl (Nat.le_of_ble_eq_true rfl) ?_
  intro p e s m below meth c ls hx hb hr hml hown hts hlocks hK hP hl
  have hown : s.vm.findClass RX0 = some m.cls := hown
  have hS : va_S pn_No s.heap s.heap [] := va_S.rf
  have hl : lv_has ls 5 [(0, .ref h0), (1, .int (nI i)), (2, .int pa), (3, .long nm)] := hl
  refine lv_iload_n hx hb dX0_nameThrough_0 rfl (lv_at hl 1 rfl) ?_
  refine lv_if_lt (tgt := 12) hx hb dX0_nameThrough_1 (by decide) (fun b1 => ?_) (fun b1 => ?_)
  · have b1 : i < 0 := (pn_lt (by omega) (by omega)).mp (show nI i < nI 0 from b1)
    omega
  · have b1 : ¬ i < 0 := fun h => (show ¬ nI i < nI 0 from b1) ((pn_lt (by omega) (by omega)).mpr h)
    refine lv_iload_n hx hb dX0_nameThrough_4 rfl (lv_at hl 1 rfl) ?_
    refine lv_aload_n hx hb dX0_nameThrough_5 rfl (lv_at hl 0 rfl) ?_
    refine va_get (D := D) (ci := 0) (v := .int (nI n)) (C := RX0) (T := TX0) (N := 8) hx hb hts ih_X0_nameThrough_X0 hown hK.1 hP 0 rfl rfl 6 (by decide) (hts (.fieldLink RX0 31 "ParishNames$Chronicle" "told" "I") (by decide +kernel)) (fun _ h9 => h9) rfl dX0_nameThrough_6 ?_
    refine lv_icmp_lt (tgt := 14) hx hb dX0_nameThrough_9 (by decide) (fun b9 => ?_) (fun b9 => ?_)
    · have b9 : i < n := (pn_lt (by omega) (by omega)).mp (show nI i < nI n from b9)
      refine lv_aload_n hx hb dX0_nameThrough_14 rfl (lv_at hl 0 rfl) ?_
      refine va_get (D := D) (ci := 0) (v := .ref q1) (C := RX0) (T := TX0) (N := 8) hx hb hts ih_X0_nameThrough_X0 hown hK.1 hP 0 rfl rfl 0 (by decide) (hts (.fieldLink RX0 9 "ParishNames$Chronicle" "kinds" "[I") (by decide +kernel)) (fun _ h9 => h9) rfl dX0_nameThrough_15 ?_
      refine lv_iload_n hx hb dX0_nameThrough_18 rfl (lv_at hl 1 rfl) ?_
      refine pn_iald hx hb hK.1 hP 1 0 rfl rfl (i := i) (by omega) (Nat.le_of_ble_eq_true rfl) dX0_nameThrough_19 ?_
      refine lv_if_ne (tgt := 40) hx hb dX0_nameThrough_20 (by decide) (fun b20 => ?_) (fun b20 => ?_)
      · refine lv_aload_n hx hb dX0_nameThrough_40 rfl (lv_at hl 0 rfl) ?_
        refine va_get (D := D) (ci := 0) (v := .ref q1) (C := RX0) (T := TX0) (N := 8) hx hb hts ih_X0_nameThrough_X0 hown hK.1 hP 0 rfl rfl 0 (by decide) (hts (.fieldLink RX0 9 "ParishNames$Chronicle" "kinds" "[I") (by decide +kernel)) (fun _ h9 => h9) rfl dX0_nameThrough_41 ?_
        refine lv_iload_n hx hb dX0_nameThrough_44 rfl (lv_at hl 1 rfl) ?_
        refine pn_iald hx hb hK.1 hP 1 0 rfl rfl (i := i) (by omega) (Nat.le_of_ble_eq_true rfl) dX0_nameThrough_45 ?_
        refine lv_iconst (v := (nI 1)) hx hb dX0_nameThrough_46 (by decide) ?_
        refine lv_icmp_ne (tgt := 69) hx hb dX0_nameThrough_47 (by decide) (fun b47 => ?_) (fun b47 => ?_)
        · refine lv_lload_n hx hb dX0_nameThrough_69 rfl (lv_at hl 3 rfl) ?_
          exact W.lret hx hb hr (fun t ht hW => ⟨⟨_, (), rfl, (by unfold pn_namT; (repeat' split) <;> first | rfl | contradiction | omega | grind), trivial⟩, hS.F ht⟩) hS.2.2 dX0_nameThrough_70 hlocks
        · refine lv_aload_n hx hb dX0_nameThrough_50 rfl (lv_at hl 0 rfl) ?_
          refine va_get (D := D) (ci := 0) (v := .ref q5) (C := RX0) (T := TX0) (N := 8) hx hb hts ih_X0_nameThrough_X0 hown hK.1 hP 0 rfl rfl 4 (by decide) (hts (.fieldLink RX0 24 "ParishNames$Chronicle" "owners" "[I") (by decide +kernel)) (fun _ h9 => h9) rfl dX0_nameThrough_51 ?_
          refine lv_iload_n hx hb dX0_nameThrough_54 rfl (lv_at hl 1 rfl) ?_
          refine pn_iald hx hb hK.1 hP 5 0 rfl rfl (i := i) (by omega) (Nat.le_of_ble_eq_true rfl) dX0_nameThrough_55 ?_
          refine lv_iload_n hx hb dX0_nameThrough_56 rfl (lv_at hl 2 rfl) ?_
          refine lv_icmp_ne (tgt := 69) hx hb dX0_nameThrough_57 (by decide) (fun b57 => ?_) (fun b57 => ?_)
          · refine lv_lload_n hx hb dX0_nameThrough_69 rfl (lv_at hl 3 rfl) ?_
            exact W.lret hx hb hr (fun t ht hW => ⟨⟨_, (), rfl, (by unfold pn_namT; (repeat' split) <;> first | rfl | contradiction | omega | grind), trivial⟩, hS.F ht⟩) hS.2.2 dX0_nameThrough_70 hlocks
          · refine lv_aload_n hx hb dX0_nameThrough_60 rfl (lv_at hl 0 rfl) ?_
            refine va_get (D := D) (ci := 0) (v := .ref q6) (C := RX0) (T := TX0) (N := 8) hx hb hts ih_X0_nameThrough_X0 hown hK.1 hP 0 rfl rfl 5 (by decide) (hts (.fieldLink RX0 27 "ParishNames$Chronicle" "names" "[J") (by decide +kernel)) (fun _ h9 => h9) rfl dX0_nameThrough_61 ?_
            refine lv_iload_n hx hb dX0_nameThrough_64 rfl (lv_at hl 1 rfl) ?_
            refine pn_lald hx hb hK.1 hP 6 1 rfl rfl (i := i) (by omega) (Nat.le_of_ble_eq_true rfl) dX0_nameThrough_65 ?_
            refine lv_goto (tgt := 70) hx hb dX0_nameThrough_66 (by decide) ?_
            exact W.lret hx hb hr (fun t ht hW => ⟨⟨_, (), rfl, (by unfold pn_namT; (repeat' split) <;> first | rfl | contradiction | omega | grind), trivial⟩, hS.F ht⟩) hS.2.2 dX0_nameThrough_70 hlocks
      · refine lv_aload_n hx hb dX0_nameThrough_23 rfl (lv_at hl 0 rfl) ?_
        refine va_get (D := D) (ci := 0) (v := .ref q3) (C := RX0) (T := TX0) (N := 8) hx hb hts ih_X0_nameThrough_X0 hown hK.1 hP 0 rfl rfl 2 (by decide) (hts (.fieldLink RX0 18 "ParishNames$Chronicle" "parishes" "[I") (by decide +kernel)) (fun _ h9 => h9) rfl dX0_nameThrough_24 ?_
        refine lv_iload_n hx hb dX0_nameThrough_27 rfl (lv_at hl 1 rfl) ?_
        refine pn_iald hx hb hK.1 hP 3 0 rfl rfl (i := i) (by omega) (Nat.le_of_ble_eq_true rfl) dX0_nameThrough_28 ?_
        refine lv_iload_n hx hb dX0_nameThrough_29 rfl (lv_at hl 2 rfl) ?_
        refine lv_icmp_ne (tgt := 40) hx hb dX0_nameThrough_30 (by decide) (fun b30 => ?_) (fun b30 => ?_)
        · refine lv_aload_n hx hb dX0_nameThrough_40 rfl (lv_at hl 0 rfl) ?_
          refine va_get (D := D) (ci := 0) (v := .ref q1) (C := RX0) (T := TX0) (N := 8) hx hb hts ih_X0_nameThrough_X0 hown hK.1 hP 0 rfl rfl 0 (by decide) (hts (.fieldLink RX0 9 "ParishNames$Chronicle" "kinds" "[I") (by decide +kernel)) (fun _ h9 => h9) rfl dX0_nameThrough_41 ?_
          refine lv_iload_n hx hb dX0_nameThrough_44 rfl (lv_at hl 1 rfl) ?_
          refine pn_iald hx hb hK.1 hP 1 0 rfl rfl (i := i) (by omega) (Nat.le_of_ble_eq_true rfl) dX0_nameThrough_45 ?_
          refine lv_iconst (v := (nI 1)) hx hb dX0_nameThrough_46 (by decide) ?_
          refine lv_icmp_ne (tgt := 69) hx hb dX0_nameThrough_47 (by decide) (fun b47 => ?_) (fun b47 => ?_)
          · refine lv_lload_n hx hb dX0_nameThrough_69 rfl (lv_at hl 3 rfl) ?_
            exact W.lret hx hb hr (fun t ht hW => ⟨⟨_, (), rfl, (by unfold pn_namT; (repeat' split) <;> first | rfl | contradiction | omega | grind), trivial⟩, hS.F ht⟩) hS.2.2 dX0_nameThrough_70 hlocks
          · refine lv_aload_n hx hb dX0_nameThrough_50 rfl (lv_at hl 0 rfl) ?_
            refine va_get (D := D) (ci := 0) (v := .ref q5) (C := RX0) (T := TX0) (N := 8) hx hb hts ih_X0_nameThrough_X0 hown hK.1 hP 0 rfl rfl 4 (by decide) (hts (.fieldLink RX0 24 "ParishNames$Chronicle" "owners" "[I") (by decide +kernel)) (fun _ h9 => h9) rfl dX0_nameThrough_51 ?_
            refine lv_iload_n hx hb dX0_nameThrough_54 rfl (lv_at hl 1 rfl) ?_
            refine pn_iald hx hb hK.1 hP 5 0 rfl rfl (i := i) (by omega) (Nat.le_of_ble_eq_true rfl) dX0_nameThrough_55 ?_
            refine lv_iload_n hx hb dX0_nameThrough_56 rfl (lv_at hl 2 rfl) ?_
            refine lv_icmp_ne (tgt := 69) hx hb dX0_nameThrough_57 (by decide) (fun b57 => ?_) (fun b57 => ?_)
            · refine lv_lload_n hx hb dX0_nameThrough_69 rfl (lv_at hl 3 rfl) ?_
              exact W.lret hx hb hr (fun t ht hW => ⟨⟨_, (), rfl, (by unfold pn_namT; (repeat' split) <;> first | rfl | contradiction | omega | grind), trivial⟩, hS.F ht⟩) hS.2.2 dX0_nameThrough_70 hlocks
            · refine lv_aload_n hx hb dX0_nameThrough_60 rfl (lv_at hl 0 rfl) ?_
              refine va_get (D := D) (ci := 0) (v := .ref q6) (C := RX0) (T := TX0) (N := 8) hx hb hts ih_X0_nameThrough_X0 hown hK.1 hP 0 rfl rfl 5 (by decide) (hts (.fieldLink RX0 27 "ParishNames$Chronicle" "names" "[J") (by decide +kernel)) (fun _ h9 => h9) rfl dX0_nameThrough_61 ?_
              refine lv_iload_n hx hb dX0_nameThrough_64 rfl (lv_at hl 1 rfl) ?_
              refine pn_lald hx hb hK.1 hP 6 1 rfl rfl (i := i) (by omega) (Nat.le_of_ble_eq_true rfl) dX0_nameThrough_65 ?_
              refine lv_goto (tgt := 70) hx hb dX0_nameThrough_66 (by decide) ?_
              exact W.lret hx hb hr (fun t ht hW => ⟨⟨_, (), rfl, (by unfold pn_namT; (repeat' split) <;> first | rfl | contradiction | omega | grind), trivial⟩, hS.F ht⟩) hS.2.2 dX0_nameThrough_70 hlocks
        · refine lv_aload_n hx hb dX0_nameThrough_33 rfl (lv_at hl 0 rfl) ?_
          refine va_get (D := D) (ci := 0) (v := .ref q6) (C := RX0) (T := TX0) (N := 8) hx hb hts ih_X0_nameThrough_X0 hown hK.1 hP 0 rfl rfl 5 (by decide) (hts (.fieldLink RX0 27 "ParishNames$Chronicle" "names" "[J") (by decide +kernel)) (fun _ h9 => h9) rfl dX0_nameThrough_34 ?_
          refine lv_iload_n hx hb dX0_nameThrough_37 rfl (lv_at hl 1 rfl) ?_
          refine pn_lald hx hb hK.1 hP 6 1 rfl rfl (i := i) (by omega) (Nat.le_of_ble_eq_true rfl) dX0_nameThrough_38 ?_
          exact W.lret hx hb hr (fun t ht hW => ⟨⟨_, (), rfl, (by unfold pn_namT; (repeat' split) <;> first | rfl | contradiction | omega | grind), trivial⟩, hS.F ht⟩) hS.2.2 dX0_nameThrough_39 hlocks
    · have b9 : ¬ i < n := fun h => (show ¬ nI i < nI n from b9) ((pn_lt (by omega) (by omega)).mpr h)
      omega

theorem ih_X0_sitesBehind_X0 : ∀ w ∈ wsX00, w ∈ wsX0_sitesBehind := by decide +kernel
set_option maxHeartbeats 4000000 in
set_option maxRecDepth 100000 in
theorem c_X0_sitesBehind (l : Launch) (D : va_G) (cI cL cZ cO : ClassId) (h0 q1 q2 q3 q4 q5 q6 : Nat) (K Y P S O : Nat → Int32) (N : Nat → Int64) (n F : Nat) (pa : Int32) (g : Nat) (hn : n ≤ 30) (hg : g ≤ n) : Met l yX0_sitesBehind wsX0_sitesBehind ({ frames := 1, cells := 0, slots := 0, locals := 23 }) (va_Pc [.ref h0, .int pa, .int (nI g)] (pn_Pr D cI cL cZ cO [(h0, .inr (0, [.ref q1, .ref q2, .ref q3, .ref q4, .ref q5, .ref q6, .int (nI n), .int (nI F)])), (q1, .inl (cI, 30, .inl K)), (q2, .inl (cI, 30, .inl Y)), (q3, .inl (cI, 30, .inl P)), (q4, .inl (cI, 30, .inl S)), (q5, .inl (cI, 30, .inl O)), (q6, .inl (cL, 30, .inr (.inl N)))])) (va_Qi (fun r (_ : Unit) => r = (pn_sit P S O pa g)) (fun _ _ => True) pn_No) 0 0 pn_No := by
  refine pn_mk (by decide) rfl (Nat.le_of_ble_eq_true rfl) ?_
  intro p e s m below meth c ls hx hb hr hml hown hts hlocks hK hP hl
  have hown : s.vm.findClass RX0 = some m.cls := hown
  have hS : va_S pn_No s.heap s.heap [] := va_S.rf
  have hl : lv_has ls 5 [(0, .ref h0), (1, .int pa), (2, .int (nI g))] := hl
  refine lv_iload_n hx hb dX0_sitesBehind_0 rfl (lv_at hl 1 rfl) ?_
  refine pn_roi (w := [(h0, .inr (0, [.ref q1, .ref q2, .ref q3, .ref q4, .ref q5, .ref q6, .int (nI n), .int (nI F)])), (q1, .inl (cI, 30, .inl K)), (q2, .inl (cI, 30, .inl Y)), (q3, .inl (cI, 30, .inl P)), (q4, .inl (cI, 30, .inl S)), (q5, .inl (cI, 30, .inl O)), (q6, .inl (cL, 30, .inr (.inl N)))]) hP hS (va_runS (As := [.int pa]) (rest := []) ⟨hx, hb, hml, hown, hts⟩ (c_X0_sitesAtFirst l D cI cL cZ cO pa) (va_cwS 1 hts gX0_sitesBehind_X0_sitesAtFirst rfl rfl rfl (by decide +kernel) ⟨Nat.le_of_ble_eq_true rfl, Nat.le_of_ble_eq_true rfl⟩) (pn_ps (WS := []) (fun k q h => by simp at h) hK) rfl rfl hl.1 rfl (lv_room (Nat.le_of_ble_eq_true rfl)) dX0_sitesBehind_1 ⟨Nat.le_of_ble_eq_true rfl, Nat.le_of_ble_eq_true rfl⟩) (fun H locs hP hS => ?_)
  refine lv_istore_n (lv' := [(3, .int (pn_sit0 pa)), (0, .ref h0), (1, .int pa), (2, .int (nI g))]) hx hb dX0_sitesBehind_4 rfl hl (by decide) rfl (fun ls hl => ?_)
  refine lv_iconst (v := (nI 0)) hx hb dX0_sitesBehind_5 (by decide) ?_
  refine lv_istore (lv' := [(4, .int (nI 0)), (3, .int (pn_sit0 pa)), (0, .ref h0), (1, .int pa), (2, .int (nI g))]) hx hb dX0_sitesBehind_6 hl (by decide) rfl (fun ls hl => ?_)
  have lp8_1 : ∀ (fu : Nat) (k : Nat) (hd : Int32), g - k < fu → (k ≤ g) → (hd = pn_sit P S O pa k) → ∀ (H : Heap) (locs : List Loc) (ls : Array Slot), va_P D vwCl [(h0, .inr (0, [.ref q1, .ref q2, .ref q3, .ref q4, .ref q5, .ref q6, .int (nI n), .int (nI F)])), (q1, .inl (cI, 30, .inl K)), (q2, .inl (cI, 30, .inl Y)), (q3, .inl (cI, 30, .inl P)), (q4, .inl (cI, 30, .inl S)), (q5, .inl (cI, 30, .inl O)), (q6, .inl (cL, 30, .inr (.inl N)))] H → va_S pn_No s.heap H locs → lv_has ls 5 [(0, .ref h0), (1, .int pa), (2, .int (nI g)), (3, .int hd), (4, .int (nI k))] → W p l e ({ frames := 1, cells := 0, slots := 0, locals := 23 }) s m (List.toArray [.ref h0, .int pa, .int (nI g)]) below meth c H locs 0 0 (MQ below (va_Qi (fun r (_ : Unit) => r = (pn_sit P S O pa g)) (fun _ _ => True) pn_No) (List.toArray [.ref h0, .int pa, .int (nI g)]) s 0 0 pn_No) (F0 m 8 ls []) := by
    intro fu
    induction fu with
    | zero => intro k hd hfu; exact absurd hfu (Nat.not_lt_zero _)
    | succ fu ih8_1 =>
      intro k hd hfu hk e1 H locs ls hP hS hl
      refine lv_iload hx hb dX0_sitesBehind_8 (lv_at hl 4 rfl) ?_
      refine lv_iload_n hx hb dX0_sitesBehind_10 rfl (lv_at hl 2 rfl) ?_
      refine lv_icmp_ge (tgt := 38) hx hb dX0_sitesBehind_11 (by decide) (fun b11 => ?_) (fun b11 => ?_)
      · have b11 : g ≤ k := (pn_le (by omega) (by omega)).mp (show nI g ≤ nI k from b11)
        refine lv_iload_n hx hb dX0_sitesBehind_38 rfl (lv_at hl 3 rfl) ?_
        exact W.iret hx hb hr (fun t ht hW => ⟨⟨_, (), rfl, (by rw [e1, show k = g by omega]), trivial⟩, hS.F ht⟩) hS.2.2 dX0_sitesBehind_39 hlocks
      · have b11 : ¬ g ≤ k := fun h => (show ¬ nI g ≤ nI k from b11) ((pn_le (by omega) (by omega)).mpr h)
        refine lv_iload hx hb dX0_sitesBehind_14 (lv_at hl 4 rfl) ?_
        refine lv_aload_n hx hb dX0_sitesBehind_16 rfl (lv_at hl 0 rfl) ?_
        refine va_get (D := D) (ci := 0) (v := .int (nI n)) (C := RX0) (T := TX0) (N := 8) hx hb hts ih_X0_sitesBehind_X0 hown hK.1 hP 0 rfl rfl 6 (by decide) (hts (.fieldLink RX0 31 "ParishNames$Chronicle" "told" "I") (by decide +kernel)) (fun _ h9 => h9) rfl dX0_sitesBehind_17 ?_
        refine lv_icmp_ge (tgt := 38) hx hb dX0_sitesBehind_20 (by decide) (fun b20 => ?_) (fun b20 => ?_)
        · have b20 : n ≤ k := (pn_le (by omega) (by omega)).mp (show nI n ≤ nI k from b20)
          omega
        · have b20 : ¬ n ≤ k := fun h => (show ¬ nI n ≤ nI k from b20) ((pn_le (by omega) (by omega)).mpr h)
          refine lv_aload_n hx hb dX0_sitesBehind_23 rfl (lv_at hl 0 rfl) ?_
          refine lv_iload hx hb dX0_sitesBehind_24 (lv_at hl 4 rfl) ?_
          refine lv_iload_n hx hb dX0_sitesBehind_26 rfl (lv_at hl 1 rfl) ?_
          refine lv_iload_n hx hb dX0_sitesBehind_27 rfl (lv_at hl 3 rfl) ?_
          refine pn_roi (w := [(h0, .inr (0, [.ref q1, .ref q2, .ref q3, .ref q4, .ref q5, .ref q6, .int (nI n), .int (nI F)])), (q1, .inl (cI, 30, .inl K)), (q2, .inl (cI, 30, .inl Y)), (q3, .inl (cI, 30, .inl P)), (q4, .inl (cI, 30, .inl S)), (q5, .inl (cI, 30, .inl O)), (q6, .inl (cL, 30, .inr (.inl N)))]) hP hS (va_runV (As := [.int (nI k), .int pa, .int hd]) (rest := []) ⟨hx, hb, hml, hown, hts⟩ (c_X0_sitesThrough l D cI cL cZ cO h0 q1 q2 q3 q4 q5 q6 K Y P S O N n F k pa hd (by first | omega | assumption | grind | simp_all) (by first | omega | assumption | grind | simp_all)) (cwV 3 hts gX0_sitesBehind_X0_sitesThrough rfl rfl rfl (by decide +kernel) ⟨Nat.le_of_ble_eq_true rfl, Nat.le_of_ble_eq_true rfl⟩) (pn_pv hP hK (q0 := 0) rfl rfl) rfl rfl hl.1 rfl (lv_room (Nat.le_of_ble_eq_true rfl)) dX0_sitesBehind_28 ⟨Nat.le_of_ble_eq_true rfl, Nat.le_of_ble_eq_true rfl⟩) (fun H locs hP hS => ?_)
          refine lv_istore_n (lv' := [(3, .int (pn_sitT P S O k pa hd)), (0, .ref h0), (1, .int pa), (2, .int (nI g)), (4, .int (nI k))]) hx hb dX0_sitesBehind_31 rfl hl (by decide) rfl (fun ls hl => ?_)
          refine lv_iinc (v := (nI (k + 1))) (lv' := [(4, .int (nI (k + 1))), (3, .int (pn_sitT P S O k pa hd)), (0, .ref h0), (1, .int pa), (2, .int (nI g))]) hx hb dX0_sitesBehind_32 hl (k := 4) rfl (nI_add k 1) (by decide) rfl (fun ls hl => ?_)
          refine lv_goto (tgt := 8) hx hb dX0_sitesBehind_35 (by decide) ?_
          exact ih8_1 (k + 1) (pn_sitT P S O k pa hd) (by omega) (by first | omega | assumption | grind | simp_all) (by rw [e1]; rfl) _ _ _ hP hS (lv_sub hl [2, 3, 4, 1, 0] rfl)
  exact lp8_1 ((g - 0) + 1) 0 (pn_sit0 pa) (Nat.lt_succ_self _) (by first | omega | assumption | grind | simp_all) rfl _ _ _ hP hS (lv_sub hl [2, 3, 4, 1, 0] rfl)

theorem ih_X0_nameBehind_X0 : ∀ w ∈ wsX00, w ∈ wsX0_nameBehind := by decide +kernel
set_option maxHeartbeats 4000000 in
set_option maxRecDepth 100000 in
theorem c_X0_nameBehind (l : Launch) (D : va_G) (cI cL cZ cO : ClassId) (h0 q1 q2 q3 q4 q5 q6 : Nat) (K Y P S O : Nat → Int32) (N : Nat → Int64) (n F : Nat) (pa : Int32) (g : Nat) (hn : n ≤ 30) (hg : g ≤ n) : Met l yX0_nameBehind wsX0_nameBehind ({ frames := 2, cells := 0, slots := 0, locals := 43 }) (va_Pc [.ref h0, .int pa, .int (nI g)] (pn_Pr D cI cL cZ cO [(h0, .inr (0, [.ref q1, .ref q2, .ref q3, .ref q4, .ref q5, .ref q6, .int (nI n), .int (nI F)])), (q1, .inl (cI, 30, .inl K)), (q2, .inl (cI, 30, .inl Y)), (q3, .inl (cI, 30, .inl P)), (q4, .inl (cI, 30, .inl S)), (q5, .inl (cI, 30, .inl O)), (q6, .inl (cL, 30, .inr (.inl N)))])) (va_Ql (fun r (_ : Unit) => r = (pn_nam K P O N pa g)) (fun _ _ => True) pn_No) 0 0 pn_No := by
  refine pn_mk (by decide) rfl (Nat.le_of_ble_eq_true rfl) ?_
  intro p e s m below meth c ls hx hb hr hml hown hts hlocks hK hP hl
  have hown : s.vm.findClass RX0 = some m.cls := hown
  have hS : va_S pn_No s.heap s.heap [] := va_S.rf
  have hl : lv_has ls 6 [(0, .ref h0), (1, .int pa), (2, .int (nI g))] := hl
  refine lv_iload_n hx hb dX0_nameBehind_0 rfl (lv_at hl 1 rfl) ?_
  refine pn_rol (w := [(h0, .inr (0, [.ref q1, .ref q2, .ref q3, .ref q4, .ref q5, .ref q6, .int (nI n), .int (nI F)])), (q1, .inl (cI, 30, .inl K)), (q2, .inl (cI, 30, .inl Y)), (q3, .inl (cI, 30, .inl P)), (q4, .inl (cI, 30, .inl S)), (q5, .inl (cI, 30, .inl O)), (q6, .inl (cL, 30, .inr (.inl N)))]) hP hS (va_runS (As := [.int pa]) (rest := []) ⟨hx, hb, hml, hown, hts⟩ (c_X0_nameAtFirst l D cI cL cZ cO pa) (va_cwS 1 hts gX0_nameBehind_X0_nameAtFirst rfl rfl rfl (by decide +kernel) ⟨Nat.le_of_ble_eq_true rfl, Nat.le_of_ble_eq_true rfl⟩) (pn_ps (WS := []) (fun k q h => by simp at h) hK) rfl rfl hl.1 rfl (lv_room (Nat.le_of_ble_eq_true rfl)) dX0_nameBehind_1 ⟨Nat.le_of_ble_eq_true rfl, Nat.le_of_ble_eq_true rfl⟩) (fun H locs hP hS => ?_)
  refine lv_lstore_n (lv' := [(3, .long (pn_nam0 pa)), (0, .ref h0), (1, .int pa), (2, .int (nI g))]) hx hb dX0_nameBehind_4 rfl hl (by decide) rfl (fun ls hl => ?_)
  refine lv_iconst (v := (nI 0)) hx hb dX0_nameBehind_5 (by decide) ?_
  refine lv_istore (lv' := [(5, .int (nI 0)), (3, .long (pn_nam0 pa)), (0, .ref h0), (1, .int pa), (2, .int (nI g))]) hx hb dX0_nameBehind_6 hl (by decide) rfl (fun ls hl => ?_)
  have lp8_1 : ∀ (fu : Nat) (k : Nat) (hd : Int64), g - k < fu → (k ≤ g) → (hd = pn_nam K P O N pa k) → ∀ (H : Heap) (locs : List Loc) (ls : Array Slot), va_P D vwCl [(h0, .inr (0, [.ref q1, .ref q2, .ref q3, .ref q4, .ref q5, .ref q6, .int (nI n), .int (nI F)])), (q1, .inl (cI, 30, .inl K)), (q2, .inl (cI, 30, .inl Y)), (q3, .inl (cI, 30, .inl P)), (q4, .inl (cI, 30, .inl S)), (q5, .inl (cI, 30, .inl O)), (q6, .inl (cL, 30, .inr (.inl N)))] H → va_S pn_No s.heap H locs → lv_has ls 6 [(0, .ref h0), (1, .int pa), (2, .int (nI g)), (3, .long hd), (5, .int (nI k))] → W p l e ({ frames := 2, cells := 0, slots := 0, locals := 43 }) s m (List.toArray [.ref h0, .int pa, .int (nI g)]) below meth c H locs 0 0 (MQ below (va_Ql (fun r (_ : Unit) => r = (pn_nam K P O N pa g)) (fun _ _ => True) pn_No) (List.toArray [.ref h0, .int pa, .int (nI g)]) s 0 0 pn_No) (F0 m 8 ls []) := by
    intro fu
    induction fu with
    | zero => intro k hd hfu; exact absurd hfu (Nat.not_lt_zero _)
    | succ fu ih8_1 =>
      intro k hd hfu hk e1 H locs ls hP hS hl
      refine lv_iload hx hb dX0_nameBehind_8 (lv_at hl 4 rfl) ?_
      refine lv_iload_n hx hb dX0_nameBehind_10 rfl (lv_at hl 2 rfl) ?_
      refine lv_icmp_ge (tgt := 38) hx hb dX0_nameBehind_11 (by decide) (fun b11 => ?_) (fun b11 => ?_)
      · have b11 : g ≤ k := (pn_le (by omega) (by omega)).mp (show nI g ≤ nI k from b11)
        refine lv_lload_n hx hb dX0_nameBehind_38 rfl (lv_at hl 3 rfl) ?_
        exact W.lret hx hb hr (fun t ht hW => ⟨⟨_, (), rfl, (by rw [e1, show k = g by omega]), trivial⟩, hS.F ht⟩) hS.2.2 dX0_nameBehind_39 hlocks
      · have b11 : ¬ g ≤ k := fun h => (show ¬ nI g ≤ nI k from b11) ((pn_le (by omega) (by omega)).mpr h)
        refine lv_iload hx hb dX0_nameBehind_14 (lv_at hl 4 rfl) ?_
        refine lv_aload_n hx hb dX0_nameBehind_16 rfl (lv_at hl 0 rfl) ?_
        refine va_get (D := D) (ci := 0) (v := .int (nI n)) (C := RX0) (T := TX0) (N := 8) hx hb hts ih_X0_nameBehind_X0 hown hK.1 hP 0 rfl rfl 6 (by decide) (hts (.fieldLink RX0 31 "ParishNames$Chronicle" "told" "I") (by decide +kernel)) (fun _ h9 => h9) rfl dX0_nameBehind_17 ?_
        refine lv_icmp_ge (tgt := 38) hx hb dX0_nameBehind_20 (by decide) (fun b20 => ?_) (fun b20 => ?_)
        · have b20 : n ≤ k := (pn_le (by omega) (by omega)).mp (show nI n ≤ nI k from b20)
          omega
        · have b20 : ¬ n ≤ k := fun h => (show ¬ nI n ≤ nI k from b20) ((pn_le (by omega) (by omega)).mpr h)
          refine lv_aload_n hx hb dX0_nameBehind_23 rfl (lv_at hl 0 rfl) ?_
          refine lv_iload hx hb dX0_nameBehind_24 (lv_at hl 4 rfl) ?_
          refine lv_iload_n hx hb dX0_nameBehind_26 rfl (lv_at hl 1 rfl) ?_
          refine lv_lload_n hx hb dX0_nameBehind_27 rfl (lv_at hl 3 rfl) ?_
          refine pn_rol (w := [(h0, .inr (0, [.ref q1, .ref q2, .ref q3, .ref q4, .ref q5, .ref q6, .int (nI n), .int (nI F)])), (q1, .inl (cI, 30, .inl K)), (q2, .inl (cI, 30, .inl Y)), (q3, .inl (cI, 30, .inl P)), (q4, .inl (cI, 30, .inl S)), (q5, .inl (cI, 30, .inl O)), (q6, .inl (cL, 30, .inr (.inl N)))]) hP hS (va_runV (As := [.int (nI k), .int pa, .long hd]) (rest := []) ⟨hx, hb, hml, hown, hts⟩ (c_X0_nameThrough l D cI cL cZ cO h0 q1 q2 q3 q4 q5 q6 K Y P S O N n F k pa hd (by first | omega | assumption | grind | simp_all) (by first | omega | assumption | grind | simp_all)) (cwV 3 hts gX0_nameBehind_X0_nameThrough rfl rfl rfl (by decide +kernel) ⟨Nat.le_of_ble_eq_true rfl, Nat.le_of_ble_eq_true rfl⟩) (pn_pv hP hK (q0 := 0) rfl rfl) rfl rfl hl.1 rfl (lv_room (Nat.le_of_ble_eq_true rfl)) dX0_nameBehind_28 ⟨Nat.le_of_ble_eq_true rfl, Nat.le_of_ble_eq_true rfl⟩) (fun H locs hP hS => ?_)
          refine lv_lstore_n (lv' := [(3, .long (pn_namT K P O N k pa hd)), (0, .ref h0), (1, .int pa), (2, .int (nI g)), (5, .int (nI k))]) hx hb dX0_nameBehind_31 rfl hl (by decide) rfl (fun ls hl => ?_)
          refine lv_iinc (v := (nI (k + 1))) (lv' := [(5, .int (nI (k + 1))), (3, .long (pn_namT K P O N k pa hd)), (0, .ref h0), (1, .int pa), (2, .int (nI g))]) hx hb dX0_nameBehind_32 hl (k := 4) rfl (nI_add k 1) (by decide) rfl (fun ls hl => ?_)
          refine lv_goto (tgt := 8) hx hb dX0_nameBehind_35 (by decide) ?_
          exact ih8_1 (k + 1) (pn_namT K P O N k pa hd) (by omega) (by first | omega | assumption | grind | simp_all) (by rw [e1]; rfl) _ _ _ hP hS (lv_sub hl [2, 3, 4, 1, 0] rfl)
  exact lp8_1 ((g - 0) + 1) 0 (pn_nam0 pa) (Nat.lt_succ_self _) (by first | omega | assumption | grind | simp_all) rfl _ _ _ hP hS (lv_sub hl [2, 3, 4, 1, 0] rfl)

set_option maxHeartbeats 4000000 in
set_option maxRecDepth 100000 in
theorem c_X2_has (l : Launch) (D : va_G) (cI cL cZ cO : ClassId)  (x : Int32) (k : Nat) : Met l yX2_has wsX2_has ({ frames := 0, cells := 0, slots := 0, locals := 0 }) (va_Pc [.int x, .int (nI k)] (pn_Pr D cI cL cZ cO [])) (va_Qi (fun r (_ : Unit) => r = (pn_b (¬ pn_bit x k = 0))) (fun _ _ => True) pn_No) 0 0 pn_No := by
  refine pn_mk (by decide) rfl (Nat.le_of_ble_eq_true rfl) ?_
  intro p e s m below meth c ls hx hb hr hml hown hts hlocks hK hP hl
  have hown : s.vm.findClass RX2 = some m.cls := hown
  have hS : va_S pn_No s.heap s.heap [] := va_S.rf
  have hl : lv_has ls 2 [(0, .int x), (1, .int (nI k))] := hl
  refine lv_iload_n hx hb dX2_has_0 rfl (lv_at hl 0 rfl) ?_
  refine lv_iload_n hx hb dX2_has_1 rfl (lv_at hl 1 rfl) ?_
  refine lv_iushr hx hb dX2_has_2 rfl ?_
  refine lv_iconst (v := (nI 1)) hx hb dX2_has_3 (by decide) ?_
  refine lv_iand hx hb dX2_has_4 ?_
  refine lv_if_eq (tgt := 12) hx hb dX2_has_5 (by decide) (fun b5 => ?_) (fun b5 => ?_)
  · refine lv_iconst (v := (nI 0)) hx hb dX2_has_12 (by decide) ?_
    exact W.zret hx hb hr (by decide) (fun t ht hW => ⟨⟨_, (), rfl, (by first | exact pn_bt (by assumption) | exact pn_bf (by simpa using (by assumption)) | exact pn_bf (fun h => h (by assumption))), trivial⟩, hS.F ht⟩) hS.2.2 dX2_has_13 hlocks
  · refine lv_iconst (v := (nI 1)) hx hb dX2_has_8 (by decide) ?_
    refine lv_goto (tgt := 13) hx hb dX2_has_9 (by decide) ?_
    exact W.zret hx hb hr (by decide) (fun t ht hW => ⟨⟨_, (), rfl, (by first | exact pn_bt (by assumption) | exact pn_bf (by simpa using (by assumption)) | exact pn_bf (fun h => h (by assumption))), trivial⟩, hS.F ht⟩) hS.2.2 dX2_has_13 hlocks

theorem ih_X0_ownerBehind_X0 : ∀ w ∈ wsX00, w ∈ wsX0_ownerBehind := by decide +kernel
set_option maxHeartbeats 4000000 in
set_option maxRecDepth 100000 in
theorem c_X0_ownerBehind (l : Launch) (D : va_G) (cI cL cZ cO : ClassId) (h0 q1 q2 q3 q4 q5 q6 : Nat) (K Y P S O : Nat → Int32) (N : Nat → Int64) (n F : Nat) (t : Nat) (g : Nat) (hn : n ≤ 30) (hg : g ≤ n) : Met l yX0_ownerBehind wsX0_ownerBehind ({ frames := 1, cells := 0, slots := 0, locals := 21 }) (va_Pc [.ref h0, .int (nI t), .int (nI g)] (pn_Pr D cI cL cZ cO [(h0, .inr (0, [.ref q1, .ref q2, .ref q3, .ref q4, .ref q5, .ref q6, .int (nI n), .int (nI F)])), (q1, .inl (cI, 30, .inl K)), (q2, .inl (cI, 30, .inl Y)), (q3, .inl (cI, 30, .inl P)), (q4, .inl (cI, 30, .inl S)), (q5, .inl (cI, 30, .inl O)), (q6, .inl (cL, 30, .inr (.inl N)))])) (va_Qi (fun r (_ : Unit) => r = (pn_own S O t g)) (fun _ _ => True) pn_No) 0 0 pn_No := by
  refine pn_mk (by decide) rfl (Nat.le_of_ble_eq_true rfl) ?_
  intro p e s m below meth c ls hx hb hr hml hown hts hlocks hK hP hl
  have hown : s.vm.findClass RX0 = some m.cls := hown
  have hS : va_S pn_No s.heap s.heap [] := va_S.rf
  have hl : lv_has ls 5 [(0, .ref h0), (1, .int (nI t)), (2, .int (nI g))] := hl
  refine lv_iconst (v := (nI 0)) hx hb dX0_ownerBehind_0 (by decide) ?_
  refine lv_istore_n (lv' := [(3, .int (nI 0)), (0, .ref h0), (1, .int (nI t)), (2, .int (nI g))]) hx hb dX0_ownerBehind_1 rfl hl (by decide) rfl (fun ls hl => ?_)
  refine lv_iconst (v := (nI 0)) hx hb dX0_ownerBehind_2 (by decide) ?_
  refine lv_istore (lv' := [(4, .int (nI 0)), (3, .int (nI 0)), (0, .ref h0), (1, .int (nI t)), (2, .int (nI g))]) hx hb dX0_ownerBehind_3 hl (by decide) rfl (fun ls hl => ?_)
  have lp5_1 : ∀ (fu : Nat) (k : Nat) (hd : Int32), g - k < fu → (k ≤ g) → (hd = pn_own S O t k) → ∀ (H : Heap) (locs : List Loc) (ls : Array Slot), va_P D vwCl [(h0, .inr (0, [.ref q1, .ref q2, .ref q3, .ref q4, .ref q5, .ref q6, .int (nI n), .int (nI F)])), (q1, .inl (cI, 30, .inl K)), (q2, .inl (cI, 30, .inl Y)), (q3, .inl (cI, 30, .inl P)), (q4, .inl (cI, 30, .inl S)), (q5, .inl (cI, 30, .inl O)), (q6, .inl (cL, 30, .inr (.inl N)))] H → va_S pn_No s.heap H locs → lv_has ls 5 [(0, .ref h0), (1, .int (nI t)), (2, .int (nI g)), (3, .int hd), (4, .int (nI k))] → W p l e ({ frames := 1, cells := 0, slots := 0, locals := 21 }) s m (List.toArray [.ref h0, .int (nI t), .int (nI g)]) below meth c H locs 0 0 (MQ below (va_Qi (fun r (_ : Unit) => r = (pn_own S O t g)) (fun _ _ => True) pn_No) (List.toArray [.ref h0, .int (nI t), .int (nI g)]) s 0 0 pn_No) (F0 m 5 ls []) := by
    intro fu
    induction fu with
    | zero => intro k hd hfu; exact absurd hfu (Nat.not_lt_zero _)
    | succ fu ih5_1 =>
      intro k hd hfu hk e1 H locs ls hP hS hl
      refine lv_iload hx hb dX0_ownerBehind_5 (lv_at hl 4 rfl) ?_
      refine lv_iload_n hx hb dX0_ownerBehind_7 rfl (lv_at hl 2 rfl) ?_
      refine lv_icmp_ge (tgt := 48) hx hb dX0_ownerBehind_8 (by decide) (fun b8 => ?_) (fun b8 => ?_)
      · have b8 : g ≤ k := (pn_le (by omega) (by omega)).mp (show nI g ≤ nI k from b8)
        refine lv_iload_n hx hb dX0_ownerBehind_48 rfl (lv_at hl 3 rfl) ?_
        exact W.iret hx hb hr (fun t ht hW => ⟨⟨_, (), rfl, (by rw [e1, show k = g by omega]), trivial⟩, hS.F ht⟩) hS.2.2 dX0_ownerBehind_49 hlocks
      · have b8 : ¬ g ≤ k := fun h => (show ¬ nI g ≤ nI k from b8) ((pn_le (by omega) (by omega)).mpr h)
        refine lv_iload hx hb dX0_ownerBehind_11 (lv_at hl 4 rfl) ?_
        refine lv_aload_n hx hb dX0_ownerBehind_13 rfl (lv_at hl 0 rfl) ?_
        refine va_get (D := D) (ci := 0) (v := .int (nI n)) (C := RX0) (T := TX0) (N := 8) hx hb hts ih_X0_ownerBehind_X0 hown hK.1 hP 0 rfl rfl 6 (by decide) (hts (.fieldLink RX0 31 "ParishNames$Chronicle" "told" "I") (by decide +kernel)) (fun _ h9 => h9) rfl dX0_ownerBehind_14 ?_
        refine lv_icmp_ge (tgt := 48) hx hb dX0_ownerBehind_17 (by decide) (fun b17 => ?_) (fun b17 => ?_)
        · have b17 : n ≤ k := (pn_le (by omega) (by omega)).mp (show nI n ≤ nI k from b17)
          omega
        · have b17 : ¬ n ≤ k := fun h => (show ¬ nI n ≤ nI k from b17) ((pn_le (by omega) (by omega)).mpr h)
          refine lv_aload_n hx hb dX0_ownerBehind_20 rfl (lv_at hl 0 rfl) ?_
          refine va_get (D := D) (ci := 0) (v := .ref q4) (C := RX0) (T := TX0) (N := 8) hx hb hts ih_X0_ownerBehind_X0 hown hK.1 hP 0 rfl rfl 3 (by decide) (hts (.fieldLink RX0 21 "ParishNames$Chronicle" "sets" "[I") (by decide +kernel)) (fun _ h9 => h9) rfl dX0_ownerBehind_21 ?_
          refine lv_iload hx hb dX0_ownerBehind_24 (lv_at hl 4 rfl) ?_
          refine pn_iald hx hb hK.1 hP 4 0 rfl rfl (i := k) (by omega) (Nat.le_of_ble_eq_true rfl) dX0_ownerBehind_26 ?_
          refine lv_iload_n hx hb dX0_ownerBehind_27 rfl (lv_at hl 1 rfl) ?_
          refine pn_roi (w := [(h0, .inr (0, [.ref q1, .ref q2, .ref q3, .ref q4, .ref q5, .ref q6, .int (nI n), .int (nI F)])), (q1, .inl (cI, 30, .inl K)), (q2, .inl (cI, 30, .inl Y)), (q3, .inl (cI, 30, .inl P)), (q4, .inl (cI, 30, .inl S)), (q5, .inl (cI, 30, .inl O)), (q6, .inl (cL, 30, .inr (.inl N)))]) hP hS (va_runSN (As := [.int (S k), .int (nI t)]) (rest := []) ⟨hx, hb, hml, hown, hts⟩ (c_X2_has l D cI cL cZ cO (S k) t) ⟨va_cnB 2 hts gX0_ownerBehind_X2_has_n76 rfl rfl rfl hK.2 (hts (.initialized RX2) (by decide +kernel)) (by decide +kernel) ⟨Nat.le_of_ble_eq_true rfl, Nat.le_of_ble_eq_true rfl⟩, hts (.static yX2_has) (by decide +kernel), trivial⟩ (pn_ps (WS := []) (fun k q h => by simp at h) hK) rfl rfl hl.1 rfl (lv_room (Nat.le_of_ble_eq_true rfl)) dX0_ownerBehind_28 ⟨Nat.le_of_ble_eq_true rfl, Nat.le_of_ble_eq_true rfl⟩) (fun H locs hP hS => ?_)
          refine lv_if_eq (tgt := 42) hx hb dX0_ownerBehind_31 (by decide) (fun b31 => ?_) (fun b31 => ?_)
          · have b31 : ¬ (¬ pn_bit (S k) t = 0) := pn_b0.mp b31
            refine lv_iinc (v := (nI (k + 1))) (lv' := [(4, .int (nI (k + 1))), (0, .ref h0), (1, .int (nI t)), (2, .int (nI g)), (3, .int hd)]) hx hb dX0_ownerBehind_42 hl (k := 4) rfl (nI_add k 1) (by decide) rfl (fun ls hl => ?_)
            refine lv_goto (tgt := 5) hx hb dX0_ownerBehind_45 (by decide) ?_
            exact ih5_1 (k + 1) hd (by omega) (by first | omega | assumption | grind | simp_all) (by rw [pn_own]; split <;> first | rfl | exact e1 | contradiction) _ _ _ hP hS (lv_sub hl [1, 2, 3, 4, 0] rfl)
          · have b31 : ¬ pn_bit (S k) t = 0 := pn_b1.mp b31
            refine lv_aload_n hx hb dX0_ownerBehind_34 rfl (lv_at hl 0 rfl) ?_
            refine va_get (D := D) (ci := 0) (v := .ref q5) (C := RX0) (T := TX0) (N := 8) hx hb hts ih_X0_ownerBehind_X0 hown hK.1 hP 0 rfl rfl 4 (by decide) (hts (.fieldLink RX0 24 "ParishNames$Chronicle" "owners" "[I") (by decide +kernel)) (fun _ h9 => h9) rfl dX0_ownerBehind_35 ?_
            refine lv_iload hx hb dX0_ownerBehind_38 (lv_at hl 4 rfl) ?_
            refine pn_iald hx hb hK.1 hP 5 0 rfl rfl (i := k) (by omega) (Nat.le_of_ble_eq_true rfl) dX0_ownerBehind_40 ?_
            refine lv_istore_n (lv' := [(3, .int (O k)), (0, .ref h0), (1, .int (nI t)), (2, .int (nI g)), (4, .int (nI k))]) hx hb dX0_ownerBehind_41 rfl hl (by decide) rfl (fun ls hl => ?_)
            refine lv_iinc (v := (nI (k + 1))) (lv' := [(4, .int (nI (k + 1))), (3, .int (O k)), (0, .ref h0), (1, .int (nI t)), (2, .int (nI g))]) hx hb dX0_ownerBehind_42 hl (k := 4) rfl (nI_add k 1) (by decide) rfl (fun ls hl => ?_)
            refine lv_goto (tgt := 5) hx hb dX0_ownerBehind_45 (by decide) ?_
            exact ih5_1 (k + 1) (O k) (by omega) (by first | omega | assumption | grind | simp_all) (by rw [pn_own]; split <;> first | rfl | exact e1 | contradiction) _ _ _ hP hS (lv_sub hl [2, 3, 4, 1, 0] rfl)
  exact lp5_1 ((g - 0) + 1) 0 (nI 0) (Nat.lt_succ_self _) (by first | omega | assumption | grind | simp_all) rfl _ _ _ hP hS (lv_sub hl [2, 3, 4, 1, 0] rfl)

theorem ih_X0_sitesNow_X0 : ∀ w ∈ wsX00, w ∈ wsX0_sitesNow := by decide +kernel
set_option maxHeartbeats 4000000 in
set_option maxRecDepth 100000 in
theorem c_X0_sitesNow (l : Launch) (D : va_G) (cI cL cZ cO : ClassId) (h0 q1 q2 q3 q4 q5 q6 : Nat) (K Y P S O : Nat → Int32) (N : Nat → Int64) (n F : Nat) (pa : Int32) (hn : n ≤ 30) : Met l yX0_sitesNow wsX0_sitesNow ({ frames := 2, cells := 0, slots := 0, locals := 47 }) (va_Pc [.ref h0, .int pa] (pn_Pr D cI cL cZ cO [(h0, .inr (0, [.ref q1, .ref q2, .ref q3, .ref q4, .ref q5, .ref q6, .int (nI n), .int (nI F)])), (q1, .inl (cI, 30, .inl K)), (q2, .inl (cI, 30, .inl Y)), (q3, .inl (cI, 30, .inl P)), (q4, .inl (cI, 30, .inl S)), (q5, .inl (cI, 30, .inl O)), (q6, .inl (cL, 30, .inr (.inl N)))])) (va_Qi (fun r (_ : Unit) => r = (pn_sit P S O pa n)) (fun _ _ => True) pn_No) 0 0 pn_No := by
  refine pn_mk (by decide) rfl (Nat.le_of_ble_eq_true rfl) ?_
  intro p e s m below meth c ls hx hb hr hml hown hts hlocks hK hP hl
  have hown : s.vm.findClass RX0 = some m.cls := hown
  have hS : va_S pn_No s.heap s.heap [] := va_S.rf
  have hl : lv_has ls 2 [(0, .ref h0), (1, .int pa)] := hl
  refine lv_aload_n hx hb dX0_sitesNow_0 rfl (lv_at hl 0 rfl) ?_
  refine lv_iload_n hx hb dX0_sitesNow_1 rfl (lv_at hl 1 rfl) ?_
  refine lv_aload_n hx hb dX0_sitesNow_2 rfl (lv_at hl 0 rfl) ?_
  refine va_get (D := D) (ci := 0) (v := .int (nI n)) (C := RX0) (T := TX0) (N := 8) hx hb hts ih_X0_sitesNow_X0 hown hK.1 hP 0 rfl rfl 6 (by decide) (hts (.fieldLink RX0 31 "ParishNames$Chronicle" "told" "I") (by decide +kernel)) (fun _ h9 => h9) rfl dX0_sitesNow_3 ?_
  refine pn_roi (w := [(h0, .inr (0, [.ref q1, .ref q2, .ref q3, .ref q4, .ref q5, .ref q6, .int (nI n), .int (nI F)])), (q1, .inl (cI, 30, .inl K)), (q2, .inl (cI, 30, .inl Y)), (q3, .inl (cI, 30, .inl P)), (q4, .inl (cI, 30, .inl S)), (q5, .inl (cI, 30, .inl O)), (q6, .inl (cL, 30, .inr (.inl N)))]) hP hS (va_runV (As := [.int pa, .int (nI n)]) (rest := []) ⟨hx, hb, hml, hown, hts⟩ (c_X0_sitesBehind l D cI cL cZ cO h0 q1 q2 q3 q4 q5 q6 K Y P S O N n F pa n (by first | omega | assumption | grind | simp_all) (by first | omega | assumption | grind | simp_all)) (cwV 2 hts gX0_sitesNow_X0_sitesBehind rfl rfl rfl (by decide +kernel) ⟨Nat.le_of_ble_eq_true rfl, Nat.le_of_ble_eq_true rfl⟩) (pn_pv hP hK (q0 := 0) rfl rfl) rfl rfl hl.1 rfl (lv_room (Nat.le_of_ble_eq_true rfl)) dX0_sitesNow_6 ⟨Nat.le_of_ble_eq_true rfl, Nat.le_of_ble_eq_true rfl⟩) (fun H locs hP hS => ?_)
  exact W.iret hx hb hr (fun t ht hW => ⟨⟨_, (), rfl, rfl, trivial⟩, hS.F ht⟩) hS.2.2 dX0_sitesNow_9 hlocks

set_option maxHeartbeats 4000000 in
set_option maxRecDepth 100000 in
theorem c_X0_nameIn (l : Launch) (D : va_G) (cI cL cZ cO : ClassId) (h0 q1 q2 q3 q4 q5 q6 : Nat) (K Y P S O : Nat → Int32) (N : Nat → Int64) (n F : Nat) (pa : Int32) (yr : Int32) (hn : n ≤ 30) : Met l yX0_nameIn wsX0_nameIn ({ frames := 3, cells := 0, slots := 0, locals := 68 }) (va_Pc [.ref h0, .int pa, .int yr] (pn_Pr D cI cL cZ cO [(h0, .inr (0, [.ref q1, .ref q2, .ref q3, .ref q4, .ref q5, .ref q6, .int (nI n), .int (nI F)])), (q1, .inl (cI, 30, .inl K)), (q2, .inl (cI, 30, .inl Y)), (q3, .inl (cI, 30, .inl P)), (q4, .inl (cI, 30, .inl S)), (q5, .inl (cI, 30, .inl O)), (q6, .inl (cL, 30, .inr (.inl N)))])) (va_Ql (fun r (_ : Unit) => r = (pn_nin K Y P S O N n pa yr)) (fun _ _ => True) pn_No) 0 0 pn_No := by
  refine pn_mk (by decide) rfl (Nat.le_of_ble_eq_true rfl) ?_
  intro p e s m below meth c ls hx hb hr hml hown hts hlocks hK hP hl
  have hown : s.vm.findClass RX0 = some m.cls := hown
  have hS : va_S pn_No s.heap s.heap [] := va_S.rf
  have hl : lv_has ls 4 [(0, .ref h0), (1, .int pa), (2, .int yr)] := hl
  have hst := pn_st_le Y yr n
  refine lv_aload_n hx hb dX0_nameIn_0 rfl (lv_at hl 0 rfl) ?_
  refine lv_iload_n hx hb dX0_nameIn_1 rfl (lv_at hl 2 rfl) ?_
  refine pn_roi (w := [(h0, .inr (0, [.ref q1, .ref q2, .ref q3, .ref q4, .ref q5, .ref q6, .int (nI n), .int (nI F)])), (q1, .inl (cI, 30, .inl K)), (q2, .inl (cI, 30, .inl Y)), (q3, .inl (cI, 30, .inl P)), (q4, .inl (cI, 30, .inl S)), (q5, .inl (cI, 30, .inl O)), (q6, .inl (cL, 30, .inr (.inl N)))]) hP hS (va_runV (As := [.int yr]) (rest := []) ⟨hx, hb, hml, hown, hts⟩ (c_X0_stageIn l D cI cL cZ cO h0 q1 q2 q3 q4 q5 q6 K Y P S O N n F yr (by first | omega | assumption | grind | simp_all)) (cwV 1 hts gX0_nameIn_X0_stageIn rfl rfl rfl (by decide +kernel) ⟨Nat.le_of_ble_eq_true rfl, Nat.le_of_ble_eq_true rfl⟩) (pn_pv hP hK (q0 := 0) rfl rfl) rfl rfl hl.1 rfl (lv_room (Nat.le_of_ble_eq_true rfl)) dX0_nameIn_2 ⟨Nat.le_of_ble_eq_true rfl, Nat.le_of_ble_eq_true rfl⟩) (fun H locs hP hS => ?_)
  refine lv_istore_n (lv' := [(3, .int (nI (pn_st Y yr n))), (0, .ref h0), (1, .int pa), (2, .int yr)]) hx hb dX0_nameIn_5 rfl hl (by decide) rfl (fun ls hl => ?_)
  refine lv_aload_n hx hb dX0_nameIn_6 rfl (lv_at hl 1 rfl) ?_
  refine lv_iload_n hx hb dX0_nameIn_7 rfl (lv_at hl 2 rfl) ?_
  refine lv_iload_n hx hb dX0_nameIn_8 rfl (lv_at hl 0 rfl) ?_
  refine pn_roi (w := [(h0, .inr (0, [.ref q1, .ref q2, .ref q3, .ref q4, .ref q5, .ref q6, .int (nI n), .int (nI F)])), (q1, .inl (cI, 30, .inl K)), (q2, .inl (cI, 30, .inl Y)), (q3, .inl (cI, 30, .inl P)), (q4, .inl (cI, 30, .inl S)), (q5, .inl (cI, 30, .inl O)), (q6, .inl (cL, 30, .inr (.inl N)))]) hP hS (va_runV (As := [.int pa, .int (nI (pn_st Y yr n))]) (rest := []) ⟨hx, hb, hml, hown, hts⟩ (c_X0_sitesBehind l D cI cL cZ cO h0 q1 q2 q3 q4 q5 q6 K Y P S O N n F pa (pn_st Y yr n) (by first | omega | assumption | grind | simp_all) (by first | omega | assumption | grind | simp_all)) (cwV 2 hts gX0_nameIn_X0_sitesBehind rfl rfl rfl (by decide +kernel) ⟨Nat.le_of_ble_eq_true rfl, Nat.le_of_ble_eq_true rfl⟩) (pn_pv hP hK (q0 := 0) rfl rfl) rfl rfl hl.1 rfl (lv_room (Nat.le_of_ble_eq_true rfl)) dX0_nameIn_9 ⟨Nat.le_of_ble_eq_true rfl, Nat.le_of_ble_eq_true rfl⟩) (fun H locs hP hS => ?_)
  refine lv_if_ne (tgt := 19) hx hb dX0_nameIn_12 (by decide) (fun b12 => ?_) (fun b12 => ?_)
  · refine lv_aload_n hx hb dX0_nameIn_19 rfl (lv_at hl 1 rfl) ?_
    refine lv_iload_n hx hb dX0_nameIn_20 rfl (lv_at hl 2 rfl) ?_
    refine lv_iload_n hx hb dX0_nameIn_21 rfl (lv_at hl 0 rfl) ?_
    refine pn_rol (w := [(h0, .inr (0, [.ref q1, .ref q2, .ref q3, .ref q4, .ref q5, .ref q6, .int (nI n), .int (nI F)])), (q1, .inl (cI, 30, .inl K)), (q2, .inl (cI, 30, .inl Y)), (q3, .inl (cI, 30, .inl P)), (q4, .inl (cI, 30, .inl S)), (q5, .inl (cI, 30, .inl O)), (q6, .inl (cL, 30, .inr (.inl N)))]) hP hS (va_runV (As := [.int pa, .int (nI (pn_st Y yr n))]) (rest := []) ⟨hx, hb, hml, hown, hts⟩ (c_X0_nameBehind l D cI cL cZ cO h0 q1 q2 q3 q4 q5 q6 K Y P S O N n F pa (pn_st Y yr n) (by first | omega | assumption | grind | simp_all) (by first | omega | assumption | grind | simp_all)) (cwV 2 hts gX0_nameIn_X0_nameBehind rfl rfl rfl (by decide +kernel) ⟨Nat.le_of_ble_eq_true rfl, Nat.le_of_ble_eq_true rfl⟩) (pn_pv hP hK (q0 := 0) rfl rfl) rfl rfl hl.1 rfl (lv_room (Nat.le_of_ble_eq_true rfl)) dX0_nameIn_22 ⟨Nat.le_of_ble_eq_true rfl, Nat.le_of_ble_eq_true rfl⟩) (fun H locs hP hS => ?_)
    exact W.lret hx hb hr (fun t ht hW => ⟨⟨_, (), rfl, (by unfold pn_nin; (repeat' split) <;> first | rfl | contradiction | omega | grind), trivial⟩, hS.F ht⟩) hS.2.2 dX0_nameIn_25 hlocks
  · refine lv_lconst (v := 0) hx hb dX0_nameIn_15 (by decide) ?_
    refine lv_goto (tgt := 25) hx hb dX0_nameIn_16 (by decide) ?_
    exact W.lret hx hb hr (fun t ht hW => ⟨⟨_, (), rfl, (by unfold pn_nin; (repeat' split) <;> first | rfl | contradiction | omega | grind), trivial⟩, hS.F ht⟩) hS.2.2 dX0_nameIn_25 hlocks

set_option maxHeartbeats 4000000 in
set_option maxRecDepth 100000 in
theorem c_X0_nameAt (l : Launch) (D : va_G) (cI cL cZ cO : ClassId) (h0 q1 q2 q3 q4 q5 q6 : Nat) (K Y P S O : Nat → Int32) (N : Nat → Int64) (n F : Nat) (t : Nat) (g : Nat) (hn : n ≤ 30) (hg : g ≤ n) : Met l yX0_nameAt wsX0_nameAt ({ frames := 3, cells := 0, slots := 0, locals := 68 }) (va_Pc [.ref h0, .int (nI t), .int (nI g)] (pn_Pr D cI cL cZ cO [(h0, .inr (0, [.ref q1, .ref q2, .ref q3, .ref q4, .ref q5, .ref q6, .int (nI n), .int (nI F)])), (q1, .inl (cI, 30, .inl K)), (q2, .inl (cI, 30, .inl Y)), (q3, .inl (cI, 30, .inl P)), (q4, .inl (cI, 30, .inl S)), (q5, .inl (cI, 30, .inl O)), (q6, .inl (cL, 30, .inr (.inl N)))])) (va_Ql (fun r (_ : Unit) => r = (pn_nam K P O N (pn_own S O t g) g)) (fun _ _ => True) pn_No) 0 0 pn_No := by
  refine pn_mk (by decide) rfl (Nat.le_of_ble_eq_true rfl) ?_
  intro p e s m below meth c ls hx hb hr hml hown hts hlocks hK hP hl
  have hown : s.vm.findClass RX0 = some m.cls := hown
  have hS : va_S pn_No s.heap s.heap [] := va_S.rf
  have hl : lv_has ls 3 [(0, .ref h0), (1, .int (nI t)), (2, .int (nI g))] := hl
  refine lv_aload_n hx hb dX0_nameAt_0 rfl (lv_at hl 0 rfl) ?_
  refine lv_aload_n hx hb dX0_nameAt_1 rfl (lv_at hl 0 rfl) ?_
  refine lv_iload_n hx hb dX0_nameAt_2 rfl (lv_at hl 1 rfl) ?_
  refine lv_iload_n hx hb dX0_nameAt_3 rfl (lv_at hl 2 rfl) ?_
  refine pn_roi (w := [(h0, .inr (0, [.ref q1, .ref q2, .ref q3, .ref q4, .ref q5, .ref q6, .int (nI n), .int (nI F)])), (q1, .inl (cI, 30, .inl K)), (q2, .inl (cI, 30, .inl Y)), (q3, .inl (cI, 30, .inl P)), (q4, .inl (cI, 30, .inl S)), (q5, .inl (cI, 30, .inl O)), (q6, .inl (cL, 30, .inr (.inl N)))]) hP hS (va_runV (As := [.int (nI t), .int (nI g)]) (rest := [.ref h0]) ⟨hx, hb, hml, hown, hts⟩ (c_X0_ownerBehind l D cI cL cZ cO h0 q1 q2 q3 q4 q5 q6 K Y P S O N n F t g (by first | omega | assumption | grind | simp_all) (by first | omega | assumption | grind | simp_all)) (cwV 2 hts gX0_nameAt_X0_ownerBehind rfl rfl rfl (by decide +kernel) ⟨Nat.le_of_ble_eq_true rfl, Nat.le_of_ble_eq_true rfl⟩) (pn_pv hP hK (q0 := 0) rfl rfl) rfl rfl hl.1 rfl (lv_room (Nat.le_of_ble_eq_true rfl)) dX0_nameAt_4 ⟨Nat.le_of_ble_eq_true rfl, Nat.le_of_ble_eq_true rfl⟩) (fun H locs hP hS => ?_)
  refine lv_iload_n hx hb dX0_nameAt_7 rfl (lv_at hl 2 rfl) ?_
  refine pn_rol (w := [(h0, .inr (0, [.ref q1, .ref q2, .ref q3, .ref q4, .ref q5, .ref q6, .int (nI n), .int (nI F)])), (q1, .inl (cI, 30, .inl K)), (q2, .inl (cI, 30, .inl Y)), (q3, .inl (cI, 30, .inl P)), (q4, .inl (cI, 30, .inl S)), (q5, .inl (cI, 30, .inl O)), (q6, .inl (cL, 30, .inr (.inl N)))]) hP hS (va_runV (As := [.int (pn_own S O t g), .int (nI g)]) (rest := []) ⟨hx, hb, hml, hown, hts⟩ (c_X0_nameBehind l D cI cL cZ cO h0 q1 q2 q3 q4 q5 q6 K Y P S O N n F (pn_own S O t g) g (by first | omega | assumption | grind | simp_all) (by first | omega | assumption | grind | simp_all)) (cwV 2 hts gX0_nameAt_X0_nameBehind rfl rfl rfl (by decide +kernel) ⟨Nat.le_of_ble_eq_true rfl, Nat.le_of_ble_eq_true rfl⟩) (pn_pv hP hK (q0 := 0) rfl rfl) rfl rfl hl.1 rfl (lv_room (Nat.le_of_ble_eq_true rfl)) dX0_nameAt_8 ⟨Nat.le_of_ble_eq_true rfl, Nat.le_of_ble_eq_true rfl⟩) (fun H locs hP hS => ?_)
  exact W.lret hx hb hr (fun t ht hW => ⟨⟨_, (), rfl, rfl, trivial⟩, hS.F ht⟩) hS.2.2 dX0_nameAt_11 hlocks

theorem ih_X0_eventsOf_X0 : ∀ w ∈ wsX00, w ∈ wsX0_eventsOf := by decide +kernel
set_option maxHeartbeats 4000000 in
set_option maxRecDepth 100000 in
theorem c_X0_eventsOf (l : Launch) (D : va_G) (cI cL cZ cO : ClassId) (h0 q1 q2 q3 q4 q5 q6 : Nat) (K Y P S O : Nat → Int32) (N : Nat → Int64) (n F : Nat) (pa : Int32) (hn : n ≤ 30) : Met l yX0_eventsOf wsX0_eventsOf ({ frames := 0, cells := 0, slots := 0, locals := 0 }) (va_Pc [.ref h0, .int pa] (pn_Pr D cI cL cZ cO [(h0, .inr (0, [.ref q1, .ref q2, .ref q3, .ref q4, .ref q5, .ref q6, .int (nI n), .int (nI F)])), (q1, .inl (cI, 30, .inl K)), (q2, .inl (cI, 30, .inl Y)), (q3, .inl (cI, 30, .inl P)), (q4, .inl (cI, 30, .inl S)), (q5, .inl (cI, 30, .inl O)), (q6, .inl (cL, 30, .inr (.inl N)))])) (va_Qi (fun r (_ : Unit) => r = (nI (pn_cnt (fun i => P i = pa ∨ O i = pa) n))) (fun _ _ => True) pn_No) 0 0 pn_No := by
  refine pn_mk (by decide) rfl (Nat.le_of_ble_eq_true rfl) ?_
  intro p e s m below meth c ls hx hb hr hml hown hts hlocks hK hP hl
  have hown : s.vm.findClass RX0 = some m.cls := hown
  have hS : va_S pn_No s.heap s.heap [] := va_S.rf
  have hl : lv_has ls 4 [(0, .ref h0), (1, .int pa)] := hl
  refine lv_iconst (v := (nI 0)) hx hb dX0_eventsOf_0 (by decide) ?_
  refine lv_istore_n (lv' := [(2, .int (nI 0)), (0, .ref h0), (1, .int pa)]) hx hb dX0_eventsOf_1 rfl hl (by decide) rfl (fun ls hl => ?_)
  refine lv_iconst (v := (nI 0)) hx hb dX0_eventsOf_2 (by decide) ?_
  refine lv_istore_n (lv' := [(3, .int (nI 0)), (2, .int (nI 0)), (0, .ref h0), (1, .int pa)]) hx hb dX0_eventsOf_3 rfl hl (by decide) rfl (fun ls hl => ?_)
  have lp4_1 : ∀ (fu : Nat) (k : Nat) (f : Nat), n - k < fu → (k ≤ n) → (f = pn_cnt (fun i => P i = pa ∨ O i = pa) k) → ∀ (H : Heap) (locs : List Loc) (ls : Array Slot), va_P D vwCl [(h0, .inr (0, [.ref q1, .ref q2, .ref q3, .ref q4, .ref q5, .ref q6, .int (nI n), .int (nI F)])), (q1, .inl (cI, 30, .inl K)), (q2, .inl (cI, 30, .inl Y)), (q3, .inl (cI, 30, .inl P)), (q4, .inl (cI, 30, .inl S)), (q5, .inl (cI, 30, .inl O)), (q6, .inl (cL, 30, .inr (.inl N)))] H → va_S pn_No s.heap H locs → lv_has ls 4 [(0, .ref h0), (1, .int pa), (2, .int (nI f)), (3, .int (nI k))] → W p l e ({ frames := 0, cells := 0, slots := 0, locals := 0 }) s m (List.toArray [.ref h0, .int pa]) below meth c H locs 0 0 (MQ below (va_Qi (fun r (_ : Unit) => r = (nI (pn_cnt (fun i => P i = pa ∨ O i = pa) n))) (fun _ _ => True) pn_No) (List.toArray [.ref h0, .int pa]) s 0 0 pn_No) (F0 m 4 ls []) := by
    intro fu
    induction fu with
    | zero => intro k f hfu; exact absurd hfu (Nat.not_lt_zero _)
    | succ fu ih4_1 =>
      intro k f hfu hk e1 H locs ls hP hS hl
      refine lv_iload_n hx hb dX0_eventsOf_4 rfl (lv_at hl 3 rfl) ?_
      refine lv_aload_n hx hb dX0_eventsOf_5 rfl (lv_at hl 0 rfl) ?_
      refine va_get (D := D) (ci := 0) (v := .int (nI n)) (C := RX0) (T := TX0) (N := 8) hx hb hts ih_X0_eventsOf_X0 hown hK.1 hP 0 rfl rfl 6 (by decide) (hts (.fieldLink RX0 31 "ParishNames$Chronicle" "told" "I") (by decide +kernel)) (fun _ h9 => h9) rfl dX0_eventsOf_6 ?_
      refine lv_icmp_ge (tgt := 41) hx hb dX0_eventsOf_9 (by decide) (fun b9 => ?_) (fun b9 => ?_)
      · have b9 : n ≤ k := (pn_le (by omega) (by omega)).mp (show nI n ≤ nI k from b9)
        refine lv_iload_n hx hb dX0_eventsOf_41 rfl (lv_at hl 2 rfl) ?_
        exact W.iret hx hb hr (fun t ht hW => ⟨⟨_, (), rfl, (by rw [e1, show k = n by omega]), trivial⟩, hS.F ht⟩) hS.2.2 dX0_eventsOf_42 hlocks
      · have b9 : ¬ n ≤ k := fun h => (show ¬ nI n ≤ nI k from b9) ((pn_le (by omega) (by omega)).mpr h)
        refine lv_aload_n hx hb dX0_eventsOf_12 rfl (lv_at hl 0 rfl) ?_
        refine va_get (D := D) (ci := 0) (v := .ref q3) (C := RX0) (T := TX0) (N := 8) hx hb hts ih_X0_eventsOf_X0 hown hK.1 hP 0 rfl rfl 2 (by decide) (hts (.fieldLink RX0 18 "ParishNames$Chronicle" "parishes" "[I") (by decide +kernel)) (fun _ h9 => h9) rfl dX0_eventsOf_13 ?_
        refine lv_iload_n hx hb dX0_eventsOf_16 rfl (lv_at hl 3 rfl) ?_
        refine pn_iald hx hb hK.1 hP 3 0 rfl rfl (i := k) (by omega) (Nat.le_of_ble_eq_true rfl) dX0_eventsOf_17 ?_
        refine lv_iload_n hx hb dX0_eventsOf_18 rfl (lv_at hl 1 rfl) ?_
        refine lv_icmp_eq (tgt := 32) hx hb dX0_eventsOf_19 (by decide) (fun b19 => ?_) (fun b19 => ?_)
        · refine lv_iinc (v := (nI (f + 1))) (lv' := [(2, .int (nI (f + 1))), (0, .ref h0), (1, .int pa), (3, .int (nI k))]) hx hb dX0_eventsOf_32 hl (k := 2) rfl (nI_add f 1) (by decide) rfl (fun ls hl => ?_)
          refine lv_iinc (v := (nI (k + 1))) (lv' := [(3, .int (nI (k + 1))), (2, .int (nI (f + 1))), (0, .ref h0), (1, .int pa)]) hx hb dX0_eventsOf_35 hl (k := 3) rfl (nI_add k 1) (by decide) rfl (fun ls hl => ?_)
          refine lv_goto (tgt := 4) hx hb dX0_eventsOf_38 (by decide) ?_
          exact ih4_1 (k + 1) (f + 1) (by omega) (by first | omega | assumption | grind | simp_all) (by rw [pn_cnt]; split <;> first | (rw [e1]; done) | exact e1 | (exfalso; grind)) _ _ _ hP hS (lv_sub hl [2, 3, 1, 0] rfl)
        · refine lv_aload_n hx hb dX0_eventsOf_22 rfl (lv_at hl 0 rfl) ?_
          refine va_get (D := D) (ci := 0) (v := .ref q5) (C := RX0) (T := TX0) (N := 8) hx hb hts ih_X0_eventsOf_X0 hown hK.1 hP 0 rfl rfl 4 (by decide) (hts (.fieldLink RX0 24 "ParishNames$Chronicle" "owners" "[I") (by decide +kernel)) (fun _ h9 => h9) rfl dX0_eventsOf_23 ?_
          refine lv_iload_n hx hb dX0_eventsOf_26 rfl (lv_at hl 3 rfl) ?_
          refine pn_iald hx hb hK.1 hP 5 0 rfl rfl (i := k) (by omega) (Nat.le_of_ble_eq_true rfl) dX0_eventsOf_27 ?_
          refine lv_iload_n hx hb dX0_eventsOf_28 rfl (lv_at hl 1 rfl) ?_
          refine lv_icmp_ne (tgt := 35) hx hb dX0_eventsOf_29 (by decide) (fun b29 => ?_) (fun b29 => ?_)
          · refine lv_iinc (v := (nI (k + 1))) (lv' := [(3, .int (nI (k + 1))), (0, .ref h0), (1, .int pa), (2, .int (nI f))]) hx hb dX0_eventsOf_35 hl (k := 3) rfl (nI_add k 1) (by decide) rfl (fun ls hl => ?_)
            refine lv_goto (tgt := 4) hx hb dX0_eventsOf_38 (by decide) ?_
            exact ih4_1 (k + 1) f (by omega) (by first | omega | assumption | grind | simp_all) (by rw [pn_cnt]; split <;> first | (rw [e1]; done) | exact e1 | (exfalso; grind)) _ _ _ hP hS (lv_sub hl [1, 2, 3, 0] rfl)
          · refine lv_iinc (v := (nI (f + 1))) (lv' := [(2, .int (nI (f + 1))), (0, .ref h0), (1, .int pa), (3, .int (nI k))]) hx hb dX0_eventsOf_32 hl (k := 2) rfl (nI_add f 1) (by decide) rfl (fun ls hl => ?_)
            refine lv_iinc (v := (nI (k + 1))) (lv' := [(3, .int (nI (k + 1))), (2, .int (nI (f + 1))), (0, .ref h0), (1, .int pa)]) hx hb dX0_eventsOf_35 hl (k := 3) rfl (nI_add k 1) (by decide) rfl (fun ls hl => ?_)
            refine lv_goto (tgt := 4) hx hb dX0_eventsOf_38 (by decide) ?_
            exact ih4_1 (k + 1) (f + 1) (by omega) (by first | omega | assumption | grind | simp_all) (by rw [pn_cnt]; split <;> first | (rw [e1]; done) | exact e1 | (exfalso; grind)) _ _ _ hP hS (lv_sub hl [2, 3, 1, 0] rfl)
  exact lp4_1 ((n - 0) + 1) 0 0 (Nat.lt_succ_self _) (by first | omega | assumption | grind | simp_all) rfl _ _ _ hP hS (lv_sub hl [2, 3, 1, 0] rfl)

theorem ih_X0_eventsOfKind_X0 : ∀ w ∈ wsX00, w ∈ wsX0_eventsOfKind := by decide +kernel
set_option maxHeartbeats 4000000 in
set_option maxRecDepth 100000 in
theorem c_X0_eventsOfKind (l : Launch) (D : va_G) (cI cL cZ cO : ClassId) (h0 q1 q2 q3 q4 q5 q6 : Nat) (K Y P S O : Nat → Int32) (N : Nat → Int64) (n F : Nat) (kd : Int32) (hn : n ≤ 30) : Met l yX0_eventsOfKind wsX0_eventsOfKind ({ frames := 0, cells := 0, slots := 0, locals := 0 }) (va_Pc [.ref h0, .int kd] (pn_Pr D cI cL cZ cO [(h0, .inr (0, [.ref q1, .ref q2, .ref q3, .ref q4, .ref q5, .ref q6, .int (nI n), .int (nI F)])), (q1, .inl (cI, 30, .inl K)), (q2, .inl (cI, 30, .inl Y)), (q3, .inl (cI, 30, .inl P)), (q4, .inl (cI, 30, .inl S)), (q5, .inl (cI, 30, .inl O)), (q6, .inl (cL, 30, .inr (.inl N)))])) (va_Qi (fun r (_ : Unit) => r = (nI (pn_cnt (fun i => K i = kd) n))) (fun _ _ => True) pn_No) 0 0 pn_No := by
  refine pn_mk (by decide) rfl (Nat.le_of_ble_eq_true rfl) ?_
  intro p e s m below meth c ls hx hb hr hml hown hts hlocks hK hP hl
  have hown : s.vm.findClass RX0 = some m.cls := hown
  have hS : va_S pn_No s.heap s.heap [] := va_S.rf
  have hl : lv_has ls 4 [(0, .ref h0), (1, .int kd)] := hl
  refine lv_iconst (v := (nI 0)) hx hb dX0_eventsOfKind_0 (by decide) ?_
  refine lv_istore_n (lv' := [(2, .int (nI 0)), (0, .ref h0), (1, .int kd)]) hx hb dX0_eventsOfKind_1 rfl hl (by decide) rfl (fun ls hl => ?_)
  refine lv_iconst (v := (nI 0)) hx hb dX0_eventsOfKind_2 (by decide) ?_
  refine lv_istore_n (lv' := [(3, .int (nI 0)), (2, .int (nI 0)), (0, .ref h0), (1, .int kd)]) hx hb dX0_eventsOfKind_3 rfl hl (by decide) rfl (fun ls hl => ?_)
  have lp4_1 : ∀ (fu : Nat) (k : Nat) (f : Nat), n - k < fu → (k ≤ n) → (f = pn_cnt (fun i => K i = kd) k) → ∀ (H : Heap) (locs : List Loc) (ls : Array Slot), va_P D vwCl [(h0, .inr (0, [.ref q1, .ref q2, .ref q3, .ref q4, .ref q5, .ref q6, .int (nI n), .int (nI F)])), (q1, .inl (cI, 30, .inl K)), (q2, .inl (cI, 30, .inl Y)), (q3, .inl (cI, 30, .inl P)), (q4, .inl (cI, 30, .inl S)), (q5, .inl (cI, 30, .inl O)), (q6, .inl (cL, 30, .inr (.inl N)))] H → va_S pn_No s.heap H locs → lv_has ls 4 [(0, .ref h0), (1, .int kd), (2, .int (nI f)), (3, .int (nI k))] → W p l e ({ frames := 0, cells := 0, slots := 0, locals := 0 }) s m (List.toArray [.ref h0, .int kd]) below meth c H locs 0 0 (MQ below (va_Qi (fun r (_ : Unit) => r = (nI (pn_cnt (fun i => K i = kd) n))) (fun _ _ => True) pn_No) (List.toArray [.ref h0, .int kd]) s 0 0 pn_No) (F0 m 4 ls []) := by
    intro fu
    induction fu with
    | zero => intro k f hfu; exact absurd hfu (Nat.not_lt_zero _)
    | succ fu ih4_1 =>
      intro k f hfu hk e1 H locs ls hP hS hl
      refine lv_iload_n hx hb dX0_eventsOfKind_4 rfl (lv_at hl 3 rfl) ?_
      refine lv_aload_n hx hb dX0_eventsOfKind_5 rfl (lv_at hl 0 rfl) ?_
      refine va_get (D := D) (ci := 0) (v := .int (nI n)) (C := RX0) (T := TX0) (N := 8) hx hb hts ih_X0_eventsOfKind_X0 hown hK.1 hP 0 rfl rfl 6 (by decide) (hts (.fieldLink RX0 31 "ParishNames$Chronicle" "told" "I") (by decide +kernel)) (fun _ h9 => h9) rfl dX0_eventsOfKind_6 ?_
      refine lv_icmp_ge (tgt := 31) hx hb dX0_eventsOfKind_9 (by decide) (fun b9 => ?_) (fun b9 => ?_)
      · have b9 : n ≤ k := (pn_le (by omega) (by omega)).mp (show nI n ≤ nI k from b9)
        refine lv_iload_n hx hb dX0_eventsOfKind_31 rfl (lv_at hl 2 rfl) ?_
        exact W.iret hx hb hr (fun t ht hW => ⟨⟨_, (), rfl, (by rw [e1, show k = n by omega]), trivial⟩, hS.F ht⟩) hS.2.2 dX0_eventsOfKind_32 hlocks
      · have b9 : ¬ n ≤ k := fun h => (show ¬ nI n ≤ nI k from b9) ((pn_le (by omega) (by omega)).mpr h)
        refine lv_aload_n hx hb dX0_eventsOfKind_12 rfl (lv_at hl 0 rfl) ?_
        refine va_get (D := D) (ci := 0) (v := .ref q1) (C := RX0) (T := TX0) (N := 8) hx hb hts ih_X0_eventsOfKind_X0 hown hK.1 hP 0 rfl rfl 0 (by decide) (hts (.fieldLink RX0 9 "ParishNames$Chronicle" "kinds" "[I") (by decide +kernel)) (fun _ h9 => h9) rfl dX0_eventsOfKind_13 ?_
        refine lv_iload_n hx hb dX0_eventsOfKind_16 rfl (lv_at hl 3 rfl) ?_
        refine pn_iald hx hb hK.1 hP 1 0 rfl rfl (i := k) (by omega) (Nat.le_of_ble_eq_true rfl) dX0_eventsOfKind_17 ?_
        refine lv_iload_n hx hb dX0_eventsOfKind_18 rfl (lv_at hl 1 rfl) ?_
        refine lv_icmp_ne (tgt := 25) hx hb dX0_eventsOfKind_19 (by decide) (fun b19 => ?_) (fun b19 => ?_)
        · refine lv_iinc (v := (nI (k + 1))) (lv' := [(3, .int (nI (k + 1))), (0, .ref h0), (1, .int kd), (2, .int (nI f))]) hx hb dX0_eventsOfKind_25 hl (k := 3) rfl (nI_add k 1) (by decide) rfl (fun ls hl => ?_)
          refine lv_goto (tgt := 4) hx hb dX0_eventsOfKind_28 (by decide) ?_
          exact ih4_1 (k + 1) f (by omega) (by first | omega | assumption | grind | simp_all) (by rw [pn_cnt]; split <;> first | (rw [e1]; done) | exact e1 | (exfalso; grind)) _ _ _ hP hS (lv_sub hl [1, 2, 3, 0] rfl)
        · refine lv_iinc (v := (nI (f + 1))) (lv' := [(2, .int (nI (f + 1))), (0, .ref h0), (1, .int kd), (3, .int (nI k))]) hx hb dX0_eventsOfKind_22 hl (k := 2) rfl (nI_add f 1) (by decide) rfl (fun ls hl => ?_)
          refine lv_iinc (v := (nI (k + 1))) (lv' := [(3, .int (nI (k + 1))), (2, .int (nI (f + 1))), (0, .ref h0), (1, .int kd)]) hx hb dX0_eventsOfKind_25 hl (k := 3) rfl (nI_add k 1) (by decide) rfl (fun ls hl => ?_)
          refine lv_goto (tgt := 4) hx hb dX0_eventsOfKind_28 (by decide) ?_
          exact ih4_1 (k + 1) (f + 1) (by omega) (by first | omega | assumption | grind | simp_all) (by rw [pn_cnt]; split <;> first | (rw [e1]; done) | exact e1 | (exfalso; grind)) _ _ _ hP hS (lv_sub hl [2, 3, 1, 0] rfl)
  exact lp4_1 ((n - 0) + 1) 0 0 (Nat.lt_succ_self _) (by first | omega | assumption | grind | simp_all) rfl _ _ _ hP hS (lv_sub hl [2, 3, 1, 0] rfl)

theorem ih_X0_parishesNow_X0 : ∀ w ∈ wsX00, w ∈ wsX0_parishesNow := by decide +kernel
set_option maxHeartbeats 4000000 in
set_option maxRecDepth 100000 in
theorem c_X0_parishesNow (l : Launch) (D : va_G) (cI cL cZ cO : ClassId) (h0 q1 q2 q3 q4 q5 q6 : Nat) (K Y P S O : Nat → Int32) (N : Nat → Int64) (n F : Nat) (hn : n ≤ 30) (hF : F ≤ 16) : Met l yX0_parishesNow wsX0_parishesNow ({ frames := 3, cells := 0, slots := 0, locals := 68 }) (va_Pc [.ref h0] (pn_Pr D cI cL cZ cO [(h0, .inr (0, [.ref q1, .ref q2, .ref q3, .ref q4, .ref q5, .ref q6, .int (nI n), .int (nI F)])), (q1, .inl (cI, 30, .inl K)), (q2, .inl (cI, 30, .inl Y)), (q3, .inl (cI, 30, .inl P)), (q4, .inl (cI, 30, .inl S)), (q5, .inl (cI, 30, .inl O)), (q6, .inl (cL, 30, .inr (.inl N)))])) (va_Qi (fun r (_ : Unit) => r = (nI (pn_cnt (fun i => ¬ pn_sit P S O (nI i) n = 0) F))) (fun _ _ => True) pn_No) 0 0 pn_No := by
  refine pn_mk (by decide) rfl (Nat.le_of_ble_eq_true rfl) ?_
  intro p e s m below meth c ls hx hb hr hml hown hts hlocks hK hP hl
  have hown : s.vm.findClass RX0 = some m.cls := hown
  have hS : va_S pn_No s.heap s.heap [] := va_S.rf
  have hl : lv_has ls 3 [(0, .ref h0)] := hl
  refine lv_iconst (v := (nI 0)) hx hb dX0_parishesNow_0 (by decide) ?_
  refine lv_istore_n (lv' := [(1, .int (nI 0)), (0, .ref h0)]) hx hb dX0_parishesNow_1 rfl hl (by decide) rfl (fun ls hl => ?_)
  refine lv_iconst (v := (nI 0)) hx hb dX0_parishesNow_2 (by decide) ?_
  refine lv_istore_n (lv' := [(2, .int (nI 0)), (1, .int (nI 0)), (0, .ref h0)]) hx hb dX0_parishesNow_3 rfl hl (by decide) rfl (fun ls hl => ?_)
  have lp4_1 : ∀ (fu : Nat) (k : Nat) (f : Nat), F - k < fu → (k ≤ F) → (f = pn_cnt (fun i => ¬ pn_sit P S O (nI i) n = 0) k) → ∀ (H : Heap) (locs : List Loc) (ls : Array Slot), va_P D vwCl [(h0, .inr (0, [.ref q1, .ref q2, .ref q3, .ref q4, .ref q5, .ref q6, .int (nI n), .int (nI F)])), (q1, .inl (cI, 30, .inl K)), (q2, .inl (cI, 30, .inl Y)), (q3, .inl (cI, 30, .inl P)), (q4, .inl (cI, 30, .inl S)), (q5, .inl (cI, 30, .inl O)), (q6, .inl (cL, 30, .inr (.inl N)))] H → va_S pn_No s.heap H locs → lv_has ls 3 [(0, .ref h0), (1, .int (nI f)), (2, .int (nI k))] → W p l e ({ frames := 3, cells := 0, slots := 0, locals := 68 }) s m (List.toArray [.ref h0]) below meth c H locs 0 0 (MQ below (va_Qi (fun r (_ : Unit) => r = (nI (pn_cnt (fun i => ¬ pn_sit P S O (nI i) n = 0) F))) (fun _ _ => True) pn_No) (List.toArray [.ref h0]) s 0 0 pn_No) (F0 m 4 ls []) := by
    intro fu
    induction fu with
    | zero => intro k f hfu; exact absurd hfu (Nat.not_lt_zero _)
    | succ fu ih4_1 =>
      intro k f hfu hk e1 H locs ls hP hS hl
      refine lv_iload_n hx hb dX0_parishesNow_4 rfl (lv_at hl 2 rfl) ?_
      refine lv_aload_n hx hb dX0_parishesNow_5 rfl (lv_at hl 0 rfl) ?_
      refine va_get (D := D) (ci := 0) (v := .int (nI F)) (C := RX0) (T := TX0) (N := 8) hx hb hts ih_X0_parishesNow_X0 hown hK.1 hP 0 rfl rfl 7 (by decide) (hts (.fieldLink RX0 35 "ParishNames$Chronicle" "founded" "I") (by decide +kernel)) (fun _ h9 => h9) rfl dX0_parishesNow_6 ?_
      refine lv_icmp_ge (tgt := 29) hx hb dX0_parishesNow_9 (by decide) (fun b9 => ?_) (fun b9 => ?_)
      · have b9 : F ≤ k := (pn_le (by omega) (by omega)).mp (show nI F ≤ nI k from b9)
        refine lv_iload_n hx hb dX0_parishesNow_29 rfl (lv_at hl 1 rfl) ?_
        exact W.iret hx hb hr (fun t ht hW => ⟨⟨_, (), rfl, (by rw [e1, show k = F by omega]), trivial⟩, hS.F ht⟩) hS.2.2 dX0_parishesNow_30 hlocks
      · have b9 : ¬ F ≤ k := fun h => (show ¬ nI F ≤ nI k from b9) ((pn_le (by omega) (by omega)).mpr h)
        refine lv_aload_n hx hb dX0_parishesNow_12 rfl (lv_at hl 0 rfl) ?_
        refine lv_iload_n hx hb dX0_parishesNow_13 rfl (lv_at hl 2 rfl) ?_
        refine pn_roi (w := [(h0, .inr (0, [.ref q1, .ref q2, .ref q3, .ref q4, .ref q5, .ref q6, .int (nI n), .int (nI F)])), (q1, .inl (cI, 30, .inl K)), (q2, .inl (cI, 30, .inl Y)), (q3, .inl (cI, 30, .inl P)), (q4, .inl (cI, 30, .inl S)), (q5, .inl (cI, 30, .inl O)), (q6, .inl (cL, 30, .inr (.inl N)))]) hP hS (va_runV (As := [.int (nI k)]) (rest := []) ⟨hx, hb, hml, hown, hts⟩ (c_X0_sitesNow l D cI cL cZ cO h0 q1 q2 q3 q4 q5 q6 K Y P S O N n F (nI k) (by first | omega | assumption | grind | simp_all)) (cwV 1 hts gX0_parishesNow_X0_sitesNow rfl rfl rfl (by decide +kernel) ⟨Nat.le_of_ble_eq_true rfl, Nat.le_of_ble_eq_true rfl⟩) (pn_pv hP hK (q0 := 0) rfl rfl) rfl rfl hl.1 rfl (lv_room (Nat.le_of_ble_eq_true rfl)) dX0_parishesNow_14 ⟨Nat.le_of_ble_eq_true rfl, Nat.le_of_ble_eq_true rfl⟩) (fun H locs hP hS => ?_)
        refine lv_if_eq (tgt := 23) hx hb dX0_parishesNow_17 (by decide) (fun b17 => ?_) (fun b17 => ?_)
        · refine lv_iinc (v := (nI (k + 1))) (lv' := [(2, .int (nI (k + 1))), (0, .ref h0), (1, .int (nI f))]) hx hb dX0_parishesNow_23 hl (k := 2) rfl (nI_add k 1) (by decide) rfl (fun ls hl => ?_)
          refine lv_goto (tgt := 4) hx hb dX0_parishesNow_26 (by decide) ?_
          exact ih4_1 (k + 1) f (by omega) (by first | omega | assumption | grind | simp_all) (by rw [pn_cnt]; split <;> first | (rw [e1]; done) | exact e1 | (exfalso; grind)) _ _ _ hP hS (lv_sub hl [1, 2, 0] rfl)
        · refine lv_iinc (v := (nI (f + 1))) (lv' := [(1, .int (nI (f + 1))), (0, .ref h0), (2, .int (nI k))]) hx hb dX0_parishesNow_20 hl (k := 1) rfl (nI_add f 1) (by decide) rfl (fun ls hl => ?_)
          refine lv_iinc (v := (nI (k + 1))) (lv' := [(2, .int (nI (k + 1))), (1, .int (nI (f + 1))), (0, .ref h0)]) hx hb dX0_parishesNow_23 hl (k := 2) rfl (nI_add k 1) (by decide) rfl (fun ls hl => ?_)
          refine lv_goto (tgt := 4) hx hb dX0_parishesNow_26 (by decide) ?_
          exact ih4_1 (k + 1) (f + 1) (by omega) (by first | omega | assumption | grind | simp_all) (by rw [pn_cnt]; split <;> first | (rw [e1]; done) | exact e1 | (exfalso; grind)) _ _ _ hP hS (lv_sub hl [2, 1, 0] rfl)
  exact lp4_1 ((F - 0) + 1) 0 0 (Nat.lt_succ_self _) (by first | omega | assumption | grind | simp_all) rfl _ _ _ hP hS (lv_sub hl [2, 1, 0] rfl)

theorem ih_X0_isNameOfLesser_X0 : ∀ w ∈ wsX00, w ∈ wsX0_isNameOfLesser := by decide +kernel
set_option maxHeartbeats 4000000 in
set_option maxRecDepth 100000 in
theorem c_X0_isNameOfLesser (l : Launch) (D : va_G) (cI cL cZ cO : ClassId) (h0 q1 q2 q3 q4 q5 q6 : Nat) (K Y P S O : Nat → Int32) (N : Nat → Int64) (n F : Nat) (b : Nat) (hn : n ≤ 30) (hb16 : b ≤ 16) : Met l yX0_isNameOfLesser wsX0_isNameOfLesser ({ frames := 3, cells := 0, slots := 0, locals := 68 }) (va_Pc [.ref h0, .int (nI b)] (pn_Pr D cI cL cZ cO [(h0, .inr (0, [.ref q1, .ref q2, .ref q3, .ref q4, .ref q5, .ref q6, .int (nI n), .int (nI F)])), (q1, .inl (cI, 30, .inl K)), (q2, .inl (cI, 30, .inl Y)), (q3, .inl (cI, 30, .inl P)), (q4, .inl (cI, 30, .inl S)), (q5, .inl (cI, 30, .inl O)), (q6, .inl (cL, 30, .inr (.inl N)))])) (va_Qi (fun r (_ : Unit) => r = (pn_b (pn_nol K P S O N n b))) (fun _ _ => True) pn_No) 0 0 pn_No := by
  refine pn_mk (by decide) rfl (Nat.le_of_ble_eq_true rfl) ?_
  intro p e s m below meth c ls hx hb hr hml hown hts hlocks hK hP hl
  have hown : s.vm.findClass RX0 = some m.cls := hown
  have hS : va_S pn_No s.heap s.heap [] := va_S.rf
  have hl : lv_has ls 5 [(0, .ref h0), (1, .int (nI b))] := hl
  refine lv_aload_n hx hb dX0_isNameOfLesser_0 rfl (lv_at hl 0 rfl) ?_
  refine lv_iload_n hx hb dX0_isNameOfLesser_1 rfl (lv_at hl 1 rfl) ?_
  refine lv_aload_n hx hb dX0_isNameOfLesser_2 rfl (lv_at hl 0 rfl) ?_
  refine va_get (D := D) (ci := 0) (v := .int (nI n)) (C := RX0) (T := TX0) (N := 8) hx hb hts ih_X0_isNameOfLesser_X0 hown hK.1 hP 0 rfl rfl 6 (by decide) (hts (.fieldLink RX0 31 "ParishNames$Chronicle" "told" "I") (by decide +kernel)) (fun _ h9 => h9) rfl dX0_isNameOfLesser_3 ?_
  refine pn_rol (w := [(h0, .inr (0, [.ref q1, .ref q2, .ref q3, .ref q4, .ref q5, .ref q6, .int (nI n), .int (nI F)])), (q1, .inl (cI, 30, .inl K)), (q2, .inl (cI, 30, .inl Y)), (q3, .inl (cI, 30, .inl P)), (q4, .inl (cI, 30, .inl S)), (q5, .inl (cI, 30, .inl O)), (q6, .inl (cL, 30, .inr (.inl N)))]) hP hS (va_runV (As := [.int (nI b), .int (nI n)]) (rest := []) ⟨hx, hb, hml, hown, hts⟩ (c_X0_nameBehind l D cI cL cZ cO h0 q1 q2 q3 q4 q5 q6 K Y P S O N n F (nI b) n (by first | omega | assumption | grind | simp_all) (by first | omega | assumption | grind | simp_all)) (cwV 2 hts gX0_isNameOfLesser_X0_nameBehind rfl rfl rfl (by decide +kernel) ⟨Nat.le_of_ble_eq_true rfl, Nat.le_of_ble_eq_true rfl⟩) (pn_pv hP hK (q0 := 0) rfl rfl) rfl rfl hl.1 rfl (lv_room (Nat.le_of_ble_eq_true rfl)) dX0_isNameOfLesser_6 ⟨Nat.le_of_ble_eq_true rfl, Nat.le_of_ble_eq_true rfl⟩) (fun H locs hP hS => ?_)
  refine lv_lstore_n (lv' := [(2, .long (pn_nam K P O N (nI b) n)), (0, .ref h0), (1, .int (nI b))]) hx hb dX0_isNameOfLesser_9 rfl hl (by decide) rfl (fun ls hl => ?_)
  refine lv_iconst (v := (nI 0)) hx hb dX0_isNameOfLesser_10 (by decide) ?_
  refine lv_istore (lv' := [(4, .int (nI 0)), (2, .long (pn_nam K P O N (nI b) n)), (0, .ref h0), (1, .int (nI b))]) hx hb dX0_isNameOfLesser_11 hl (by decide) rfl (fun ls hl => ?_)
  have lp13_1 : ∀ (fu : Nat) (k : Nat), b - k < fu → (k ≤ b) → (∀ i, i < k → ¬ (¬ pn_sit P S O (nI i) n = 0 ∧ pn_nam K P O N (nI i) n = pn_nam K P O N (nI b) n)) → ∀ (H : Heap) (locs : List Loc) (ls : Array Slot), va_P D vwCl [(h0, .inr (0, [.ref q1, .ref q2, .ref q3, .ref q4, .ref q5, .ref q6, .int (nI n), .int (nI F)])), (q1, .inl (cI, 30, .inl K)), (q2, .inl (cI, 30, .inl Y)), (q3, .inl (cI, 30, .inl P)), (q4, .inl (cI, 30, .inl S)), (q5, .inl (cI, 30, .inl O)), (q6, .inl (cL, 30, .inr (.inl N)))] H → va_S pn_No s.heap H locs → lv_has ls 5 [(0, .ref h0), (1, .int (nI b)), (2, .long (pn_nam K P O N (nI b) n)), (4, .int (nI k))] → W p l e ({ frames := 3, cells := 0, slots := 0, locals := 68 }) s m (List.toArray [.ref h0, .int (nI b)]) below meth c H locs 0 0 (MQ below (va_Qi (fun r (_ : Unit) => r = (pn_b (pn_nol K P S O N n b))) (fun _ _ => True) pn_No) (List.toArray [.ref h0, .int (nI b)]) s 0 0 pn_No) (F0 m 13 ls []) := by
    intro fu
    induction fu with
    | zero => intro k hfu; exact absurd hfu (Nat.not_lt_zero _)
    | succ fu ih13_1 =>
      intro k hfu hk e1 H locs ls hP hS hl
      refine lv_iload hx hb dX0_isNameOfLesser_13 (lv_at hl 3 rfl) ?_
      refine lv_iload_n hx hb dX0_isNameOfLesser_15 rfl (lv_at hl 1 rfl) ?_
      refine lv_icmp_ge (tgt := 51) hx hb dX0_isNameOfLesser_16 (by decide) (fun b16 => ?_) (fun b16 => ?_)
      · have b16 : b ≤ k := (pn_le (by omega) (by omega)).mp (show nI b ≤ nI k from b16)
        refine lv_iconst (v := (nI 0)) hx hb dX0_isNameOfLesser_51 (by decide) ?_
        exact W.zret hx hb hr (by decide) (fun t ht hW => ⟨⟨_, (), rfl, (pn_bf (fun ⟨i, h1, h2⟩ => e1 i (by omega) h2)), trivial⟩, hS.F ht⟩) hS.2.2 dX0_isNameOfLesser_52 hlocks
      · have b16 : ¬ b ≤ k := fun h => (show ¬ nI b ≤ nI k from b16) ((pn_le (by omega) (by omega)).mpr h)
        refine lv_aload_n hx hb dX0_isNameOfLesser_19 rfl (lv_at hl 0 rfl) ?_
        refine lv_iload hx hb dX0_isNameOfLesser_20 (lv_at hl 3 rfl) ?_
        refine pn_roi (w := [(h0, .inr (0, [.ref q1, .ref q2, .ref q3, .ref q4, .ref q5, .ref q6, .int (nI n), .int (nI F)])), (q1, .inl (cI, 30, .inl K)), (q2, .inl (cI, 30, .inl Y)), (q3, .inl (cI, 30, .inl P)), (q4, .inl (cI, 30, .inl S)), (q5, .inl (cI, 30, .inl O)), (q6, .inl (cL, 30, .inr (.inl N)))]) hP hS (va_runV (As := [.int (nI k)]) (rest := []) ⟨hx, hb, hml, hown, hts⟩ (c_X0_sitesNow l D cI cL cZ cO h0 q1 q2 q3 q4 q5 q6 K Y P S O N n F (nI k) (by first | omega | assumption | grind | simp_all)) (cwV 1 hts gX0_isNameOfLesser_X0_sitesNow rfl rfl rfl (by decide +kernel) ⟨Nat.le_of_ble_eq_true rfl, Nat.le_of_ble_eq_true rfl⟩) (pn_pv hP hK (q0 := 0) rfl rfl) rfl rfl hl.1 rfl (lv_room (Nat.le_of_ble_eq_true rfl)) dX0_isNameOfLesser_22 ⟨Nat.le_of_ble_eq_true rfl, Nat.le_of_ble_eq_true rfl⟩) (fun H locs hP hS => ?_)
        refine lv_if_eq (tgt := 45) hx hb dX0_isNameOfLesser_25 (by decide) (fun b25 => ?_) (fun b25 => ?_)
        · refine lv_iinc (v := (nI (k + 1))) (lv' := [(4, .int (nI (k + 1))), (0, .ref h0), (1, .int (nI b)), (2, .long (pn_nam K P O N (nI b) n))]) hx hb dX0_isNameOfLesser_45 hl (k := 3) rfl (nI_add k 1) (by decide) rfl (fun ls hl => ?_)
          refine lv_goto (tgt := 13) hx hb dX0_isNameOfLesser_48 (by decide) ?_
          exact ih13_1 (k + 1) (by omega) (by first | omega | assumption | grind | simp_all) (lt_s e1 (fun h => by first | exact h.1 (by assumption) | exact (by assumption : ¬ _) h.2)) _ _ _ hP hS (lv_sub hl [1, 2, 3, 0] rfl)
        · refine lv_aload_n hx hb dX0_isNameOfLesser_28 rfl (lv_at hl 0 rfl) ?_
          refine lv_iload hx hb dX0_isNameOfLesser_29 (lv_at hl 3 rfl) ?_
          refine lv_aload_n hx hb dX0_isNameOfLesser_31 rfl (lv_at hl 0 rfl) ?_
          refine va_get (D := D) (ci := 0) (v := .int (nI n)) (C := RX0) (T := TX0) (N := 8) hx hb hts ih_X0_isNameOfLesser_X0 hown hK.1 hP 0 rfl rfl 6 (by decide) (hts (.fieldLink RX0 31 "ParishNames$Chronicle" "told" "I") (by decide +kernel)) (fun _ h9 => h9) rfl dX0_isNameOfLesser_32 ?_
          refine pn_rol (w := [(h0, .inr (0, [.ref q1, .ref q2, .ref q3, .ref q4, .ref q5, .ref q6, .int (nI n), .int (nI F)])), (q1, .inl (cI, 30, .inl K)), (q2, .inl (cI, 30, .inl Y)), (q3, .inl (cI, 30, .inl P)), (q4, .inl (cI, 30, .inl S)), (q5, .inl (cI, 30, .inl O)), (q6, .inl (cL, 30, .inr (.inl N)))]) hP hS (va_runV (As := [.int (nI k), .int (nI n)]) (rest := []) ⟨hx, hb, hml, hown, hts⟩ (c_X0_nameBehind l D cI cL cZ cO h0 q1 q2 q3 q4 q5 q6 K Y P S O N n F (nI k) n (by first | omega | assumption | grind | simp_all) (by first | omega | assumption | grind | simp_all)) (cwV 2 hts gX0_isNameOfLesser_X0_nameBehind rfl rfl rfl (by decide +kernel) ⟨Nat.le_of_ble_eq_true rfl, Nat.le_of_ble_eq_true rfl⟩) (pn_pv hP hK (q0 := 0) rfl rfl) rfl rfl hl.1 rfl (lv_room (Nat.le_of_ble_eq_true rfl)) dX0_isNameOfLesser_35 ⟨Nat.le_of_ble_eq_true rfl, Nat.le_of_ble_eq_true rfl⟩) (fun H locs hP hS => ?_)
          refine lv_lload_n hx hb dX0_isNameOfLesser_38 rfl (lv_at hl 2 rfl) ?_
          refine W.lcmp hx hb dX0_isNameOfLesser_39 ?_
          refine lv_if_ne (tgt := 45) hx hb dX0_isNameOfLesser_40 (by decide) (fun b40 => ?_) (fun b40 => ?_)
          · have b40 : ¬ (pn_nam K P O N (nI k) n) = (pn_nam K P O N (nI b) n) := fun h => b40 (pn_cmp0.mpr h)
            refine lv_iinc (v := (nI (k + 1))) (lv' := [(4, .int (nI (k + 1))), (0, .ref h0), (1, .int (nI b)), (2, .long (pn_nam K P O N (nI b) n))]) hx hb dX0_isNameOfLesser_45 hl (k := 3) rfl (nI_add k 1) (by decide) rfl (fun ls hl => ?_)
            refine lv_goto (tgt := 13) hx hb dX0_isNameOfLesser_48 (by decide) ?_
            exact ih13_1 (k + 1) (by omega) (by first | omega | assumption | grind | simp_all) (lt_s e1 (fun h => by first | exact h.1 (by assumption) | exact (by assumption : ¬ _) h.2)) _ _ _ hP hS (lv_sub hl [1, 2, 3, 0] rfl)
          · have b40 : (pn_nam K P O N (nI k) n) = (pn_nam K P O N (nI b) n) := pn_cmp0.mp b40
            refine lv_iconst (v := (nI 1)) hx hb dX0_isNameOfLesser_43 (by decide) ?_
            exact W.zret hx hb hr (by decide) (fun t ht hW => ⟨⟨_, (), rfl, (pn_bt ⟨k, by omega, by assumption, by assumption⟩), trivial⟩, hS.F ht⟩) hS.2.2 dX0_isNameOfLesser_44 hlocks
  exact lp13_1 ((b - 0) + 1) 0 (Nat.lt_succ_self _) (by first | omega | assumption | grind | simp_all) (fun i h => absurd h (Nat.not_lt_zero _)) _ _ _ hP hS (lv_sub hl [2, 3, 1, 0] rfl)

theorem ih_X0_unlikeNamesNow_X0 : ∀ w ∈ wsX00, w ∈ wsX0_unlikeNamesNow := by decide +kernel
set_option maxHeartbeats 4000000 in
set_option maxRecDepth 100000 in
theorem c_X0_unlikeNamesNow (l : Launch) (D : va_G) (cI cL cZ cO : ClassId) (h0 q1 q2 q3 q4 q5 q6 : Nat) (K Y P S O : Nat → Int32) (N : Nat → Int64) (n F : Nat) (hn : n ≤ 30) (hF : F ≤ 16) : Met l yX0_unlikeNamesNow wsX0_unlikeNamesNow ({ frames := 4, cells := 0, slots := 0, locals := 92 }) (va_Pc [.ref h0] (pn_Pr D cI cL cZ cO [(h0, .inr (0, [.ref q1, .ref q2, .ref q3, .ref q4, .ref q5, .ref q6, .int (nI n), .int (nI F)])), (q1, .inl (cI, 30, .inl K)), (q2, .inl (cI, 30, .inl Y)), (q3, .inl (cI, 30, .inl P)), (q4, .inl (cI, 30, .inl S)), (q5, .inl (cI, 30, .inl O)), (q6, .inl (cL, 30, .inr (.inl N)))])) (va_Qi (fun r (_ : Unit) => r = (nI (pn_cnt (fun i => ¬ pn_sit P S O (nI i) n = 0 ∧ ¬ pn_nol K P S O N n i) F))) (fun _ _ => True) pn_No) 0 0 pn_No := by
  refine pn_mk (by decide) rfl (Nat.le_of_ble_eq_true rfl) ?_
  intro p e s m below meth c ls hx hb hr hml hown hts hlocks hK hP hl
  have hown : s.vm.findClass RX0 = some m.cls := hown
  have hS : va_S pn_No s.heap s.heap [] := va_S.rf
  have hl : lv_has ls 3 [(0, .ref h0)] := hl
  refine lv_iconst (v := (nI 0)) hx hb dX0_unlikeNamesNow_0 (by decide) ?_
  refine lv_istore_n (lv' := [(1, .int (nI 0)), (0, .ref h0)]) hx hb dX0_unlikeNamesNow_1 rfl hl (by decide) rfl (fun ls hl => ?_)
  refine lv_iconst (v := (nI 0)) hx hb dX0_unlikeNamesNow_2 (by decide) ?_
  refine lv_istore_n (lv' := [(2, .int (nI 0)), (1, .int (nI 0)), (0, .ref h0)]) hx hb dX0_unlikeNamesNow_3 rfl hl (by decide) rfl (fun ls hl => ?_)
  have lp4_1 : ∀ (fu : Nat) (k : Nat) (f : Nat), F - k < fu → (k ≤ F) → (f = pn_cnt (fun i => ¬ pn_sit P S O (nI i) n = 0 ∧ ¬ pn_nol K P S O N n i) k) → ∀ (H : Heap) (locs : List Loc) (ls : Array Slot), va_P D vwCl [(h0, .inr (0, [.ref q1, .ref q2, .ref q3, .ref q4, .ref q5, .ref q6, .int (nI n), .int (nI F)])), (q1, .inl (cI, 30, .inl K)), (q2, .inl (cI, 30, .inl Y)), (q3, .inl (cI, 30, .inl P)), (q4, .inl (cI, 30, .inl S)), (q5, .inl (cI, 30, .inl O)), (q6, .inl (cL, 30, .inr (.inl N)))] H → va_S pn_No s.heap H locs → lv_has ls 3 [(0, .ref h0), (1, .int (nI f)), (2, .int (nI k))] → W p l e ({ frames := 4, cells := 0, slots := 0, locals := 92 }) s m (List.toArray [.ref h0]) below meth c H locs 0 0 (MQ below (va_Qi (fun r (_ : Unit) => r = (nI (pn_cnt (fun i => ¬ pn_sit P S O (nI i) n = 0 ∧ ¬ pn_nol K P S O N n i) F))) (fun _ _ => True) pn_No) (List.toArray [.ref h0]) s 0 0 pn_No) (F0 m 4 ls []) := by
    intro fu
    induction fu with
    | zero => intro k f hfu; exact absurd hfu (Nat.not_lt_zero _)
    | succ fu ih4_1 =>
      intro k f hfu hk e1 H locs ls hP hS hl
      refine lv_iload_n hx hb dX0_unlikeNamesNow_4 rfl (lv_at hl 2 rfl) ?_
      refine lv_aload_n hx hb dX0_unlikeNamesNow_5 rfl (lv_at hl 0 rfl) ?_
      refine va_get (D := D) (ci := 0) (v := .int (nI F)) (C := RX0) (T := TX0) (N := 8) hx hb hts ih_X0_unlikeNamesNow_X0 hown hK.1 hP 0 rfl rfl 7 (by decide) (hts (.fieldLink RX0 35 "ParishNames$Chronicle" "founded" "I") (by decide +kernel)) (fun _ h9 => h9) rfl dX0_unlikeNamesNow_6 ?_
      refine lv_icmp_ge (tgt := 37) hx hb dX0_unlikeNamesNow_9 (by decide) (fun b9 => ?_) (fun b9 => ?_)
      · have b9 : F ≤ k := (pn_le (by omega) (by omega)).mp (show nI F ≤ nI k from b9)
        refine lv_iload_n hx hb dX0_unlikeNamesNow_37 rfl (lv_at hl 1 rfl) ?_
        exact W.iret hx hb hr (fun t ht hW => ⟨⟨_, (), rfl, (by rw [e1, show k = F by omega]), trivial⟩, hS.F ht⟩) hS.2.2 dX0_unlikeNamesNow_38 hlocks
      · have b9 : ¬ F ≤ k := fun h => (show ¬ nI F ≤ nI k from b9) ((pn_le (by omega) (by omega)).mpr h)
        refine lv_aload_n hx hb dX0_unlikeNamesNow_12 rfl (lv_at hl 0 rfl) ?_
        refine lv_iload_n hx hb dX0_unlikeNamesNow_13 rfl (lv_at hl 2 rfl) ?_
        refine pn_roi (w := [(h0, .inr (0, [.ref q1, .ref q2, .ref q3, .ref q4, .ref q5, .ref q6, .int (nI n), .int (nI F)])), (q1, .inl (cI, 30, .inl K)), (q2, .inl (cI, 30, .inl Y)), (q3, .inl (cI, 30, .inl P)), (q4, .inl (cI, 30, .inl S)), (q5, .inl (cI, 30, .inl O)), (q6, .inl (cL, 30, .inr (.inl N)))]) hP hS (va_runV (As := [.int (nI k)]) (rest := []) ⟨hx, hb, hml, hown, hts⟩ (c_X0_sitesNow l D cI cL cZ cO h0 q1 q2 q3 q4 q5 q6 K Y P S O N n F (nI k) (by first | omega | assumption | grind | simp_all)) (cwV 1 hts gX0_unlikeNamesNow_X0_sitesNow rfl rfl rfl (by decide +kernel) ⟨Nat.le_of_ble_eq_true rfl, Nat.le_of_ble_eq_true rfl⟩) (pn_pv hP hK (q0 := 0) rfl rfl) rfl rfl hl.1 rfl (lv_room (Nat.le_of_ble_eq_true rfl)) dX0_unlikeNamesNow_14 ⟨Nat.le_of_ble_eq_true rfl, Nat.le_of_ble_eq_true rfl⟩) (fun H locs hP hS => ?_)
        refine lv_if_eq (tgt := 31) hx hb dX0_unlikeNamesNow_17 (by decide) (fun b17 => ?_) (fun b17 => ?_)
        · refine lv_iinc (v := (nI (k + 1))) (lv' := [(2, .int (nI (k + 1))), (0, .ref h0), (1, .int (nI f))]) hx hb dX0_unlikeNamesNow_31 hl (k := 2) rfl (nI_add k 1) (by decide) rfl (fun ls hl => ?_)
          refine lv_goto (tgt := 4) hx hb dX0_unlikeNamesNow_34 (by decide) ?_
          exact ih4_1 (k + 1) f (by omega) (by first | omega | assumption | grind | simp_all) (by rw [pn_cnt]; split <;> first | (rw [e1]; done) | exact e1 | (exfalso; grind)) _ _ _ hP hS (lv_sub hl [1, 2, 0] rfl)
        · refine lv_aload_n hx hb dX0_unlikeNamesNow_20 rfl (lv_at hl 0 rfl) ?_
          refine lv_iload_n hx hb dX0_unlikeNamesNow_21 rfl (lv_at hl 2 rfl) ?_
          refine pn_roi (w := [(h0, .inr (0, [.ref q1, .ref q2, .ref q3, .ref q4, .ref q5, .ref q6, .int (nI n), .int (nI F)])), (q1, .inl (cI, 30, .inl K)), (q2, .inl (cI, 30, .inl Y)), (q3, .inl (cI, 30, .inl P)), (q4, .inl (cI, 30, .inl S)), (q5, .inl (cI, 30, .inl O)), (q6, .inl (cL, 30, .inr (.inl N)))]) hP hS (va_runV (As := [.int (nI k)]) (rest := []) ⟨hx, hb, hml, hown, hts⟩ (c_X0_isNameOfLesser l D cI cL cZ cO h0 q1 q2 q3 q4 q5 q6 K Y P S O N n F k (by first | omega | assumption | grind | simp_all) (by first | omega | assumption | grind | simp_all)) (cwV 1 hts gX0_unlikeNamesNow_X0_isNameOfLesser rfl rfl rfl (by decide +kernel) ⟨Nat.le_of_ble_eq_true rfl, Nat.le_of_ble_eq_true rfl⟩) (pn_pv hP hK (q0 := 0) rfl rfl) rfl rfl hl.1 rfl (lv_room (Nat.le_of_ble_eq_true rfl)) dX0_unlikeNamesNow_22 ⟨Nat.le_of_ble_eq_true rfl, Nat.le_of_ble_eq_true rfl⟩) (fun H locs hP hS => ?_)
          refine lv_if_ne (tgt := 31) hx hb dX0_unlikeNamesNow_25 (by decide) (fun b25 => ?_) (fun b25 => ?_)
          · have b25 : pn_nol K P S O N n k := pn_b1.mp b25
            refine lv_iinc (v := (nI (k + 1))) (lv' := [(2, .int (nI (k + 1))), (0, .ref h0), (1, .int (nI f))]) hx hb dX0_unlikeNamesNow_31 hl (k := 2) rfl (nI_add k 1) (by decide) rfl (fun ls hl => ?_)
            refine lv_goto (tgt := 4) hx hb dX0_unlikeNamesNow_34 (by decide) ?_
            exact ih4_1 (k + 1) f (by omega) (by first | omega | assumption | grind | simp_all) (by rw [pn_cnt]; split <;> first | (rw [e1]; done) | exact e1 | (exfalso; grind)) _ _ _ hP hS (lv_sub hl [1, 2, 0] rfl)
          · have b25 : ¬ (pn_nol K P S O N n k) := pn_b0.mp b25
            refine lv_iinc (v := (nI (f + 1))) (lv' := [(1, .int (nI (f + 1))), (0, .ref h0), (2, .int (nI k))]) hx hb dX0_unlikeNamesNow_28 hl (k := 1) rfl (nI_add f 1) (by decide) rfl (fun ls hl => ?_)
            refine lv_iinc (v := (nI (k + 1))) (lv' := [(2, .int (nI (k + 1))), (1, .int (nI (f + 1))), (0, .ref h0)]) hx hb dX0_unlikeNamesNow_31 hl (k := 2) rfl (nI_add k 1) (by decide) rfl (fun ls hl => ?_)
            refine lv_goto (tgt := 4) hx hb dX0_unlikeNamesNow_34 (by decide) ?_
            exact ih4_1 (k + 1) (f + 1) (by omega) (by first | omega | assumption | grind | simp_all) (by rw [pn_cnt]; split <;> first | (rw [e1]; done) | exact e1 | (exfalso; grind)) _ _ _ hP hS (lv_sub hl [2, 1, 0] rfl)
  exact lp4_1 ((F - 0) + 1) 0 0 (Nat.lt_succ_self _) (by first | omega | assumption | grind | simp_all) rfl _ _ _ hP hS (lv_sub hl [2, 1, 0] rfl)
