set_option maxHeartbeats 4000000 in
set_option maxRecDepth 100000 in
theorem c_X1_letterOf (l : Launch) (D : va_G) (cI cL cZ cO : ClassId)  (nm : Int64) (k : Nat) : Met l yX1_letterOf wsX1_letterOf ({ frames := 0, cells := 0, slots := 0, locals := 0 }) (va_Pc [.long nm, .int (nI k)] (pn_Pr D cI cL cZ cO [])) (va_Qi (fun r (_ : Unit) => r = (pn_let nm k)) (fun _ _ => True) pn_No) 0 0 pn_No := by
  refine pn_mk (by decide) rfl (Nat.le_of_ble_eq_true rfl) ?_
  intro p e s m below meth c ls hx hb hr hml hown hts hlocks hK hP hl
  have hown : s.vm.findClass RX1 = some m.cls := hown
  have hS : va_S pn_No s.heap s.heap [] := va_S.rf
  have hl : lv_has ls 3 [(0, .long nm), (2, .int (nI k))] := hl
  refine lv_lload_n hx hb dX1_letterOf_0 rfl (lv_at hl 0 rfl) ?_
  refine lv_bipush (v := (nI 8)) hx hb dX1_letterOf_1 (by decide) ?_
  refine lv_iload_n hx hb dX1_letterOf_3 rfl (lv_at hl 1 rfl) ?_
  refine pn_imul hx hb dX1_letterOf_4 ?_
  refine lv_lushr hx hb dX1_letterOf_5 rfl ?_
  refine lv_l2i hx hb dX1_letterOf_6 rfl ?_
  refine lv_sipush (v := (nI 255)) hx hb dX1_letterOf_7 (by decide) ?_
  refine lv_iand hx hb dX1_letterOf_10 ?_
  exact W.iret hx hb hr (fun t ht hW => ⟨⟨_, (), rfl, rfl, trivial⟩, hS.F ht⟩) hS.2.2 dX1_letterOf_11 hlocks

set_option maxHeartbeats 4000000 in
set_option maxRecDepth 100000 in
theorem c_X1_withLetter (l : Launch) (D : va_G) (cI cL cZ cO : ClassId)  (nm : Int64) (k : Nat) (x : Int32) : Met l yX1_withLetter wsX1_withLetter ({ frames := 0, cells := 0, slots := 0, locals := 0 }) (va_Pc [.long nm, .int (nI k), .int x] (pn_Pr D cI cL cZ cO [])) (va_Ql (fun r (_ : Unit) => r = (pn_wl nm k x)) (fun _ _ => True) pn_No) 0 0 pn_No := by
  refine pn_mk (by decide) rfl (Nat.le_of_ble_eq_true rfl) ?_
  intro p e s m below meth c ls hx hb hr hml hown hts hlocks hK hP hl
  have hown : s.vm.findClass RX1 = some m.cls := hown
  have hS : va_S pn_No s.heap s.heap [] := va_S.rf
  have hl : lv_has ls 4 [(0, .long nm), (2, .int (nI k)), (3, .int x)] := hl
  refine lv_lload_n hx hb dX1_withLetter_0 rfl (lv_at hl 0 rfl) ?_
  refine lv_iload_n hx hb dX1_withLetter_1 rfl (lv_at hl 2 rfl) ?_
  refine lv_i2l hx hb dX1_withLetter_2 rfl ?_
  refine lv_bipush (v := (nI 8)) hx hb dX1_withLetter_3 (by decide) ?_
  refine lv_iload_n hx hb dX1_withLetter_5 rfl (lv_at hl 1 rfl) ?_
  refine pn_imul hx hb dX1_withLetter_6 ?_
  refine lv_lshl hx hb dX1_withLetter_7 rfl ?_
  refine lv_lor hx hb dX1_withLetter_8 ?_
  exact W.lret hx hb hr (fun t ht hW => ⟨⟨_, (), rfl, rfl, trivial⟩, hS.F ht⟩) hS.2.2 dX1_withLetter_9 hlocks

set_option maxHeartbeats 4000000 in
set_option maxRecDepth 100000 in
theorem c_X1_lengthOf (l : Launch) (D : va_G) (cI cL cZ cO : ClassId)  (nm : Int64) : Met l yX1_lengthOf wsX1_lengthOf ({ frames := 1, cells := 0, slots := 0, locals := 22 }) (va_Pc [.long nm] (pn_Pr D cI cL cZ cO [])) (va_Qi (fun r (_ : Unit) => r = (nI (pn_len nm))) (fun _ _ => True) pn_No) 0 0 pn_No := by
  refine pn_mk (by decide) rfl (Nat.le_of_ble_eq_true rfl) ?_
  intro p e s m below meth c ls hx hb hr hml hown hts hlocks hK hP hl
  have hown : s.vm.findClass RX1 = some m.cls := hown
  have hS : va_S pn_No s.heap s.heap [] := va_S.rf
  have hl : lv_has ls 3 [(0, .long nm)] := hl
  refine lv_iconst (v := (nI 0)) hx hb dX1_lengthOf_0 (by decide) ?_
  refine lv_istore_n (lv' := [(2, .int (nI 0)), (0, .long nm)]) hx hb dX1_lengthOf_1 rfl hl (by decide) rfl (fun ls hl => ?_)
  have lp2_1 : ∀ (fu : Nat) (k : Nat), 8 - k < fu → (k ≤ 8) → (∀ i, i < k → ¬ pn_let nm i = 0) → ∀ (H : Heap) (locs : List Loc) (ls : Array Slot), va_P D vwCl [] H → va_S pn_No s.heap H locs → lv_has ls 3 [(0, .long nm), (2, .int (nI k))] → W p l e ({ frames := 1, cells := 0, slots := 0, locals := 22 }) s m (List.toArray [.long nm]) below meth c H locs 0 0 (MQ below (va_Qi (fun r (_ : Unit) => r = (nI (pn_len nm))) (fun _ _ => True) pn_No) (List.toArray [.long nm]) s 0 0 pn_No) (F0 m 2 ls []) := by
    intro fu
    induction fu with
    | zero => intro k hfu; exact absurd hfu (Nat.not_lt_zero _)
    | succ fu ih2_1 =>
      intro k hfu hk hp H locs ls hP hS hl
      refine lv_iload_n hx hb dX1_lengthOf_2 rfl (lv_at hl 1 rfl) ?_
      refine lv_bipush (v := (nI 8)) hx hb dX1_lengthOf_3 (by decide) ?_
      refine lv_icmp_ge (tgt := 22) hx hb dX1_lengthOf_5 (by decide) (fun c_2 => ?_) (fun c_2 => ?_)
      · have c_2 : 8 ≤ k := (pn_le (by omega) (by omega)).mp (show nI 8 ≤ nI k from c_2)
        refine lv_iload_n hx hb dX1_lengthOf_22 rfl (lv_at hl 1 rfl) ?_
        exact W.iret hx hb hr (fun t ht hW => ⟨⟨_, (), rfl, (congrArg nI (pn_cw_eq (fun i h => decide_eq_true (hp i h)) (by omega) (by first | exact Or.inl (by omega) | exact Or.inr (by simp_all))).symm), trivial⟩, hS.F ht⟩) hS.2.2 dX1_lengthOf_23 hlocks
      · have c_2 : ¬ 8 ≤ k := fun h => (show ¬ nI 8 ≤ nI k from c_2) ((pn_le (by omega) (by omega)).mpr h)
        refine lv_lload_n hx hb dX1_lengthOf_8 rfl (lv_at hl 0 rfl) ?_
        refine lv_iload_n hx hb dX1_lengthOf_9 rfl (lv_at hl 1 rfl) ?_
        refine pn_roi (w := []) hP hS (va_runS (As := [.long nm, .int (nI k)]) (rest := []) ⟨hx, hb, hml, hown, hts⟩ (c_X1_letterOf l D cI cL cZ cO nm k) (va_cwS 2 hts gX1_lengthOf_X1_letterOf rfl rfl rfl (by decide +kernel) ⟨Nat.le_of_ble_eq_true rfl, Nat.le_of_ble_eq_true rfl⟩) (pn_ps (WS := []) (fun k q h => by simp at h) hK) rfl rfl hl.1 rfl (lv_room (Nat.le_of_ble_eq_true rfl)) dX1_lengthOf_10 ⟨Nat.le_of_ble_eq_true rfl, Nat.le_of_ble_eq_true rfl⟩) (fun H locs hP hS => ?_)
        refine lv_if_eq (tgt := 22) hx hb dX1_lengthOf_13 (by decide) (fun c_3 => ?_) (fun c_3 => ?_)
        · refine lv_iload_n hx hb dX1_lengthOf_22 rfl (lv_at hl 1 rfl) ?_
          exact W.iret hx hb hr (fun t ht hW => ⟨⟨_, (), rfl, (congrArg nI (pn_cw_eq (fun i h => decide_eq_true (hp i h)) (by omega) (by first | exact Or.inl (by omega) | exact Or.inr (by simp_all))).symm), trivial⟩, hS.F ht⟩) hS.2.2 dX1_lengthOf_23 hlocks
        · refine lv_iinc (v := (nI (k + 1))) (lv' := [(2, .int (nI (k + 1))), (0, .long nm)]) hx hb dX1_lengthOf_16 hl (k := 1) rfl (nI_add k 1) (by decide) rfl (fun ls hl => ?_)
          refine lv_goto (tgt := 2) hx hb dX1_lengthOf_19 (by decide) ?_
          exact ih2_1 (k + 1) (by omega) (by first | assumption | omega | grind | simp_all) (lt_s hp (by assumption)) _ _ _ hP hS (lv_sub hl [1, 0] rfl)
  exact lp2_1 ((8 - 0) + 1) 0 (Nat.lt_succ_self _) (by first | assumption | omega | grind | simp_all) (fun i h => absurd h (Nat.not_lt_zero _)) _ _ _ hP hS (lv_sub hl [1, 0] rfl)

set_option maxHeartbeats 4000000 in
set_option maxRecDepth 100000 in
theorem c_X1_classOf (l : Launch) (D : va_G) (cI cL cZ cO : ClassId)  (x : Int32) : Met l yX1_classOf wsX1_classOf ({ frames := 0, cells := 0, slots := 0, locals := 0 }) (va_Pc [.int x] (pn_Pr D cI cL cZ cO [])) (va_Qi (fun r (_ : Unit) => r = (pn_cls x)) (fun _ _ => True) pn_No) 0 0 pn_No := by
  refine pn_mk (by decide) rfl (Nat.le_of_ble_eq_true rfl) ?_
  intro p e s m below meth c ls hx hb hr hml hown hts hlocks hK hP hl
  have hown : s.vm.findClass RX1 = some m.cls := hown
  have hS : va_S pn_No s.heap s.heap [] := va_S.rf
  have hl : lv_has ls 1 [(0, .int x)] := hl
  refine lv_iload_n hx hb dX1_classOf_0 rfl (lv_at hl 0 rfl) ?_
  rcases pn_sw x (lo := 98) (hi := 122) with c_1 | c_1
  · refine lv_tableOut (tgt := 129) hx hb dX1_classOf_1 c_1 (by decide) ?_
    refine lv_iconst (v := (nI 0)) hx hb dX1_classOf_129 (by decide) ?_
    exact W.iret hx hb hr (fun t ht hW => ⟨⟨_, (), rfl, (by first | exact pn_cls_out (by assumption) | (simp only [*]; decide)), trivial⟩, hS.F ht⟩) hS.2.2 dX1_classOf_130 hlocks
  · obtain ⟨k_1, hk_1, c_1⟩ := c_1
    have hk_1 : k_1 = 98 ∨ k_1 = 99 ∨ k_1 = 100 ∨ k_1 = 101 ∨ k_1 = 102 ∨ k_1 = 103 ∨ k_1 = 104 ∨ k_1 = 105 ∨ k_1 = 106 ∨ k_1 = 107 ∨ k_1 = 108 ∨ k_1 = 109 ∨ k_1 = 110 ∨ k_1 = 111 ∨ k_1 = 112 ∨ k_1 = 113 ∨ k_1 = 114 ∨ k_1 = 115 ∨ k_1 = 116 ∨ k_1 = 117 ∨ k_1 = 118 ∨ k_1 = 119 ∨ k_1 = 120 ∨ k_1 = 121 ∨ k_1 = 122 := by omega
    rcases hk_1 with rfl | rfl | rfl | rfl | rfl | rfl | rfl | rfl | rfl | rfl | rfl | rfl | rfl | rfl | rfl | rfl | rfl | rfl | rfl | rfl | rfl | rfl | rfl | rfl | rfl
    · refine lv_tableIn (tgt := 116) hx hb dX1_classOf_1 (by rw [c_1]; decide) (by rw [c_1]; decide) (by rw [c_1]; rfl) (by decide) ?_
      have c_1 : x = 98 := pn_swe c_1 (by decide)
      refine lv_iconst (v := (nI 1)) hx hb dX1_classOf_116 (by decide) ?_
      exact W.iret hx hb hr (fun t ht hW => ⟨⟨_, (), rfl, (by first | exact pn_cls_out (by assumption) | (simp only [*]; decide)), trivial⟩, hS.F ht⟩) hS.2.2 dX1_classOf_117 hlocks
    · refine lv_tableIn (tgt := 118) hx hb dX1_classOf_1 (by rw [c_1]; decide) (by rw [c_1]; decide) (by rw [c_1]; rfl) (by decide) ?_
      have c_1 : x = 99 := pn_swe c_1 (by decide)
      refine lv_iconst (v := (nI 2)) hx hb dX1_classOf_118 (by decide) ?_
      exact W.iret hx hb hr (fun t ht hW => ⟨⟨_, (), rfl, (by first | exact pn_cls_out (by assumption) | (simp only [*]; decide)), trivial⟩, hS.F ht⟩) hS.2.2 dX1_classOf_119 hlocks
    · refine lv_tableIn (tgt := 120) hx hb dX1_classOf_1 (by rw [c_1]; decide) (by rw [c_1]; decide) (by rw [c_1]; rfl) (by decide) ?_
      have c_1 : x = 100 := pn_swe c_1 (by decide)
      refine lv_iconst (v := (nI 3)) hx hb dX1_classOf_120 (by decide) ?_
      exact W.iret hx hb hr (fun t ht hW => ⟨⟨_, (), rfl, (by first | exact pn_cls_out (by assumption) | (simp only [*]; decide)), trivial⟩, hS.F ht⟩) hS.2.2 dX1_classOf_121 hlocks
    · refine lv_tableIn (tgt := 129) hx hb dX1_classOf_1 (by rw [c_1]; decide) (by rw [c_1]; decide) (by rw [c_1]; rfl) (by decide) ?_
      have c_1 : x = 101 := pn_swe c_1 (by decide)
      refine lv_iconst (v := (nI 0)) hx hb dX1_classOf_129 (by decide) ?_
      exact W.iret hx hb hr (fun t ht hW => ⟨⟨_, (), rfl, (by first | exact pn_cls_out (by assumption) | (simp only [*]; decide)), trivial⟩, hS.F ht⟩) hS.2.2 dX1_classOf_130 hlocks
    · refine lv_tableIn (tgt := 116) hx hb dX1_classOf_1 (by rw [c_1]; decide) (by rw [c_1]; decide) (by rw [c_1]; rfl) (by decide) ?_
      have c_1 : x = 102 := pn_swe c_1 (by decide)
      refine lv_iconst (v := (nI 1)) hx hb dX1_classOf_116 (by decide) ?_
      exact W.iret hx hb hr (fun t ht hW => ⟨⟨_, (), rfl, (by first | exact pn_cls_out (by assumption) | (simp only [*]; decide)), trivial⟩, hS.F ht⟩) hS.2.2 dX1_classOf_117 hlocks
    · refine lv_tableIn (tgt := 118) hx hb dX1_classOf_1 (by rw [c_1]; decide) (by rw [c_1]; decide) (by rw [c_1]; rfl) (by decide) ?_
      have c_1 : x = 103 := pn_swe c_1 (by decide)
      refine lv_iconst (v := (nI 2)) hx hb dX1_classOf_118 (by decide) ?_
      exact W.iret hx hb hr (fun t ht hW => ⟨⟨_, (), rfl, (by first | exact pn_cls_out (by assumption) | (simp only [*]; decide)), trivial⟩, hS.F ht⟩) hS.2.2 dX1_classOf_119 hlocks
    · refine lv_tableIn (tgt := 129) hx hb dX1_classOf_1 (by rw [c_1]; decide) (by rw [c_1]; decide) (by rw [c_1]; rfl) (by decide) ?_
      have c_1 : x = 104 := pn_swe c_1 (by decide)
      refine lv_iconst (v := (nI 0)) hx hb dX1_classOf_129 (by decide) ?_
      exact W.iret hx hb hr (fun t ht hW => ⟨⟨_, (), rfl, (by first | exact pn_cls_out (by assumption) | (simp only [*]; decide)), trivial⟩, hS.F ht⟩) hS.2.2 dX1_classOf_130 hlocks
    · refine lv_tableIn (tgt := 129) hx hb dX1_classOf_1 (by rw [c_1]; decide) (by rw [c_1]; decide) (by rw [c_1]; rfl) (by decide) ?_
      have c_1 : x = 105 := pn_swe c_1 (by decide)
      refine lv_iconst (v := (nI 0)) hx hb dX1_classOf_129 (by decide) ?_
      exact W.iret hx hb hr (fun t ht hW => ⟨⟨_, (), rfl, (by first | exact pn_cls_out (by assumption) | (simp only [*]; decide)), trivial⟩, hS.F ht⟩) hS.2.2 dX1_classOf_130 hlocks
    · refine lv_tableIn (tgt := 118) hx hb dX1_classOf_1 (by rw [c_1]; decide) (by rw [c_1]; decide) (by rw [c_1]; rfl) (by decide) ?_
      have c_1 : x = 106 := pn_swe c_1 (by decide)
      refine lv_iconst (v := (nI 2)) hx hb dX1_classOf_118 (by decide) ?_
      exact W.iret hx hb hr (fun t ht hW => ⟨⟨_, (), rfl, (by first | exact pn_cls_out (by assumption) | (simp only [*]; decide)), trivial⟩, hS.F ht⟩) hS.2.2 dX1_classOf_119 hlocks
    · refine lv_tableIn (tgt := 118) hx hb dX1_classOf_1 (by rw [c_1]; decide) (by rw [c_1]; decide) (by rw [c_1]; rfl) (by decide) ?_
      have c_1 : x = 107 := pn_swe c_1 (by decide)
      refine lv_iconst (v := (nI 2)) hx hb dX1_classOf_118 (by decide) ?_
      exact W.iret hx hb hr (fun t ht hW => ⟨⟨_, (), rfl, (by first | exact pn_cls_out (by assumption) | (simp only [*]; decide)), trivial⟩, hS.F ht⟩) hS.2.2 dX1_classOf_119 hlocks
    · refine lv_tableIn (tgt := 122) hx hb dX1_classOf_1 (by rw [c_1]; decide) (by rw [c_1]; decide) (by rw [c_1]; rfl) (by decide) ?_
      have c_1 : x = 108 := pn_swe c_1 (by decide)
      refine lv_iconst (v := (nI 4)) hx hb dX1_classOf_122 (by decide) ?_
      exact W.iret hx hb hr (fun t ht hW => ⟨⟨_, (), rfl, (by first | exact pn_cls_out (by assumption) | (simp only [*]; decide)), trivial⟩, hS.F ht⟩) hS.2.2 dX1_classOf_123 hlocks
    · refine lv_tableIn (tgt := 124) hx hb dX1_classOf_1 (by rw [c_1]; decide) (by rw [c_1]; decide) (by rw [c_1]; rfl) (by decide) ?_
      have c_1 : x = 109 := pn_swe c_1 (by decide)
      refine lv_iconst (v := (nI 5)) hx hb dX1_classOf_124 (by decide) ?_
      exact W.iret hx hb hr (fun t ht hW => ⟨⟨_, (), rfl, (by first | exact pn_cls_out (by assumption) | (simp only [*]; decide)), trivial⟩, hS.F ht⟩) hS.2.2 dX1_classOf_125 hlocks
    · refine lv_tableIn (tgt := 124) hx hb dX1_classOf_1 (by rw [c_1]; decide) (by rw [c_1]; decide) (by rw [c_1]; rfl) (by decide) ?_
      have c_1 : x = 110 := pn_swe c_1 (by decide)
      refine lv_iconst (v := (nI 5)) hx hb dX1_classOf_124 (by decide) ?_
      exact W.iret hx hb hr (fun t ht hW => ⟨⟨_, (), rfl, (by first | exact pn_cls_out (by assumption) | (simp only [*]; decide)), trivial⟩, hS.F ht⟩) hS.2.2 dX1_classOf_125 hlocks
    · refine lv_tableIn (tgt := 129) hx hb dX1_classOf_1 (by rw [c_1]; decide) (by rw [c_1]; decide) (by rw [c_1]; rfl) (by decide) ?_
      have c_1 : x = 111 := pn_swe c_1 (by decide)
      refine lv_iconst (v := (nI 0)) hx hb dX1_classOf_129 (by decide) ?_
      exact W.iret hx hb hr (fun t ht hW => ⟨⟨_, (), rfl, (by first | exact pn_cls_out (by assumption) | (simp only [*]; decide)), trivial⟩, hS.F ht⟩) hS.2.2 dX1_classOf_130 hlocks
    · refine lv_tableIn (tgt := 116) hx hb dX1_classOf_1 (by rw [c_1]; decide) (by rw [c_1]; decide) (by rw [c_1]; rfl) (by decide) ?_
      have c_1 : x = 112 := pn_swe c_1 (by decide)
      refine lv_iconst (v := (nI 1)) hx hb dX1_classOf_116 (by decide) ?_
      exact W.iret hx hb hr (fun t ht hW => ⟨⟨_, (), rfl, (by first | exact pn_cls_out (by assumption) | (simp only [*]; decide)), trivial⟩, hS.F ht⟩) hS.2.2 dX1_classOf_117 hlocks
    · refine lv_tableIn (tgt := 118) hx hb dX1_classOf_1 (by rw [c_1]; decide) (by rw [c_1]; decide) (by rw [c_1]; rfl) (by decide) ?_
      have c_1 : x = 113 := pn_swe c_1 (by decide)
      refine lv_iconst (v := (nI 2)) hx hb dX1_classOf_118 (by decide) ?_
      exact W.iret hx hb hr (fun t ht hW => ⟨⟨_, (), rfl, (by first | exact pn_cls_out (by assumption) | (simp only [*]; decide)), trivial⟩, hS.F ht⟩) hS.2.2 dX1_classOf_119 hlocks
    · refine lv_tableIn (tgt := 126) hx hb dX1_classOf_1 (by rw [c_1]; decide) (by rw [c_1]; decide) (by rw [c_1]; rfl) (by decide) ?_
      have c_1 : x = 114 := pn_swe c_1 (by decide)
      refine lv_bipush (v := (nI 6)) hx hb dX1_classOf_126 (by decide) ?_
      exact W.iret hx hb hr (fun t ht hW => ⟨⟨_, (), rfl, (by first | exact pn_cls_out (by assumption) | (simp only [*]; decide)), trivial⟩, hS.F ht⟩) hS.2.2 dX1_classOf_128 hlocks
    · refine lv_tableIn (tgt := 118) hx hb dX1_classOf_1 (by rw [c_1]; decide) (by rw [c_1]; decide) (by rw [c_1]; rfl) (by decide) ?_
      have c_1 : x = 115 := pn_swe c_1 (by decide)
      refine lv_iconst (v := (nI 2)) hx hb dX1_classOf_118 (by decide) ?_
      exact W.iret hx hb hr (fun t ht hW => ⟨⟨_, (), rfl, (by first | exact pn_cls_out (by assumption) | (simp only [*]; decide)), trivial⟩, hS.F ht⟩) hS.2.2 dX1_classOf_119 hlocks
    · refine lv_tableIn (tgt := 120) hx hb dX1_classOf_1 (by rw [c_1]; decide) (by rw [c_1]; decide) (by rw [c_1]; rfl) (by decide) ?_
      have c_1 : x = 116 := pn_swe c_1 (by decide)
      refine lv_iconst (v := (nI 3)) hx hb dX1_classOf_120 (by decide) ?_
      exact W.iret hx hb hr (fun t ht hW => ⟨⟨_, (), rfl, (by first | exact pn_cls_out (by assumption) | (simp only [*]; decide)), trivial⟩, hS.F ht⟩) hS.2.2 dX1_classOf_121 hlocks
    · refine lv_tableIn (tgt := 129) hx hb dX1_classOf_1 (by rw [c_1]; decide) (by rw [c_1]; decide) (by rw [c_1]; rfl) (by decide) ?_
      have c_1 : x = 117 := pn_swe c_1 (by decide)
      refine lv_iconst (v := (nI 0)) hx hb dX1_classOf_129 (by decide) ?_
      exact W.iret hx hb hr (fun t ht hW => ⟨⟨_, (), rfl, (by first | exact pn_cls_out (by assumption) | (simp only [*]; decide)), trivial⟩, hS.F ht⟩) hS.2.2 dX1_classOf_130 hlocks
    · refine lv_tableIn (tgt := 116) hx hb dX1_classOf_1 (by rw [c_1]; decide) (by rw [c_1]; decide) (by rw [c_1]; rfl) (by decide) ?_
      have c_1 : x = 118 := pn_swe c_1 (by decide)
      refine lv_iconst (v := (nI 1)) hx hb dX1_classOf_116 (by decide) ?_
      exact W.iret hx hb hr (fun t ht hW => ⟨⟨_, (), rfl, (by first | exact pn_cls_out (by assumption) | (simp only [*]; decide)), trivial⟩, hS.F ht⟩) hS.2.2 dX1_classOf_117 hlocks
    · refine lv_tableIn (tgt := 129) hx hb dX1_classOf_1 (by rw [c_1]; decide) (by rw [c_1]; decide) (by rw [c_1]; rfl) (by decide) ?_
      have c_1 : x = 119 := pn_swe c_1 (by decide)
      refine lv_iconst (v := (nI 0)) hx hb dX1_classOf_129 (by decide) ?_
      exact W.iret hx hb hr (fun t ht hW => ⟨⟨_, (), rfl, (by first | exact pn_cls_out (by assumption) | (simp only [*]; decide)), trivial⟩, hS.F ht⟩) hS.2.2 dX1_classOf_130 hlocks
    · refine lv_tableIn (tgt := 118) hx hb dX1_classOf_1 (by rw [c_1]; decide) (by rw [c_1]; decide) (by rw [c_1]; rfl) (by decide) ?_
      have c_1 : x = 120 := pn_swe c_1 (by decide)
      refine lv_iconst (v := (nI 2)) hx hb dX1_classOf_118 (by decide) ?_
      exact W.iret hx hb hr (fun t ht hW => ⟨⟨_, (), rfl, (by first | exact pn_cls_out (by assumption) | (simp only [*]; decide)), trivial⟩, hS.F ht⟩) hS.2.2 dX1_classOf_119 hlocks
    · refine lv_tableIn (tgt := 129) hx hb dX1_classOf_1 (by rw [c_1]; decide) (by rw [c_1]; decide) (by rw [c_1]; rfl) (by decide) ?_
      have c_1 : x = 121 := pn_swe c_1 (by decide)
      refine lv_iconst (v := (nI 0)) hx hb dX1_classOf_129 (by decide) ?_
      exact W.iret hx hb hr (fun t ht hW => ⟨⟨_, (), rfl, (by first | exact pn_cls_out (by assumption) | (simp only [*]; decide)), trivial⟩, hS.F ht⟩) hS.2.2 dX1_classOf_130 hlocks
    · refine lv_tableIn (tgt := 118) hx hb dX1_classOf_1 (by rw [c_1]; decide) (by rw [c_1]; decide) (by rw [c_1]; rfl) (by decide) ?_
      have c_1 : x = 122 := pn_swe c_1 (by decide)
      refine lv_iconst (v := (nI 2)) hx hb dX1_classOf_118 (by decide) ?_
      exact W.iret hx hb hr (fun t ht hW => ⟨⟨_, (), rfl, (by first | exact pn_cls_out (by assumption) | (simp only [*]; decide)), trivial⟩, hS.F ht⟩) hS.2.2 dX1_classOf_119 hlocks

set_option maxHeartbeats 4000000 in
set_option maxRecDepth 100000 in
theorem c_X1_classOfSound (l : Launch) (D : va_G) (cI cL cZ cO : ClassId)  (h : Int32) (k : Nat) : Met l yX1_classOfSound wsX1_classOfSound ({ frames := 0, cells := 0, slots := 0, locals := 0 }) (va_Pc [.int h, .int (nI k)] (pn_Pr D cI cL cZ cO [])) (va_Qi (fun r (_ : Unit) => r = (pn_cs h k)) (fun _ _ => True) pn_No) 0 0 pn_No := by
  refine pn_mk (by decide) rfl (Nat.le_of_ble_eq_true rfl) ?_
  intro p e s m below meth c ls hx hb hr hml hown hts hlocks hK hP hl
  have hown : s.vm.findClass RX1 = some m.cls := hown
  have hS : va_S pn_No s.heap s.heap [] := va_S.rf
  have hl : lv_has ls 2 [(0, .int h), (1, .int (nI k))] := hl
  refine lv_iload_n hx hb dX1_classOfSound_0 rfl (lv_at hl 0 rfl) ?_
  refine lv_iconst (v := (nI 4)) hx hb dX1_classOfSound_1 (by decide) ?_
  refine lv_iload_n hx hb dX1_classOfSound_2 rfl (lv_at hl 1 rfl) ?_
  refine pn_imul hx hb dX1_classOfSound_3 ?_
  refine lv_iushr hx hb dX1_classOfSound_4 rfl ?_
  refine lv_bipush (v := (nI 15)) hx hb dX1_classOfSound_5 (by decide) ?_
  refine lv_iand hx hb dX1_classOfSound_7 ?_
  refine lv_iconst (v := (nI 1)) hx hb dX1_classOfSound_8 (by decide) ?_
  refine lv_isub hx hb dX1_classOfSound_9 ?_
  exact W.iret hx hb hr (fun t ht hW => ⟨⟨_, (), rfl, rfl, trivial⟩, hS.F ht⟩) hS.2.2 dX1_classOfSound_10 hlocks

set_option maxHeartbeats 4000000 in
set_option maxRecDepth 100000 in
theorem c_X1_lengthOfSound (l : Launch) (D : va_G) (cI cL cZ cO : ClassId)  (h : Int32) : Met l yX1_lengthOfSound wsX1_lengthOfSound ({ frames := 1, cells := 0, slots := 0, locals := 21 }) (va_Pc [.int h] (pn_Pr D cI cL cZ cO [])) (va_Qi (fun r (_ : Unit) => r = (nI (pn_lsd h))) (fun _ _ => True) pn_No) 0 0 pn_No := by
  refine pn_mk (by decide) rfl (Nat.le_of_ble_eq_true rfl) ?_
  intro p e s m below meth c ls hx hb hr hml hown hts hlocks hK hP hl
  have hown : s.vm.findClass RX1 = some m.cls := hown
  have hS : va_S pn_No s.heap s.heap [] := va_S.rf
  have hl : lv_has ls 2 [(0, .int h)] := hl
  refine lv_iconst (v := (nI 0)) hx hb dX1_lengthOfSound_0 (by decide) ?_
  refine lv_istore_n (lv' := [(1, .int (nI 0)), (0, .int h)]) hx hb dX1_lengthOfSound_1 rfl hl (by decide) rfl (fun ls hl => ?_)
  have lp2_1 : ∀ (fu : Nat) (k : Nat), 4 - k < fu → (k ≤ 4) → (∀ i, i < k → ¬ pn_cs h i < 0) → ∀ (H : Heap) (locs : List Loc) (ls : Array Slot), va_P D vwCl [] H → va_S pn_No s.heap H locs → lv_has ls 2 [(0, .int h), (1, .int (nI k))] → W p l e ({ frames := 1, cells := 0, slots := 0, locals := 21 }) s m (List.toArray [.int h]) below meth c H locs 0 0 (MQ below (va_Qi (fun r (_ : Unit) => r = (nI (pn_lsd h))) (fun _ _ => True) pn_No) (List.toArray [.int h]) s 0 0 pn_No) (F0 m 2 ls []) := by
    intro fu
    induction fu with
    | zero => intro k hfu; exact absurd hfu (Nat.not_lt_zero _)
    | succ fu ih2_1 =>
      intro k hfu hk hp H locs ls hP hS hl
      refine lv_iload_n hx hb dX1_lengthOfSound_2 rfl (lv_at hl 1 rfl) ?_
      refine lv_iconst (v := (nI 4)) hx hb dX1_lengthOfSound_3 (by decide) ?_
      refine lv_icmp_ge (tgt := 21) hx hb dX1_lengthOfSound_4 (by decide) (fun c_2 => ?_) (fun c_2 => ?_)
      · have c_2 : 4 ≤ k := (pn_le (by omega) (by omega)).mp (show nI 4 ≤ nI k from c_2)
        refine lv_iload_n hx hb dX1_lengthOfSound_21 rfl (lv_at hl 1 rfl) ?_
        exact W.iret hx hb hr (fun t ht hW => ⟨⟨_, (), rfl, (congrArg nI (pn_cw_eq (fun i h => decide_eq_true (hp i h)) (by omega) (by first | exact Or.inl (by omega) | exact Or.inr (by simp_all))).symm), trivial⟩, hS.F ht⟩) hS.2.2 dX1_lengthOfSound_22 hlocks
      · have c_2 : ¬ 4 ≤ k := fun h => (show ¬ nI 4 ≤ nI k from c_2) ((pn_le (by omega) (by omega)).mpr h)
        refine lv_iload_n hx hb dX1_lengthOfSound_7 rfl (lv_at hl 0 rfl) ?_
        refine lv_iload_n hx hb dX1_lengthOfSound_8 rfl (lv_at hl 1 rfl) ?_
        refine pn_roi (w := []) hP hS (va_runS (As := [.int h, .int (nI k)]) (rest := []) ⟨hx, hb, hml, hown, hts⟩ (c_X1_classOfSound l D cI cL cZ cO h k) (va_cwS 2 hts gX1_lengthOfSound_X1_classOfSound rfl rfl rfl (by decide +kernel) ⟨Nat.le_of_ble_eq_true rfl, Nat.le_of_ble_eq_true rfl⟩) (pn_ps (WS := []) (fun k q h => by simp at h) hK) rfl rfl hl.1 rfl (lv_room (Nat.le_of_ble_eq_true rfl)) dX1_lengthOfSound_9 ⟨Nat.le_of_ble_eq_true rfl, Nat.le_of_ble_eq_true rfl⟩) (fun H locs hP hS => ?_)
        refine lv_if_lt (tgt := 21) hx hb dX1_lengthOfSound_12 (by decide) (fun c_3 => ?_) (fun c_3 => ?_)
        · refine lv_iload_n hx hb dX1_lengthOfSound_21 rfl (lv_at hl 1 rfl) ?_
          exact W.iret hx hb hr (fun t ht hW => ⟨⟨_, (), rfl, (congrArg nI (pn_cw_eq (fun i h => decide_eq_true (hp i h)) (by omega) (by first | exact Or.inl (by omega) | exact Or.inr (by simp_all))).symm), trivial⟩, hS.F ht⟩) hS.2.2 dX1_lengthOfSound_22 hlocks
        · refine lv_iinc (v := (nI (k + 1))) (lv' := [(1, .int (nI (k + 1))), (0, .int h)]) hx hb dX1_lengthOfSound_15 hl (k := 1) rfl (nI_add k 1) (by decide) rfl (fun ls hl => ?_)
          refine lv_goto (tgt := 2) hx hb dX1_lengthOfSound_18 (by decide) ?_
          exact ih2_1 (k + 1) (by omega) (by first | assumption | omega | grind | simp_all) (lt_s hp (by assumption)) _ _ _ hP hS (lv_sub hl [1, 0] rfl)
  exact lp2_1 ((4 - 0) + 1) 0 (Nat.lt_succ_self _) (by first | assumption | omega | grind | simp_all) (fun i h => absurd h (Nat.not_lt_zero _)) _ _ _ hP hS (lv_sub hl [1, 0] rfl)

set_option maxHeartbeats 4000000 in
set_option maxRecDepth 100000 in
theorem c_X1_soundOf (l : Launch) (D : va_G) (cI cL cZ cO : ClassId)  (nm : Int64) : Met l yX1_soundOf wsX1_soundOf ({ frames := 2, cells := 0, slots := 0, locals := 44 }) (va_Pc [.long nm] (pn_Pr D cI cL cZ cO [])) (va_Qi (fun r (_ : Unit) => r = (pn_snd nm)) (fun _ _ => True) pn_No) 0 0 pn_No := by
  refine pn_mk (by decide) rfl (Nat.le_of_ble_eq_true rfl) ?_
  intro p e s m below meth c ls hx hb hr hml hown hts hlocks hK hP hl
  have hown : s.vm.findClass RX1 = some m.cls := hown
  have hS : va_S pn_No s.heap s.heap [] := va_S.rf
  have hl : lv_has ls 8 [(0, .long nm)] := hl
  refine lv_lload_n hx hb dX1_soundOf_0 rfl (lv_at hl 0 rfl) ?_
  refine lv_iconst (v := (nI 0)) hx hb dX1_soundOf_1 (by decide) ?_
  refine pn_roi (w := []) hP hS (va_runS (As := [.long nm, .int (nI 0)]) (rest := []) ⟨hx, hb, hml, hown, hts⟩ (c_X1_letterOf l D cI cL cZ cO nm 0) (va_cwS 2 hts gX1_soundOf_X1_letterOf rfl rfl rfl (by decide +kernel) ⟨Nat.le_of_ble_eq_true rfl, Nat.le_of_ble_eq_true rfl⟩) (pn_ps (WS := []) (fun k q h => by simp at h) hK) rfl rfl hl.1 rfl (lv_room (Nat.le_of_ble_eq_true rfl)) dX1_soundOf_2 ⟨Nat.le_of_ble_eq_true rfl, Nat.le_of_ble_eq_true rfl⟩) (fun H locs hP hS => ?_)
  refine pn_roi (w := []) hP hS (va_runS (As := [.int (pn_let nm 0)]) (rest := []) ⟨hx, hb, hml, hown, hts⟩ (c_X1_classOf l D cI cL cZ cO (pn_let nm 0)) (va_cwS 1 hts gX1_soundOf_X1_classOf rfl rfl rfl (by decide +kernel) ⟨Nat.le_of_ble_eq_true rfl, Nat.le_of_ble_eq_true rfl⟩) (pn_ps (WS := []) (fun k q h => by simp at h) hK) rfl rfl hl.1 rfl (lv_room (Nat.le_of_ble_eq_true rfl)) dX1_soundOf_5 ⟨Nat.le_of_ble_eq_true rfl, Nat.le_of_ble_eq_true rfl⟩) (fun H locs hP hS => ?_)
  refine lv_istore_n (lv' := [(2, .int (pn_cls (pn_let nm 0))), (0, .long nm)]) hx hb dX1_soundOf_8 rfl hl (by decide) rfl (fun ls hl => ?_)
  refine lv_iload_n hx hb dX1_soundOf_9 rfl (lv_at hl 0 rfl) ?_
  refine lv_iconst (v := (nI 1)) hx hb dX1_soundOf_10 (by decide) ?_
  refine lv_iadd hx hb dX1_soundOf_11 ?_
  refine lv_istore_n (lv' := [(3, .int ((pn_cls (pn_let nm 0)) + (nI 1))), (2, .int (pn_cls (pn_let nm 0))), (0, .long nm)]) hx hb dX1_soundOf_12 rfl hl (by decide) rfl (fun ls hl => ?_)
  refine lv_iconst (v := (nI 1)) hx hb dX1_soundOf_13 (by decide) ?_
  refine lv_istore (lv' := [(4, .int (nI 1)), (3, .int ((pn_cls (pn_let nm 0)) + (nI 1))), (2, .int (pn_cls (pn_let nm 0))), (0, .long nm)]) hx hb dX1_soundOf_14 hl (by decide) rfl (fun ls hl => ?_)
  refine lv_lload_n hx hb dX1_soundOf_16 rfl (lv_at hl 3 rfl) ?_
  refine pn_roi (w := []) hP hS (va_runS (As := [.long nm]) (rest := []) ⟨hx, hb, hml, hown, hts⟩ (c_X1_lengthOf l D cI cL cZ cO nm) (va_cwS 1 hts gX1_soundOf_X1_lengthOf rfl rfl rfl (by decide +kernel) ⟨Nat.le_of_ble_eq_true rfl, Nat.le_of_ble_eq_true rfl⟩) (pn_ps (WS := []) (fun k q h => by simp at h) hK) rfl rfl hl.1 rfl (lv_room (Nat.le_of_ble_eq_true rfl)) dX1_soundOf_17 ⟨Nat.le_of_ble_eq_true rfl, Nat.le_of_ble_eq_true rfl⟩) (fun H locs hP hS => ?_)
  refine lv_istore (lv' := [(5, .int (nI (pn_len nm))), (4, .int (nI 1)), (3, .int ((pn_cls (pn_let nm 0)) + (nI 1))), (2, .int (pn_cls (pn_let nm 0))), (0, .long nm)]) hx hb dX1_soundOf_20 hl (by decide) rfl (fun ls hl => ?_)
  refine lv_iconst (v := (nI 1)) hx hb dX1_soundOf_22 (by decide) ?_
  refine lv_istore (lv' := [(6, .int (nI 1)), (5, .int (nI (pn_len nm))), (4, .int (nI 1)), (3, .int ((pn_cls (pn_let nm 0)) + (nI 1))), (2, .int (pn_cls (pn_let nm 0))), (0, .long nm)]) hx hb dX1_soundOf_23 hl (by decide) rfl (fun ls hl => ?_)
  have lp25_1 : ∀ (fu : Nat) (j : Nat) (bf : Int32) (hd : Int32) (ct : Nat), 9 - j < fu → (j + 1 ≤ pn_len nm ∨ j = 0) → (bf = pn_cls (pn_let nm j)) → (hd = (pn_sd nm j).1) → (ct = (pn_sd nm j).2) → ∀ (H : Heap) (locs : List Loc) (ls : Array Slot), va_P D vwCl [] H → va_S pn_No s.heap H locs → lv_has ls 8 [(0, .long nm), (2, .int bf), (3, .int hd), (4, .int (nI ct)), (5, .int (nI (pn_len nm))), (6, .int (nI (j + 1)))] → W p l e ({ frames := 2, cells := 0, slots := 0, locals := 44 }) s m (List.toArray [.long nm]) below meth c H locs 0 0 (MQ below (va_Qi (fun r (_ : Unit) => r = (pn_snd nm)) (fun _ _ => True) pn_No) (List.toArray [.long nm]) s 0 0 pn_No) (F0 m 25 ls []) := by
    intro fu
    induction fu with
    | zero => intro j bf hd ct hfu; exact absurd hfu (Nat.not_lt_zero _)
    | succ fu ih25_1 =>
      intro j bf hd ct hfu hk e1 e2 e3 H locs ls hP hS hl
      have h8 := pn_len8 nm
      have h4 := pn_sd4 nm j
      refine lv_iload hx hb dX1_soundOf_25 (lv_at hl 5 rfl) ?_
      refine lv_iload hx hb dX1_soundOf_27 (lv_at hl 4 rfl) ?_
      refine lv_icmp_ge (tgt := 84) hx hb dX1_soundOf_29 (by decide) (fun c_2 => ?_) (fun c_2 => ?_)
      · have c_2 : (pn_len nm) ≤ (j + 1) := (pn_le (by omega) (by omega)).mp (show nI (pn_len nm) ≤ nI (j + 1) from c_2)
        refine lv_iload_n hx hb dX1_soundOf_84 rfl (lv_at hl 2 rfl) ?_
        exact W.iret hx hb hr (fun t ht hW => ⟨⟨_, (), rfl, (by rw [e2]; unfold pn_snd; first | (rw [show pn_len nm - 1 = j by omega]) | (have hs := pn_sd_stop nm (j := j) (by omega) (pn_len nm - 1 - j); rw [show j + (pn_len nm - 1 - j) = pn_len nm - 1 by omega] at hs; rw [hs])), trivial⟩, hS.F ht⟩) hS.2.2 dX1_soundOf_85 hlocks
      · have c_2 : ¬ (pn_len nm) ≤ (j + 1) := fun h => (show ¬ nI (pn_len nm) ≤ nI (j + 1) from c_2) ((pn_le (by omega) (by omega)).mpr h)
        refine lv_iload hx hb dX1_soundOf_32 (lv_at hl 3 rfl) ?_
        refine lv_iconst (v := (nI 4)) hx hb dX1_soundOf_34 (by decide) ?_
        refine lv_icmp_ge (tgt := 84) hx hb dX1_soundOf_35 (by decide) (fun c_3 => ?_) (fun c_3 => ?_)
        · have c_3 : 4 ≤ ct := (pn_le (by omega) (by omega)).mp (show nI 4 ≤ nI ct from c_3)
          refine lv_iload_n hx hb dX1_soundOf_84 rfl (lv_at hl 2 rfl) ?_
          exact W.iret hx hb hr (fun t ht hW => ⟨⟨_, (), rfl, (by rw [e2]; unfold pn_snd; first | (rw [show pn_len nm - 1 = j by omega]) | (have hs := pn_sd_stop nm (j := j) (by omega) (pn_len nm - 1 - j); rw [show j + (pn_len nm - 1 - j) = pn_len nm - 1 by omega] at hs; rw [hs])), trivial⟩, hS.F ht⟩) hS.2.2 dX1_soundOf_85 hlocks
        · have c_3 : ¬ 4 ≤ ct := fun h => (show ¬ nI 4 ≤ nI ct from c_3) ((pn_le (by omega) (by omega)).mpr h)
          refine lv_lload_n hx hb dX1_soundOf_38 rfl (lv_at hl 0 rfl) ?_
          refine lv_iload hx hb dX1_soundOf_39 (lv_at hl 5 rfl) ?_
          refine pn_roi (w := []) hP hS (va_runS (As := [.long nm, .int (nI (j + 1))]) (rest := []) ⟨hx, hb, hml, hown, hts⟩ (c_X1_letterOf l D cI cL cZ cO nm (j + 1)) (va_cwS 2 hts gX1_soundOf_X1_letterOf rfl rfl rfl (by decide +kernel) ⟨Nat.le_of_ble_eq_true rfl, Nat.le_of_ble_eq_true rfl⟩) (pn_ps (WS := []) (fun k q h => by simp at h) hK) rfl rfl hl.1 rfl (lv_room (Nat.le_of_ble_eq_true rfl)) dX1_soundOf_41 ⟨Nat.le_of_ble_eq_true rfl, Nat.le_of_ble_eq_true rfl⟩) (fun H locs hP hS => ?_)
          refine pn_roi (w := []) hP hS (va_runS (As := [.int (pn_let nm (j + 1))]) (rest := []) ⟨hx, hb, hml, hown, hts⟩ (c_X1_classOf l D cI cL cZ cO (pn_let nm (j + 1))) (va_cwS 1 hts gX1_soundOf_X1_classOf rfl rfl rfl (by decide +kernel) ⟨Nat.le_of_ble_eq_true rfl, Nat.le_of_ble_eq_true rfl⟩) (pn_ps (WS := []) (fun k q h => by simp at h) hK) rfl rfl hl.1 rfl (lv_room (Nat.le_of_ble_eq_true rfl)) dX1_soundOf_44 ⟨Nat.le_of_ble_eq_true rfl, Nat.le_of_ble_eq_true rfl⟩) (fun H locs hP hS => ?_)
          refine lv_istore (lv' := [(7, .int (pn_cls (pn_let nm (j + 1)))), (0, .long nm), (2, .int bf), (3, .int hd), (4, .int (nI ct)), (5, .int (nI (pn_len nm))), (6, .int (nI (j + 1)))]) hx hb dX1_soundOf_47 hl (by decide) rfl (fun ls hl => ?_)
          refine lv_iload hx hb dX1_soundOf_49 (lv_at hl 0 rfl) ?_
          refine lv_if_eq (tgt := 75) hx hb dX1_soundOf_51 (by decide) (fun c_4 => ?_) (fun c_4 => ?_)
          · refine lv_iload hx hb dX1_soundOf_75 (lv_at hl 0 rfl) ?_
            refine lv_istore_n (lv' := [(2, .int (pn_cls (pn_let nm (j + 1)))), (7, .int (pn_cls (pn_let nm (j + 1)))), (0, .long nm), (3, .int hd), (4, .int (nI ct)), (5, .int (nI (pn_len nm))), (6, .int (nI (j + 1)))]) hx hb dX1_soundOf_77 rfl hl (by decide) rfl (fun ls hl => ?_)
            refine lv_iinc (v := (nI ((j + 1) + 1))) (lv' := [(6, .int (nI ((j + 1) + 1))), (2, .int (pn_cls (pn_let nm (j + 1)))), (7, .int (pn_cls (pn_let nm (j + 1)))), (0, .long nm), (3, .int hd), (4, .int (nI ct)), (5, .int (nI (pn_len nm)))]) hx hb dX1_soundOf_78 hl (k := 6) rfl (nI_add (j + 1) 1) (by decide) rfl (fun ls hl => ?_)
            refine lv_goto (tgt := 25) hx hb dX1_soundOf_81 (by decide) ?_
            exact ih25_1 (j + 1) (pn_cls (pn_let nm (j + 1))) hd ct (by omega) (Or.inl (by omega)) rfl (by rw [pn_sd_s]; split <;> rename_i hh <;> first | (rw [e2, e3]; done) | exact e2 | (exfalso; exact hh.2.1 (by assumption)) | (exfalso; exact hh.2.2 (by rw [← e1]; assumption)) | (exfalso; exact hh ⟨by omega, by assumption, by rw [← e1]; assumption⟩)) (by rw [pn_sd_s]; split <;> rename_i hh <;> first | (rw [e3]; done) | exact e3 | (exfalso; exact hh.2.1 (by assumption)) | (exfalso; exact hh.2.2 (by rw [← e1]; assumption)) | (exfalso; exact hh ⟨by omega, by assumption, by rw [← e1]; assumption⟩)) _ _ _ hP hS (lv_sub hl [3, 1, 4, 5, 6, 0] rfl)
          · refine lv_iload hx hb dX1_soundOf_54 (lv_at hl 0 rfl) ?_
            refine lv_iload_n hx hb dX1_soundOf_56 rfl (lv_at hl 2 rfl) ?_
            refine lv_icmp_eq (tgt := 75) hx hb dX1_soundOf_57 (by decide) (fun c_5 => ?_) (fun c_5 => ?_)
            · refine lv_iload hx hb dX1_soundOf_75 (lv_at hl 0 rfl) ?_
              refine lv_istore_n (lv' := [(2, .int (pn_cls (pn_let nm (j + 1)))), (7, .int (pn_cls (pn_let nm (j + 1)))), (0, .long nm), (3, .int hd), (4, .int (nI ct)), (5, .int (nI (pn_len nm))), (6, .int (nI (j + 1)))]) hx hb dX1_soundOf_77 rfl hl (by decide) rfl (fun ls hl => ?_)
              refine lv_iinc (v := (nI ((j + 1) + 1))) (lv' := [(6, .int (nI ((j + 1) + 1))), (2, .int (pn_cls (pn_let nm (j + 1)))), (7, .int (pn_cls (pn_let nm (j + 1)))), (0, .long nm), (3, .int hd), (4, .int (nI ct)), (5, .int (nI (pn_len nm)))]) hx hb dX1_soundOf_78 hl (k := 6) rfl (nI_add (j + 1) 1) (by decide) rfl (fun ls hl => ?_)
              refine lv_goto (tgt := 25) hx hb dX1_soundOf_81 (by decide) ?_
              exact ih25_1 (j + 1) (pn_cls (pn_let nm (j + 1))) hd ct (by omega) (Or.inl (by omega)) rfl (by rw [pn_sd_s]; split <;> rename_i hh <;> first | (rw [e2, e3]; done) | exact e2 | (exfalso; exact hh.2.1 (by assumption)) | (exfalso; exact hh.2.2 (by rw [← e1]; assumption)) | (exfalso; exact hh ⟨by omega, by assumption, by rw [← e1]; assumption⟩)) (by rw [pn_sd_s]; split <;> rename_i hh <;> first | (rw [e3]; done) | exact e3 | (exfalso; exact hh.2.1 (by assumption)) | (exfalso; exact hh.2.2 (by rw [← e1]; assumption)) | (exfalso; exact hh ⟨by omega, by assumption, by rw [← e1]; assumption⟩)) _ _ _ hP hS (lv_sub hl [3, 1, 4, 5, 6, 0] rfl)
            · refine lv_iload_n hx hb dX1_soundOf_60 rfl (lv_at hl 3 rfl) ?_
              refine lv_iload hx hb dX1_soundOf_61 (lv_at hl 0 rfl) ?_
              refine lv_iconst (v := (nI 1)) hx hb dX1_soundOf_63 (by decide) ?_
              refine lv_iadd hx hb dX1_soundOf_64 ?_
              refine lv_iconst (v := (nI 4)) hx hb dX1_soundOf_65 (by decide) ?_
              refine lv_iload hx hb dX1_soundOf_66 (lv_at hl 4 rfl) ?_
              refine pn_imul hx hb dX1_soundOf_68 ?_
              refine lv_ishl hx hb dX1_soundOf_69 ?_
              refine lv_ior hx hb dX1_soundOf_70 ?_
              refine lv_istore_n (lv' := [(3, .int (hd ||| (((pn_cls (pn_let nm (j + 1))) + (nI 1)) <<< ((nI (4 * ct)) &&& 31)))), (7, .int (pn_cls (pn_let nm (j + 1)))), (0, .long nm), (2, .int bf), (4, .int (nI ct)), (5, .int (nI (pn_len nm))), (6, .int (nI (j + 1)))]) hx hb dX1_soundOf_71 rfl hl (by decide) rfl (fun ls hl => ?_)
              refine lv_iinc (v := (nI (ct + 1))) (lv' := [(4, .int (nI (ct + 1))), (3, .int (hd ||| (((pn_cls (pn_let nm (j + 1))) + (nI 1)) <<< ((nI (4 * ct)) &&& 31)))), (7, .int (pn_cls (pn_let nm (j + 1)))), (0, .long nm), (2, .int bf), (5, .int (nI (pn_len nm))), (6, .int (nI (j + 1)))]) hx hb dX1_soundOf_72 hl (k := 4) rfl (nI_add ct 1) (by decide) rfl (fun ls hl => ?_)
              refine lv_iload hx hb dX1_soundOf_75 (lv_at hl 2 rfl) ?_
              refine lv_istore_n (lv' := [(2, .int (pn_cls (pn_let nm (j + 1)))), (4, .int (nI (ct + 1))), (3, .int (hd ||| (((pn_cls (pn_let nm (j + 1))) + (nI 1)) <<< ((nI (4 * ct)) &&& 31)))), (7, .int (pn_cls (pn_let nm (j + 1)))), (0, .long nm), (5, .int (nI (pn_len nm))), (6, .int (nI (j + 1)))]) hx hb dX1_soundOf_77 rfl hl (by decide) rfl (fun ls hl => ?_)
              refine lv_iinc (v := (nI ((j + 1) + 1))) (lv' := [(6, .int (nI ((j + 1) + 1))), (2, .int (pn_cls (pn_let nm (j + 1)))), (4, .int (nI (ct + 1))), (3, .int (hd ||| (((pn_cls (pn_let nm (j + 1))) + (nI 1)) <<< ((nI (4 * ct)) &&& 31)))), (7, .int (pn_cls (pn_let nm (j + 1)))), (0, .long nm), (5, .int (nI (pn_len nm)))]) hx hb dX1_soundOf_78 hl (k := 6) rfl (nI_add (j + 1) 1) (by decide) rfl (fun ls hl => ?_)
              refine lv_goto (tgt := 25) hx hb dX1_soundOf_81 (by decide) ?_
              exact ih25_1 (j + 1) (pn_cls (pn_let nm (j + 1))) (hd ||| (((pn_cls (pn_let nm (j + 1))) + (nI 1)) <<< ((nI (4 * ct)) &&& 31))) (ct + 1) (by omega) (Or.inl (by omega)) rfl (by rw [pn_sd_s]; split <;> rename_i hh <;> first | (rw [e2, e3]; done) | exact e2 | (exfalso; exact hh.2.1 (by assumption)) | (exfalso; exact hh.2.2 (by rw [← e1]; assumption)) | (exfalso; exact hh ⟨by omega, by assumption, by rw [← e1]; assumption⟩)) (by rw [pn_sd_s]; split <;> rename_i hh <;> first | (rw [e3]; done) | exact e3 | (exfalso; exact hh.2.1 (by assumption)) | (exfalso; exact hh.2.2 (by rw [← e1]; assumption)) | (exfalso; exact hh ⟨by omega, by assumption, by rw [← e1]; assumption⟩)) _ _ _ hP hS (lv_sub hl [5, 1, 3, 2, 6, 0] rfl)
  exact lp25_1 ((9 - 0) + 1) 0 (pn_cls (pn_let nm 0)) (pn_cls (pn_let nm 0) + nI 1) 1 (Nat.lt_succ_self _) (Or.inr rfl) rfl rfl rfl _ _ _ hP hS (lv_sub hl [5, 4, 3, 2, 1, 0] rfl)
