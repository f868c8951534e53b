theorem ih_X0_nextSpan_X0 : ∀ w ∈ wsX00, w ∈ wsX0_nextSpan := by decide +kernel
set_option maxHeartbeats 4000000 in
set_option maxRecDepth 100000 in
theorem c_X0_nextSpan (l : Launch) (D : va_G) (cI cL cZ cO : ClassId) (h0 q1 q2 q3 q4 q5 q6 : Nat) (K Y P S O : Nat → Int32) (N : Nat → Int64) (n F : Nat) (t : Nat) (g : Nat) (hn : n ≤ 30) (hg : g ≤ n) : Met l yX0_nextSpan wsX0_nextSpan ({ frames := 3, cells := 0, slots := 0, locals := 68 }) (va_Pc [.ref h0, .int (nI t), .int (nI g)] (pn_Pr D cI cL cZ cO [(h0, .inr (0, [.ref q1, .ref q2, .ref q3, .ref q4, .ref q5, .ref q6, .int (nI n), .int (nI F)])), (q1, .inl (cI, 30, .inl K)), (q2, .inl (cI, 30, .inl Y)), (q3, .inl (cI, 30, .inl P)), (q4, .inl (cI, 30, .inl S)), (q5, .inl (cI, 30, .inl O)), (q6, .inl (cL, 30, .inr (.inl N)))])) (va_Qi (fun r (_ : Unit) => r = (nI (pn_nxt K Y P S O N n t g))) (fun _ _ => True) pn_No) 0 0 pn_No := by
  refine pn_mk (by decide) rfl (Nat.le_of_ble_eq_true rfl) ?_
  intro p e s m below meth c ls hx hb hr hml hown hts hlocks hK hP hl
  have hown : s.vm.findClass RX0 = some m.cls := hown
  have hS : va_S pn_No s.heap s.heap [] := va_S.rf
  have hl : lv_has ls 8 [(0, .ref h0), (1, .int (nI t)), (2, .int (nI g))] := hl
  refine lv_aload_n hx hb dX0_nextSpan_0 rfl (lv_at hl 0 rfl) ?_
  refine lv_iload_n hx hb dX0_nextSpan_1 rfl (lv_at hl 1 rfl) ?_
  refine lv_iload_n hx hb dX0_nextSpan_2 rfl (lv_at hl 2 rfl) ?_
  refine pn_roi (w := [(h0, .inr (0, [.ref q1, .ref q2, .ref q3, .ref q4, .ref q5, .ref q6, .int (nI n), .int (nI F)])), (q1, .inl (cI, 30, .inl K)), (q2, .inl (cI, 30, .inl Y)), (q3, .inl (cI, 30, .inl P)), (q4, .inl (cI, 30, .inl S)), (q5, .inl (cI, 30, .inl O)), (q6, .inl (cL, 30, .inr (.inl N)))]) hP hS (va_runV (As := [.int (nI t), .int (nI g)]) (rest := []) ⟨hx, hb, hml, hown, hts⟩ (c_X0_ownerBehind l D cI cL cZ cO h0 q1 q2 q3 q4 q5 q6 K Y P S O N n F t g (by first | omega | assumption | grind | simp_all) (by first | omega | assumption | grind | simp_all)) (cwV 2 hts gX0_nextSpan_X0_ownerBehind rfl rfl rfl (by decide +kernel) ⟨Nat.le_of_ble_eq_true rfl, Nat.le_of_ble_eq_true rfl⟩) (pn_pv hP hK (q0 := 0) rfl rfl) rfl rfl hl.1 rfl (lv_room (Nat.le_of_ble_eq_true rfl)) dX0_nextSpan_3 ⟨Nat.le_of_ble_eq_true rfl, Nat.le_of_ble_eq_true rfl⟩) (fun H locs hP hS => ?_)
  refine lv_istore_n (lv' := [(3, .int (pn_own S O t g)), (0, .ref h0), (1, .int (nI t)), (2, .int (nI g))]) hx hb dX0_nextSpan_6 rfl hl (by decide) rfl (fun ls hl => ?_)
  refine lv_aload_n hx hb dX0_nextSpan_7 rfl (lv_at hl 1 rfl) ?_
  refine lv_iload_n hx hb dX0_nextSpan_8 rfl (lv_at hl 0 rfl) ?_
  refine lv_iload_n hx hb dX0_nextSpan_9 rfl (lv_at hl 3 rfl) ?_
  refine pn_rol (w := [(h0, .inr (0, [.ref q1, .ref q2, .ref q3, .ref q4, .ref q5, .ref q6, .int (nI n), .int (nI F)])), (q1, .inl (cI, 30, .inl K)), (q2, .inl (cI, 30, .inl Y)), (q3, .inl (cI, 30, .inl P)), (q4, .inl (cI, 30, .inl S)), (q5, .inl (cI, 30, .inl O)), (q6, .inl (cL, 30, .inr (.inl N)))]) hP hS (va_runV (As := [.int (pn_own S O t g), .int (nI g)]) (rest := []) ⟨hx, hb, hml, hown, hts⟩ (c_X0_nameBehind l D cI cL cZ cO h0 q1 q2 q3 q4 q5 q6 K Y P S O N n F (pn_own S O t g) g (by first | omega | assumption | grind | simp_all) (by first | omega | assumption | grind | simp_all)) (cwV 2 hts gX0_nextSpan_X0_nameBehind rfl rfl rfl (by decide +kernel) ⟨Nat.le_of_ble_eq_true rfl, Nat.le_of_ble_eq_true rfl⟩) (pn_pv hP hK (q0 := 0) rfl rfl) rfl rfl hl.1 rfl (lv_room (Nat.le_of_ble_eq_true rfl)) dX0_nextSpan_10 ⟨Nat.le_of_ble_eq_true rfl, Nat.le_of_ble_eq_true rfl⟩) (fun H locs hP hS => ?_)
  refine lv_lstore (lv' := [(4, .long (pn_nam K P O N (pn_own S O t g) g)), (3, .int (pn_own S O t g)), (0, .ref h0), (1, .int (nI t)), (2, .int (nI g))]) hx hb dX0_nextSpan_13 hl (by decide) rfl (fun ls hl => ?_)
  refine lv_iload_n hx hb dX0_nextSpan_15 rfl (lv_at hl 4 rfl) ?_
  refine lv_iconst (v := (nI 1)) hx hb dX0_nextSpan_16 (by decide) ?_
  refine pn_iadd hx hb dX0_nextSpan_17 ?_
  refine lv_istore (lv' := [(6, .int (nI (g + 1))), (4, .long (pn_nam K P O N (pn_own S O t g) g)), (3, .int (pn_own S O t g)), (0, .ref h0), (1, .int (nI t)), (2, .int (nI g))]) hx hb dX0_nextSpan_18 hl (by decide) rfl (fun ls hl => ?_)
  have lp20_1 : ∀ (fu : Nat) (k : Nat), n + 1 - k < fu → (g + 1 ≤ k ∧ k ≤ n + 1) → (∀ i, g + 1 ≤ i → i < k → ¬ pn_chg K Y P S O N n t g i) → ∀ (H : Heap) (locs : List Loc) (ls : Array Slot), va_P D vwCl [(h0, .inr (0, [.ref q1, .ref q2, .ref q3, .ref q4, .ref q5, .ref q6, .int (nI n), .int (nI F)])), (q1, .inl (cI, 30, .inl K)), (q2, .inl (cI, 30, .inl Y)), (q3, .inl (cI, 30, .inl P)), (q4, .inl (cI, 30, .inl S)), (q5, .inl (cI, 30, .inl O)), (q6, .inl (cL, 30, .inr (.inl N)))] H → va_S pn_No s.heap H locs → lv_has ls 8 [(0, .ref h0), (1, .int (nI t)), (2, .int (nI g)), (3, .int (pn_own S O t g)), (4, .long (pn_nam K P O N (pn_own S O t g) g)), (6, .int (nI k))] → W p l e ({ frames := 3, cells := 0, slots := 0, locals := 68 }) s m (List.toArray [.ref h0, .int (nI t), .int (nI g)]) below meth c H locs 0 0 (MQ below (va_Qi (fun r (_ : Unit) => r = (nI (pn_nxt K Y P S O N n t g))) (fun _ _ => True) pn_No) (List.toArray [.ref h0, .int (nI t), .int (nI g)]) s 0 0 pn_No) (F0 m 20 ls []) := by
    intro fu
    induction fu with
    | zero => intro k hfu; exact absurd hfu (Nat.not_lt_zero _)
    | succ fu ih20_1 =>
      intro k hfu hk e1 H locs ls hP hS hl
      refine lv_iload hx hb dX0_nextSpan_20 (lv_at hl 5 rfl) ?_
      refine lv_aload_n hx hb dX0_nextSpan_22 rfl (lv_at hl 0 rfl) ?_
      refine va_get (D := D) (ci := 0) (v := .int (nI n)) (C := RX0) (T := TX0) (N := 8) hx hb hts ih_X0_nextSpan_X0 hown hK.1 hP 0 rfl rfl 6 (by decide) (hts (.fieldLink RX0 31 "ParishNames$Chronicle" "told" "I") (by decide +kernel)) (fun _ h9 => h9) rfl dX0_nextSpan_23 ?_
      refine lv_icmp_gt (tgt := 79) hx hb dX0_nextSpan_26 (by decide) (fun b26 => ?_) (fun b26 => ?_)
      · have b26 : n < k := (pn_lt (by omega) (by omega)).mp (show nI n < nI k from b26)
        refine lv_aload_n hx hb dX0_nextSpan_79 rfl (lv_at hl 0 rfl) ?_
        refine va_get (D := D) (ci := 0) (v := .int (nI n)) (C := RX0) (T := TX0) (N := 8) hx hb hts ih_X0_nextSpan_X0 hown hK.1 hP 0 rfl rfl 6 (by decide) (hts (.fieldLink RX0 31 "ParishNames$Chronicle" "told" "I") (by decide +kernel)) (fun _ h9 => h9) rfl dX0_nextSpan_80 ?_
        refine lv_iconst (v := (nI 1)) hx hb dX0_nextSpan_83 (by decide) ?_
        refine pn_iadd hx hb dX0_nextSpan_84 ?_
        exact W.iret hx hb hr (fun t ht hW => ⟨⟨_, (), rfl, (congrArg nI (pn_nxt_eq hg (by omega) (by omega) (by rw [show n + 1 = k by omega]; exact e1) (Or.inl rfl))), trivial⟩, hS.F ht⟩) hS.2.2 dX0_nextSpan_85 hlocks
      · have b26 : ¬ n < k := fun h => (show ¬ nI n < nI k from b26) ((pn_lt (by omega) (by omega)).mpr h)
        refine lv_aload_n hx hb dX0_nextSpan_29 rfl (lv_at hl 0 rfl) ?_
        refine lv_iload hx hb dX0_nextSpan_30 (lv_at hl 5 rfl) ?_
        refine pn_roi (w := [(h0, .inr (0, [.ref q1, .ref q2, .ref q3, .ref q4, .ref q5, .ref q6, .int (nI n), .int (nI F)])), (q1, .inl (cI, 30, .inl K)), (q2, .inl (cI, 30, .inl Y)), (q3, .inl (cI, 30, .inl P)), (q4, .inl (cI, 30, .inl S)), (q5, .inl (cI, 30, .inl O)), (q6, .inl (cL, 30, .inr (.inl N)))]) hP hS (va_runV (As := [.int (nI k)]) (rest := []) ⟨hx, hb, hml, hown, hts⟩ (c_X0_holdsInAYear l D cI cL cZ cO h0 q1 q2 q3 q4 q5 q6 K Y P S O N n F k (by first | omega | assumption | grind | simp_all) (by first | omega | assumption | grind | simp_all)) (cwV 1 hts gX0_nextSpan_X0_holdsInAYear rfl rfl rfl (by decide +kernel) ⟨Nat.le_of_ble_eq_true rfl, Nat.le_of_ble_eq_true rfl⟩) (pn_pv hP hK (q0 := 0) rfl rfl) rfl rfl hl.1 rfl (lv_room (Nat.le_of_ble_eq_true rfl)) dX0_nextSpan_32 ⟨Nat.le_of_ble_eq_true rfl, Nat.le_of_ble_eq_true rfl⟩) (fun H locs hP hS => ?_)
        refine lv_if_ne (tgt := 41) hx hb dX0_nextSpan_35 (by decide) (fun b35 => ?_) (fun b35 => ?_)
        · have b35 : pn_fy Y n k ≤ pn_ly Y n k := pn_b1.mp b35
          refine lv_aload_n hx hb dX0_nextSpan_41 rfl (lv_at hl 0 rfl) ?_
          refine lv_iload_n hx hb dX0_nextSpan_42 rfl (lv_at hl 1 rfl) ?_
          refine lv_iload hx hb dX0_nextSpan_43 (lv_at hl 5 rfl) ?_
          refine pn_roi (w := [(h0, .inr (0, [.ref q1, .ref q2, .ref q3, .ref q4, .ref q5, .ref q6, .int (nI n), .int (nI F)])), (q1, .inl (cI, 30, .inl K)), (q2, .inl (cI, 30, .inl Y)), (q3, .inl (cI, 30, .inl P)), (q4, .inl (cI, 30, .inl S)), (q5, .inl (cI, 30, .inl O)), (q6, .inl (cL, 30, .inr (.inl N)))]) hP hS (va_runV (As := [.int (nI t), .int (nI k)]) (rest := []) ⟨hx, hb, hml, hown, hts⟩ (c_X0_ownerBehind l D cI cL cZ cO h0 q1 q2 q3 q4 q5 q6 K Y P S O N n F t k (by first | omega | assumption | grind | simp_all) (by first | omega | assumption | grind | simp_all)) (cwV 2 hts gX0_nextSpan_X0_ownerBehind rfl rfl rfl (by decide +kernel) ⟨Nat.le_of_ble_eq_true rfl, Nat.le_of_ble_eq_true rfl⟩) (pn_pv hP hK (q0 := 0) rfl rfl) rfl rfl hl.1 rfl (lv_room (Nat.le_of_ble_eq_true rfl)) dX0_nextSpan_45 ⟨Nat.le_of_ble_eq_true rfl, Nat.le_of_ble_eq_true rfl⟩) (fun H locs hP hS => ?_)
          refine lv_istore (lv' := [(7, .int (pn_own S O t k)), (0, .ref h0), (1, .int (nI t)), (2, .int (nI g)), (3, .int (pn_own S O t g)), (4, .long (pn_nam K P O N (pn_own S O t g) g)), (6, .int (nI k))]) hx hb dX0_nextSpan_48 hl (by decide) rfl (fun ls hl => ?_)
          refine lv_iload hx hb dX0_nextSpan_50 (lv_at hl 0 rfl) ?_
          refine lv_iload_n hx hb dX0_nextSpan_52 rfl (lv_at hl 4 rfl) ?_
          refine lv_icmp_ne (tgt := 70) hx hb dX0_nextSpan_53 (by decide) (fun b53 => ?_) (fun b53 => ?_)
          · refine lv_iload hx hb dX0_nextSpan_70 (lv_at hl 6 rfl) ?_
            exact W.iret hx hb hr (fun t ht hW => ⟨⟨_, (), rfl, (by refine congrArg nI (pn_nxt_eq hg hk.1 (by omega) e1 (Or.inr ⟨by assumption, ?_⟩)); intro q; first | exact absurd q.1 (by assumption) | exact absurd q.2 (by assumption)), trivial⟩, hS.F ht⟩) hS.2.2 dX0_nextSpan_72 hlocks
          · refine lv_aload_n hx hb dX0_nextSpan_56 rfl (lv_at hl 1 rfl) ?_
            refine lv_iload hx hb dX0_nextSpan_57 (lv_at hl 0 rfl) ?_
            refine lv_iload hx hb dX0_nextSpan_59 (lv_at hl 6 rfl) ?_
            refine pn_rol (w := [(h0, .inr (0, [.ref q1, .ref q2, .ref q3, .ref q4, .ref q5, .ref q6, .int (nI n), .int (nI F)])), (q1, .inl (cI, 30, .inl K)), (q2, .inl (cI, 30, .inl Y)), (q3, .inl (cI, 30, .inl P)), (q4, .inl (cI, 30, .inl S)), (q5, .inl (cI, 30, .inl O)), (q6, .inl (cL, 30, .inr (.inl N)))]) hP hS (va_runV (As := [.int (pn_own S O t k), .int (nI k)]) (rest := []) ⟨hx, hb, hml, hown, hts⟩ (c_X0_nameBehind l D cI cL cZ cO h0 q1 q2 q3 q4 q5 q6 K Y P S O N n F (pn_own S O t k) k (by first | omega | assumption | grind | simp_all) (by first | omega | assumption | grind | simp_all)) (cwV 2 hts gX0_nextSpan_X0_nameBehind rfl rfl rfl (by decide +kernel) ⟨Nat.le_of_ble_eq_true rfl, Nat.le_of_ble_eq_true rfl⟩) (pn_pv hP hK (q0 := 0) rfl rfl) rfl rfl hl.1 rfl (lv_room (Nat.le_of_ble_eq_true rfl)) dX0_nextSpan_61 ⟨Nat.le_of_ble_eq_true rfl, Nat.le_of_ble_eq_true rfl⟩) (fun H locs hP hS => ?_)
            refine lv_lload hx hb dX0_nextSpan_64 (lv_at hl 5 rfl) ?_
            refine W.lcmp hx hb dX0_nextSpan_66 ?_
            refine lv_if_eq (tgt := 73) hx hb dX0_nextSpan_67 (by decide) (fun b67 => ?_) (fun b67 => ?_)
            · have b67 : (pn_nam K P O N (pn_own S O t k) k) = (pn_nam K P O N (pn_own S O t g) g) := pn_cmp0.mp b67
              refine lv_iinc (v := (nI (k + 1))) (lv' := [(6, .int (nI (k + 1))), (7, .int (pn_own S O t k)), (0, .ref h0), (1, .int (nI t)), (2, .int (nI g)), (3, .int (pn_own S O t g)), (4, .long (pn_nam K P O N (pn_own S O t g) g))]) hx hb dX0_nextSpan_73 hl (k := 6) rfl (nI_add k 1) (by decide) rfl (fun ls hl => ?_)
              refine lv_goto (tgt := 20) hx hb dX0_nextSpan_76 (by decide) ?_
              exact ih20_1 (k + 1) (by omega) ⟨by omega, by omega⟩ (pn_lts e1 (fun hc => by first | exact absurd hc.1 (by assumption) | exact hc.2 ⟨by assumption, by assumption⟩)) _ _ _ hP hS (lv_sub hl [2, 3, 4, 5, 6, 0] rfl)
            · have b67 : ¬ (pn_nam K P O N (pn_own S O t k) k) = (pn_nam K P O N (pn_own S O t g) g) := fun h => b67 (pn_cmp0.mpr h)
              refine lv_iload hx hb dX0_nextSpan_70 (lv_at hl 6 rfl) ?_
              exact W.iret hx hb hr (fun t ht hW => ⟨⟨_, (), rfl, (by refine congrArg nI (pn_nxt_eq hg hk.1 (by omega) e1 (Or.inr ⟨by assumption, ?_⟩)); intro q; first | exact absurd q.1 (by assumption) | exact absurd q.2 (by assumption)), trivial⟩, hS.F ht⟩) hS.2.2 dX0_nextSpan_72 hlocks
        · have b35 : ¬ (pn_fy Y n k ≤ pn_ly Y n k) := pn_b0.mp b35
          refine lv_goto (tgt := 73) hx hb dX0_nextSpan_38 (by decide) ?_
          refine lv_iinc (v := (nI (k + 1))) (lv' := [(6, .int (nI (k + 1))), (0, .ref h0), (1, .int (nI t)), (2, .int (nI g)), (3, .int (pn_own S O t g)), (4, .long (pn_nam K P O N (pn_own S O t g) g))]) hx hb dX0_nextSpan_73 hl (k := 5) rfl (nI_add k 1) (by decide) rfl (fun ls hl => ?_)
          refine lv_goto (tgt := 20) hx hb dX0_nextSpan_76 (by decide) ?_
          exact ih20_1 (k + 1) (by omega) ⟨by omega, by omega⟩ (pn_lts e1 (fun hc => by first | exact absurd hc.1 (by assumption) | exact hc.2 ⟨by assumption, by assumption⟩)) _ _ _ hP hS (lv_sub hl [1, 2, 3, 4, 5, 0] rfl)
  exact lp20_1 ((n + 1 - (g + 1)) + 1) (g + 1) (Nat.lt_succ_self _) ⟨Nat.le_refl _, by omega⟩ (fun i h1 h2 => absurd h1 (Nat.not_le.mpr h2)) _ _ _ hP hS (lv_sub hl [3, 4, 5, 2, 1, 0] rfl)
