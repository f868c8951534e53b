theorem ih_X0_lifeOf_X0 : ∀ w ∈ wsX00, w ∈ wsX0_lifeOf := by decide +kernel
set_option maxHeartbeats 4000000 in
set_option maxRecDepth 100000 in
theorem c_X0_lifeOf (l : Launch) (D : va_G) (cI cL cZ cO : ClassId) (h0 q1 q2 q3 q4 q5 q6 : Nat) (K Y P S O : Nat → Int32) (N : Nat → Int64) (n F : Nat) (pa : Int32) (wh : Nat) (hn : n ≤ 30) (hw : wh ≤ 4) : Met l yX0_lifeOf wsX0_lifeOf ({ frames := 2, cells := 0, slots := 0, locals := 42 }) (va_Pc [.ref h0, .int pa, .int (nI wh)] (pn_Pr D cI cL cZ cO [(h0, .inr (0, [.ref q1, .ref q2, .ref q3, .ref q4, .ref q5, .ref q6, .int (nI n), .int (nI F)])), (q1, .inl (cI, 30, .inl K)), (q2, .inl (cI, 30, .inl Y)), (q3, .inl (cI, 30, .inl P)), (q4, .inl (cI, 30, .inl S)), (q5, .inl (cI, 30, .inl O)), (q6, .inl (cL, 30, .inr (.inl N)))])) (va_Qi (fun r (_ : Unit) => r = (pn_lifeR Y P S O n pa wh)) (fun _ _ => True) pn_No) 0 0 pn_No := by
  refine pn_mk (by decide) rfl (Nat.le_of_ble_eq_true rfl) ?_
  intro p e s m below meth c ls hx hb hr hml hown hts hlocks hK hP hl
  have hown : s.vm.findClass RX0 = some m.cls := hown
  have hS : va_S pn_No s.heap s.heap [] := va_S.rf
  have hl : lv_has ls 9 [(0, .ref h0), (1, .int pa), (2, .int (nI wh))] := hl
  refine lv_bipush (v := (-6)) hx hb dX0_lifeOf_0 (by decide) ?_
  refine lv_istore_n (lv' := [(3, .int (-6)), (0, .ref h0), (1, .int pa), (2, .int (nI wh))]) hx hb dX0_lifeOf_2 rfl hl (by decide) rfl (fun ls hl => ?_)
  refine lv_bipush (v := (-6)) hx hb dX0_lifeOf_3 (by decide) ?_
  refine lv_istore (lv' := [(4, .int (-6)), (3, .int (-6)), (0, .ref h0), (1, .int pa), (2, .int (nI wh))]) hx hb dX0_lifeOf_5 hl (by decide) rfl (fun ls hl => ?_)
  refine lv_iconst (v := (nI 0)) hx hb dX0_lifeOf_7 (by decide) ?_
  refine lv_istore (lv' := [(5, .int (nI 0)), (4, .int (-6)), (3, .int (-6)), (0, .ref h0), (1, .int pa), (2, .int (nI wh))]) hx hb dX0_lifeOf_8 hl (by decide) rfl (fun ls hl => ?_)
  refine lv_iconst (v := (nI 0)) hx hb dX0_lifeOf_10 (by decide) ?_
  refine lv_istore (lv' := [(6, .int (nI 0)), (5, .int (nI 0)), (4, .int (-6)), (3, .int (-6)), (0, .ref h0), (1, .int pa), (2, .int (nI wh))]) hx hb dX0_lifeOf_11 hl (by decide) rfl (fun ls hl => ?_)
  refine lv_iload_n hx hb dX0_lifeOf_13 rfl (lv_at hl 5 rfl) ?_
  refine pn_roi (w := [(h0, .inr (0, [.ref q1, .ref q2, .ref q3, .ref q4, .ref q5, .ref q6, .int (nI n), .int (nI F)])), (q1, .inl (cI, 30, .inl K)), (q2, .inl (cI, 30, .inl Y)), (q3, .inl (cI, 30, .inl P)), (q4, .inl (cI, 30, .inl S)), (q5, .inl (cI, 30, .inl O)), (q6, .inl (cL, 30, .inr (.inl N)))]) hP hS (va_runS (As := [.int pa]) (rest := []) ⟨hx, hb, hml, hown, hts⟩ (c_X0_sitesAtFirst l D cI cL cZ cO pa) (va_cwS 1 hts gX0_lifeOf_X0_sitesAtFirst rfl rfl rfl (by decide +kernel) ⟨Nat.le_of_ble_eq_true rfl, Nat.le_of_ble_eq_true rfl⟩) (pn_ps (WS := []) (fun k q h => by simp at h) hK) rfl rfl hl.1 rfl (lv_room (Nat.le_of_ble_eq_true rfl)) dX0_lifeOf_14 ⟨Nat.le_of_ble_eq_true rfl, Nat.le_of_ble_eq_true rfl⟩) (fun H locs hP hS => ?_)
  refine lv_istore (lv' := [(7, .int (pn_sit0 pa)), (6, .int (nI 0)), (5, .int (nI 0)), (4, .int (-6)), (3, .int (-6)), (0, .ref h0), (1, .int pa), (2, .int (nI wh))]) hx hb dX0_lifeOf_17 hl (by decide) rfl (fun ls hl => ?_)
  refine lv_iconst (v := (nI 0)) hx hb dX0_lifeOf_19 (by decide) ?_
  refine lv_istore (lv' := [(8, .int (nI 0)), (7, .int (pn_sit0 pa)), (6, .int (nI 0)), (5, .int (nI 0)), (4, .int (-6)), (3, .int (-6)), (0, .ref h0), (1, .int pa), (2, .int (nI wh))]) hx hb dX0_lifeOf_20 hl (by decide) rfl (fun ls hl => ?_)
  have lp22_1 : ∀ (fu : Nat) (k : Nat) (f : Int32) (la : Int32) (lv : Int32) (ev : Int32) (hd : Int32), n + 1 - k < fu → (k ≤ n + 1) → ((f, la, lv, ev) = pn_life Y P S O n pa k) → (hd = pn_sit P S O pa (k - 1)) → ∀ (H : Heap) (locs : List Loc) (ls : Array Slot), va_P D vwCl [(h0, .inr (0, [.ref q1, .ref q2, .ref q3, .ref q4, .ref q5, .ref q6, .int (nI n), .int (nI F)])), (q1, .inl (cI, 30, .inl K)), (q2, .inl (cI, 30, .inl Y)), (q3, .inl (cI, 30, .inl P)), (q4, .inl (cI, 30, .inl S)), (q5, .inl (cI, 30, .inl O)), (q6, .inl (cL, 30, .inr (.inl N)))] H → va_S pn_No s.heap H locs → lv_has ls 9 [(0, .ref h0), (1, .int pa), (2, .int (nI wh)), (3, .int f), (4, .int la), (5, .int lv), (6, .int ev), (7, .int hd), (8, .int (nI k))] → W p l e ({ frames := 2, cells := 0, slots := 0, locals := 42 }) s m (List.toArray [.ref h0, .int pa, .int (nI wh)]) below meth c H locs 0 0 (MQ below (va_Qi (fun r (_ : Unit) => r = (pn_lifeR Y P S O n pa wh)) (fun _ _ => True) pn_No) (List.toArray [.ref h0, .int pa, .int (nI wh)]) s 0 0 pn_No) (F0 m 22 ls []) := by
    intro fu
    induction fu with
    | zero => intro k f la lv ev hd hfu; exact absurd hfu (Nat.not_lt_zero _)
    | succ fu ih22_1 =>
      intro k f la lv ev hd hfu hk e1 e5 H locs ls hP hS hl
      refine lv_iload hx hb dX0_lifeOf_22 (lv_at hl 8 rfl) ?_
      refine lv_aload_n hx hb dX0_lifeOf_24 rfl (lv_at hl 0 rfl) ?_
      refine va_get (D := D) (ci := 0) (v := .int (nI n)) (C := RX0) (T := TX0) (N := 8) hx hb hts ih_X0_lifeOf_X0 hown hK.1 hP 0 rfl rfl 6 (by decide) (hts (.fieldLink RX0 31 "ParishNames$Chronicle" "told" "I") (by decide +kernel)) (fun _ h9 => h9) rfl dX0_lifeOf_25 ?_
      refine lv_icmp_gt (tgt := 115) hx hb dX0_lifeOf_28 (by decide) (fun b28 => ?_) (fun b28 => ?_)
      · have b28 : n < k := (pn_lt (by omega) (by omega)).mp (show nI n < nI k from b28)
        refine lv_iload_n hx hb dX0_lifeOf_115 rfl (lv_at hl 2 rfl) ?_
        rcases pn_sw (nI wh) (lo := 0) (hi := 2) with b116 | b116
        · refine lv_tableOut (tgt := 152) hx hb dX0_lifeOf_116 b116 (by decide) ?_
          have b116 : wh < 0 ∨ 2 < wh := by rw [nI_toInt (by omega)] at b116; omega
          obtain ⟨z, rfl⟩ : ∃ z, wh = z + 3 := ⟨wh - 3, by omega⟩
          refine lv_iload hx hb dX0_lifeOf_152 (lv_at hl 6 rfl) ?_
          refine pn_roi (w := [(h0, .inr (0, [.ref q1, .ref q2, .ref q3, .ref q4, .ref q5, .ref q6, .int (nI n), .int (nI F)])), (q1, .inl (cI, 30, .inl K)), (q2, .inl (cI, 30, .inl Y)), (q3, .inl (cI, 30, .inl P)), (q4, .inl (cI, 30, .inl S)), (q5, .inl (cI, 30, .inl O)), (q6, .inl (cL, 30, .inr (.inl N)))]) hP hS (va_runS (As := [.int ev]) (rest := []) ⟨hx, hb, hml, hown, hts⟩ (c_J6_bitCount_0f7a4 l D cI cL cZ cO ev) (va_cwS 1 hts gX0_lifeOf_J6_bitCount_0f7a4 rfl rfl rfl (by decide +kernel) ⟨Nat.le_of_ble_eq_true rfl, Nat.le_of_ble_eq_true rfl⟩) (pn_ps (WS := []) (fun k q h => by simp at h) hK) rfl rfl hl.1 rfl (lv_room (Nat.le_of_ble_eq_true rfl)) dX0_lifeOf_154 ⟨Nat.le_of_ble_eq_true rfl, Nat.le_of_ble_eq_true rfl⟩) (fun H locs hP hS => ?_)
          exact W.iret hx hb hr (fun t ht hW => ⟨⟨_, (), rfl, (by obtain rfl : k = n + 1 := (by omega); (try subst_vars); show _ = _; unfold pn_lifeR; rw [← e1]; rfl), trivial⟩, hS.F ht⟩) hS.2.2 dX0_lifeOf_157 hlocks
        · obtain ⟨k_116, hk_116, b116⟩ := b116
          have hk_116 : k_116 = 0 ∨ k_116 = 1 ∨ k_116 = 2 := by omega
          rcases hk_116 with rfl | rfl | rfl
          · refine lv_tableIn (tgt := 144) hx hb dX0_lifeOf_116 (by rw [b116]; decide) (by rw [b116]; decide) (by rw [b116]; rfl) (by decide) ?_
            have b116 : (nI wh) = nI 0 := pn_swe b116 (by decide)
            have b116 : wh = 0 := (pn_eq (by omega) (by omega)).mp b116
            refine lv_iload_n hx hb dX0_lifeOf_144 rfl (lv_at hl 3 rfl) ?_
            exact W.iret hx hb hr (fun t ht hW => ⟨⟨_, (), rfl, (by obtain rfl : k = n + 1 := (by omega); (try subst_vars); show _ = _; unfold pn_lifeR; rw [← e1]; rfl), trivial⟩, hS.F ht⟩) hS.2.2 dX0_lifeOf_145 hlocks
          · refine lv_tableIn (tgt := 146) hx hb dX0_lifeOf_116 (by rw [b116]; decide) (by rw [b116]; decide) (by rw [b116]; rfl) (by decide) ?_
            have b116 : (nI wh) = nI 1 := pn_swe b116 (by decide)
            have b116 : wh = 1 := (pn_eq (by omega) (by omega)).mp b116
            refine lv_iload hx hb dX0_lifeOf_146 (lv_at hl 4 rfl) ?_
            exact W.iret hx hb hr (fun t ht hW => ⟨⟨_, (), rfl, (by obtain rfl : k = n + 1 := (by omega); (try subst_vars); show _ = _; unfold pn_lifeR; rw [← e1]; rfl), trivial⟩, hS.F ht⟩) hS.2.2 dX0_lifeOf_148 hlocks
          · refine lv_tableIn (tgt := 149) hx hb dX0_lifeOf_116 (by rw [b116]; decide) (by rw [b116]; decide) (by rw [b116]; rfl) (by decide) ?_
            have b116 : (nI wh) = nI 2 := pn_swe b116 (by decide)
            have b116 : wh = 2 := (pn_eq (by omega) (by omega)).mp b116
            refine lv_iload hx hb dX0_lifeOf_149 (lv_at hl 5 rfl) ?_
            exact W.iret hx hb hr (fun t ht hW => ⟨⟨_, (), rfl, (by obtain rfl : k = n + 1 := (by omega); (try subst_vars); show _ = _; unfold pn_lifeR; rw [← e1]; rfl), trivial⟩, hS.F ht⟩) hS.2.2 dX0_lifeOf_151 hlocks
      · have b28 : ¬ n < k := fun h => (show ¬ nI n < nI k from b28) ((pn_lt (by omega) (by omega)).mpr h)
        refine lv_iload hx hb dX0_lifeOf_31 (lv_at hl 8 rfl) ?_
        refine lv_if_le (tgt := 49) hx hb dX0_lifeOf_33 (by decide) (fun b33 => ?_) (fun b33 => ?_)
        · have b33 : k ≤ 0 := (pn_le (by omega) (by omega)).mp (show nI k ≤ nI 0 from b33)
          rw [show hd = (pn_sit P S O pa k) from (by rw [e5, show k - 1 = k by omega])] at hl
          refine lv_iload hx hb dX0_lifeOf_49 (lv_at hl 7 rfl) ?_
          refine lv_if_eq (tgt := 109) hx hb dX0_lifeOf_51 (by decide) (fun b51 => ?_) (fun b51 => ?_)
          · refine lv_iinc (v := (nI (k + 1))) (lv' := [(8, .int (nI (k + 1))), (0, .ref h0), (1, .int pa), (2, .int (nI wh)), (3, .int f), (4, .int la), (5, .int lv), (6, .int ev), (7, .int (pn_sit P S O pa k))]) hx hb dX0_lifeOf_109 hl (k := 8) rfl (nI_add k 1) (by decide) rfl (fun ls hl => ?_)
            refine lv_goto (tgt := 22) hx hb dX0_lifeOf_112 (by decide) ?_
            exact ih22_1 (k + 1) f la lv ev (pn_sit P S O pa k) (by omega) (by first | omega | assumption | grind | simp_all) (by first | exact pn_life_f e1 (Or.inl b51) | exact pn_life_f e1 (Or.inr b60) | exact pn_life_t1 e1 b51 b60 b68 | exact pn_life_t2 e1 b51 b60 b68) rfl _ _ _ hP hS (lv_sub hl [1, 2, 3, 4, 5, 6, 7, 8, 0] rfl)
          · refine lv_aload_n hx hb dX0_lifeOf_54 rfl (lv_at hl 0 rfl) ?_
            refine lv_iload hx hb dX0_lifeOf_55 (lv_at hl 8 rfl) ?_
            refine pn_roi (w := [(h0, .inr (0, [.ref q1, .ref q2, .ref q3, .ref q4, .ref q5, .ref q6, .int (nI n), .int (nI F)])), (q1, .inl (cI, 30, .inl K)), (q2, .inl (cI, 30, .inl Y)), (q3, .inl (cI, 30, .inl P)), (q4, .inl (cI, 30, .inl S)), (q5, .inl (cI, 30, .inl O)), (q6, .inl (cL, 30, .inr (.inl N)))]) hP hS (va_runV (As := [.int (nI k)]) (rest := []) ⟨hx, hb, hml, hown, hts⟩ (c_X0_holdsInAYear l D cI cL cZ cO h0 q1 q2 q3 q4 q5 q6 K Y P S O N n F k (by first | omega | assumption | grind | simp_all) (by first | omega | assumption | grind | simp_all)) (cwV 1 hts gX0_lifeOf_X0_holdsInAYear rfl rfl rfl (by decide +kernel) ⟨Nat.le_of_ble_eq_true rfl, Nat.le_of_ble_eq_true rfl⟩) (pn_pv hP hK (q0 := 0) rfl rfl) rfl rfl hl.1 rfl (lv_room (Nat.le_of_ble_eq_true rfl)) dX0_lifeOf_57 ⟨Nat.le_of_ble_eq_true rfl, Nat.le_of_ble_eq_true rfl⟩) (fun H locs hP hS => ?_)
            refine lv_if_ne (tgt := 66) hx hb dX0_lifeOf_60 (by decide) (fun b60 => ?_) (fun b60 => ?_)
            · have b60 : pn_fy Y n k ≤ pn_ly Y n k := pn_b1.mp b60
              refine lv_iload hx hb dX0_lifeOf_66 (lv_at hl 5 rfl) ?_
              refine lv_if_ne (tgt := 78) hx hb dX0_lifeOf_68 (by decide) (fun b68 => ?_) (fun b68 => ?_)
              · refine lv_aload_n hx hb dX0_lifeOf_78 rfl (lv_at hl 0 rfl) ?_
                refine lv_iload hx hb dX0_lifeOf_79 (lv_at hl 8 rfl) ?_
                refine pn_roi (w := [(h0, .inr (0, [.ref q1, .ref q2, .ref q3, .ref q4, .ref q5, .ref q6, .int (nI n), .int (nI F)])), (q1, .inl (cI, 30, .inl K)), (q2, .inl (cI, 30, .inl Y)), (q3, .inl (cI, 30, .inl P)), (q4, .inl (cI, 30, .inl S)), (q5, .inl (cI, 30, .inl O)), (q6, .inl (cL, 30, .inr (.inl N)))]) hP hS (va_runV (As := [.int (nI k)]) (rest := []) ⟨hx, hb, hml, hown, hts⟩ (c_X0_lastYear l D cI cL cZ cO h0 q1 q2 q3 q4 q5 q6 K Y P S O N n F k (by first | omega | assumption | grind | simp_all) (by first | omega | assumption | grind | simp_all)) (cwV 1 hts gX0_lifeOf_X0_lastYear rfl rfl rfl (by decide +kernel) ⟨Nat.le_of_ble_eq_true rfl, Nat.le_of_ble_eq_true rfl⟩) (pn_pv hP hK (q0 := 0) rfl rfl) rfl rfl hl.1 rfl (lv_room (Nat.le_of_ble_eq_true rfl)) dX0_lifeOf_81 ⟨Nat.le_of_ble_eq_true rfl, Nat.le_of_ble_eq_true rfl⟩) (fun H locs hP hS => ?_)
                refine lv_istore (lv' := [(4, .int (pn_ly Y n k)), (0, .ref h0), (1, .int pa), (2, .int (nI wh)), (3, .int f), (5, .int lv), (6, .int ev), (7, .int (pn_sit P S O pa k)), (8, .int (nI k))]) hx hb dX0_lifeOf_84 hl (by decide) rfl (fun ls hl => ?_)
                refine lv_iload hx hb dX0_lifeOf_86 (lv_at hl 5 rfl) ?_
                refine lv_iload hx hb dX0_lifeOf_88 (lv_at hl 0 rfl) ?_
                refine lv_aload_n hx hb dX0_lifeOf_90 rfl (lv_at hl 1 rfl) ?_
                refine lv_iload hx hb dX0_lifeOf_91 (lv_at hl 8 rfl) ?_
                refine pn_roi (w := [(h0, .inr (0, [.ref q1, .ref q2, .ref q3, .ref q4, .ref q5, .ref q6, .int (nI n), .int (nI F)])), (q1, .inl (cI, 30, .inl K)), (q2, .inl (cI, 30, .inl Y)), (q3, .inl (cI, 30, .inl P)), (q4, .inl (cI, 30, .inl S)), (q5, .inl (cI, 30, .inl O)), (q6, .inl (cL, 30, .inr (.inl N)))]) hP hS (va_runV (As := [.int (nI k)]) (rest := [.int (pn_ly Y n k), .int lv]) ⟨hx, hb, hml, hown, hts⟩ (c_X0_firstYear l D cI cL cZ cO h0 q1 q2 q3 q4 q5 q6 K Y P S O N n F k (by first | omega | assumption | grind | simp_all) (by first | omega | assumption | grind | simp_all)) (cwV 1 hts gX0_lifeOf_X0_firstYear rfl rfl rfl (by decide +kernel) ⟨Nat.le_of_ble_eq_true rfl, Nat.le_of_ble_eq_true rfl⟩) (pn_pv hP hK (q0 := 0) rfl rfl) rfl rfl hl.1 rfl (lv_room (Nat.le_of_ble_eq_true rfl)) dX0_lifeOf_93 ⟨Nat.le_of_ble_eq_true rfl, Nat.le_of_ble_eq_true rfl⟩) (fun H locs hP hS => ?_)
                refine lv_isub hx hb dX0_lifeOf_96 ?_
                refine lv_iconst (v := (nI 1)) hx hb dX0_lifeOf_97 (by decide) ?_
                refine lv_iadd hx hb dX0_lifeOf_98 ?_
                refine lv_iadd hx hb dX0_lifeOf_99 ?_
                refine lv_istore (lv' := [(5, .int (lv + (((pn_ly Y n k) - (pn_fy Y n k)) + (nI 1)))), (4, .int (pn_ly Y n k)), (0, .ref h0), (1, .int pa), (2, .int (nI wh)), (3, .int f), (6, .int ev), (7, .int (pn_sit P S O pa k)), (8, .int (nI k))]) hx hb dX0_lifeOf_100 hl (by decide) rfl (fun ls hl => ?_)
                refine lv_iload hx hb dX0_lifeOf_102 (lv_at hl 6 rfl) ?_
                refine lv_iload hx hb dX0_lifeOf_104 (lv_at hl 7 rfl) ?_
                refine lv_ior hx hb dX0_lifeOf_106 ?_
                refine lv_istore (lv' := [(6, .int (ev ||| (pn_sit P S O pa k))), (5, .int (lv + (((pn_ly Y n k) - (pn_fy Y n k)) + (nI 1)))), (4, .int (pn_ly Y n k)), (0, .ref h0), (1, .int pa), (2, .int (nI wh)), (3, .int f), (7, .int (pn_sit P S O pa k)), (8, .int (nI k))]) hx hb dX0_lifeOf_107 hl (by decide) rfl (fun ls hl => ?_)
                refine lv_iinc (v := (nI (k + 1))) (lv' := [(8, .int (nI (k + 1))), (6, .int (ev ||| (pn_sit P S O pa k))), (5, .int (lv + (((pn_ly Y n k) - (pn_fy Y n k)) + (nI 1)))), (4, .int (pn_ly Y n k)), (0, .ref h0), (1, .int pa), (2, .int (nI wh)), (3, .int f), (7, .int (pn_sit P S O pa k))]) hx hb dX0_lifeOf_109 hl (k := 8) rfl (nI_add k 1) (by decide) rfl (fun ls hl => ?_)
                refine lv_goto (tgt := 22) hx hb dX0_lifeOf_112 (by decide) ?_
                exact ih22_1 (k + 1) f (pn_ly Y n k) (lv + (((pn_ly Y n k) - (pn_fy Y n k)) + (nI 1))) (ev ||| (pn_sit P S O pa k)) (pn_sit P S O pa k) (by omega) (by first | omega | assumption | grind | simp_all) (by first | exact pn_life_f e1 (Or.inl b51) | exact pn_life_f e1 (Or.inr b60) | exact pn_life_t1 e1 b51 b60 b68 | exact pn_life_t2 e1 b51 b60 b68) rfl _ _ _ hP hS (lv_sub hl [4, 5, 6, 7, 3, 2, 1, 8, 0] rfl)
              · refine lv_aload_n hx hb dX0_lifeOf_71 rfl (lv_at hl 0 rfl) ?_
                refine lv_iload hx hb dX0_lifeOf_72 (lv_at hl 8 rfl) ?_
                refine pn_roi (w := [(h0, .inr (0, [.ref q1, .ref q2, .ref q3, .ref q4, .ref q5, .ref q6, .int (nI n), .int (nI F)])), (q1, .inl (cI, 30, .inl K)), (q2, .inl (cI, 30, .inl Y)), (q3, .inl (cI, 30, .inl P)), (q4, .inl (cI, 30, .inl S)), (q5, .inl (cI, 30, .inl O)), (q6, .inl (cL, 30, .inr (.inl N)))]) hP hS (va_runV (As := [.int (nI k)]) (rest := []) ⟨hx, hb, hml, hown, hts⟩ (c_X0_firstYear l D cI cL cZ cO h0 q1 q2 q3 q4 q5 q6 K Y P S O N n F k (by first | omega | assumption | grind | simp_all) (by first | omega | assumption | grind | simp_all)) (cwV 1 hts gX0_lifeOf_X0_firstYear rfl rfl rfl (by decide +kernel) ⟨Nat.le_of_ble_eq_true rfl, Nat.le_of_ble_eq_true rfl⟩) (pn_pv hP hK (q0 := 0) rfl rfl) rfl rfl hl.1 rfl (lv_room (Nat.le_of_ble_eq_true rfl)) dX0_lifeOf_74 ⟨Nat.le_of_ble_eq_true rfl, Nat.le_of_ble_eq_true rfl⟩) (fun H locs hP hS => ?_)
                refine lv_istore_n (lv' := [(3, .int (pn_fy Y n k)), (0, .ref h0), (1, .int pa), (2, .int (nI wh)), (4, .int la), (5, .int lv), (6, .int ev), (7, .int (pn_sit P S O pa k)), (8, .int (nI k))]) hx hb dX0_lifeOf_77 rfl hl (by decide) rfl (fun ls hl => ?_)
                refine lv_aload_n hx hb dX0_lifeOf_78 rfl (lv_at hl 1 rfl) ?_
                refine lv_iload hx hb dX0_lifeOf_79 (lv_at hl 8 rfl) ?_
                refine pn_roi (w := [(h0, .inr (0, [.ref q1, .ref q2, .ref q3, .ref q4, .ref q5, .ref q6, .int (nI n), .int (nI F)])), (q1, .inl (cI, 30, .inl K)), (q2, .inl (cI, 30, .inl Y)), (q3, .inl (cI, 30, .inl P)), (q4, .inl (cI, 30, .inl S)), (q5, .inl (cI, 30, .inl O)), (q6, .inl (cL, 30, .inr (.inl N)))]) hP hS (va_runV (As := [.int (nI k)]) (rest := []) ⟨hx, hb, hml, hown, hts⟩ (c_X0_lastYear l D cI cL cZ cO h0 q1 q2 q3 q4 q5 q6 K Y P S O N n F k (by first | omega | assumption | grind | simp_all) (by first | omega | assumption | grind | simp_all)) (cwV 1 hts gX0_lifeOf_X0_lastYear rfl rfl rfl (by decide +kernel) ⟨Nat.le_of_ble_eq_true rfl, Nat.le_of_ble_eq_true rfl⟩) (pn_pv hP hK (q0 := 0) rfl rfl) rfl rfl hl.1 rfl (lv_room (Nat.le_of_ble_eq_true rfl)) dX0_lifeOf_81 ⟨Nat.le_of_ble_eq_true rfl, Nat.le_of_ble_eq_true rfl⟩) (fun H locs hP hS => ?_)
                refine lv_istore (lv' := [(4, .int (pn_ly Y n k)), (3, .int (pn_fy Y n k)), (0, .ref h0), (1, .int pa), (2, .int (nI wh)), (5, .int lv), (6, .int ev), (7, .int (pn_sit P S O pa k)), (8, .int (nI k))]) hx hb dX0_lifeOf_84 hl (by decide) rfl (fun ls hl => ?_)
                refine lv_iload hx hb dX0_lifeOf_86 (lv_at hl 5 rfl) ?_
                refine lv_iload hx hb dX0_lifeOf_88 (lv_at hl 0 rfl) ?_
                refine lv_aload_n hx hb dX0_lifeOf_90 rfl (lv_at hl 2 rfl) ?_
                refine lv_iload hx hb dX0_lifeOf_91 (lv_at hl 8 rfl) ?_
                refine pn_roi (w := [(h0, .inr (0, [.ref q1, .ref q2, .ref q3, .ref q4, .ref q5, .ref q6, .int (nI n), .int (nI F)])), (q1, .inl (cI, 30, .inl K)), (q2, .inl (cI, 30, .inl Y)), (q3, .inl (cI, 30, .inl P)), (q4, .inl (cI, 30, .inl S)), (q5, .inl (cI, 30, .inl O)), (q6, .inl (cL, 30, .inr (.inl N)))]) hP hS (va_runV (As := [.int (nI k)]) (rest := [.int (pn_ly Y n k), .int lv]) ⟨hx, hb, hml, hown, hts⟩ (c_X0_firstYear l D cI cL cZ cO h0 q1 q2 q3 q4 q5 q6 K Y P S O N n F k (by first | omega | assumption | grind | simp_all) (by first | omega | assumption | grind | simp_all)) (cwV 1 hts gX0_lifeOf_X0_firstYear rfl rfl rfl (by decide +kernel) ⟨Nat.le_of_ble_eq_true rfl, Nat.le_of_ble_eq_true rfl⟩) (pn_pv hP hK (q0 := 0) rfl rfl) rfl rfl hl.1 rfl (lv_room (Nat.le_of_ble_eq_true rfl)) dX0_lifeOf_93 ⟨Nat.le_of_ble_eq_true rfl, Nat.le_of_ble_eq_true rfl⟩) (fun H locs hP hS => ?_)
                refine lv_isub hx hb dX0_lifeOf_96 ?_
                refine lv_iconst (v := (nI 1)) hx hb dX0_lifeOf_97 (by decide) ?_
                refine lv_iadd hx hb dX0_lifeOf_98 ?_
                refine lv_iadd hx hb dX0_lifeOf_99 ?_
                refine lv_istore (lv' := [(5, .int (lv + (((pn_ly Y n k) - (pn_fy Y n k)) + (nI 1)))), (4, .int (pn_ly Y n k)), (3, .int (pn_fy Y n k)), (0, .ref h0), (1, .int pa), (2, .int (nI wh)), (6, .int ev), (7, .int (pn_sit P S O pa k)), (8, .int (nI k))]) hx hb dX0_lifeOf_100 hl (by decide) rfl (fun ls hl => ?_)
                refine lv_iload hx hb dX0_lifeOf_102 (lv_at hl 6 rfl) ?_
                refine lv_iload hx hb dX0_lifeOf_104 (lv_at hl 7 rfl) ?_
                refine lv_ior hx hb dX0_lifeOf_106 ?_
                refine lv_istore (lv' := [(6, .int (ev ||| (pn_sit P S O pa k))), (5, .int (lv + (((pn_ly Y n k) - (pn_fy Y n k)) + (nI 1)))), (4, .int (pn_ly Y n k)), (3, .int (pn_fy Y n k)), (0, .ref h0), (1, .int pa), (2, .int (nI wh)), (7, .int (pn_sit P S O pa k)), (8, .int (nI k))]) hx hb dX0_lifeOf_107 hl (by decide) rfl (fun ls hl => ?_)
                refine lv_iinc (v := (nI (k + 1))) (lv' := [(8, .int (nI (k + 1))), (6, .int (ev ||| (pn_sit P S O pa k))), (5, .int (lv + (((pn_ly Y n k) - (pn_fy Y n k)) + (nI 1)))), (4, .int (pn_ly Y n k)), (3, .int (pn_fy Y n k)), (0, .ref h0), (1, .int pa), (2, .int (nI wh)), (7, .int (pn_sit P S O pa k))]) hx hb dX0_lifeOf_109 hl (k := 8) rfl (nI_add k 1) (by decide) rfl (fun ls hl => ?_)
                refine lv_goto (tgt := 22) hx hb dX0_lifeOf_112 (by decide) ?_
                exact ih22_1 (k + 1) (pn_fy Y n k) (pn_ly Y n k) (lv + (((pn_ly Y n k) - (pn_fy Y n k)) + (nI 1))) (ev ||| (pn_sit P S O pa k)) (pn_sit P S O pa k) (by omega) (by first | omega | assumption | grind | simp_all) (by first | exact pn_life_f e1 (Or.inl b51) | exact pn_life_f e1 (Or.inr b60) | exact pn_life_t1 e1 b51 b60 b68 | exact pn_life_t2 e1 b51 b60 b68) rfl _ _ _ hP hS (lv_sub hl [5, 6, 7, 4, 3, 2, 1, 8, 0] rfl)
            · have b60 : ¬ (pn_fy Y n k ≤ pn_ly Y n k) := pn_b0.mp b60
              refine lv_goto (tgt := 109) hx hb dX0_lifeOf_63 (by decide) ?_
              refine lv_iinc (v := (nI (k + 1))) (lv' := [(8, .int (nI (k + 1))), (0, .ref h0), (1, .int pa), (2, .int (nI wh)), (3, .int f), (4, .int la), (5, .int lv), (6, .int ev), (7, .int (pn_sit P S O pa k))]) hx hb dX0_lifeOf_109 hl (k := 8) rfl (nI_add k 1) (by decide) rfl (fun ls hl => ?_)
              refine lv_goto (tgt := 22) hx hb dX0_lifeOf_112 (by decide) ?_
              exact ih22_1 (k + 1) f la lv ev (pn_sit P S O pa k) (by omega) (by first | omega | assumption | grind | simp_all) (by first | exact pn_life_f e1 (Or.inl b51) | exact pn_life_f e1 (Or.inr b60) | exact pn_life_t1 e1 b51 b60 b68 | exact pn_life_t2 e1 b51 b60 b68) rfl _ _ _ hP hS (lv_sub hl [1, 2, 3, 4, 5, 6, 7, 8, 0] rfl)
        · have b33 : ¬ k ≤ 0 := fun h => (show ¬ nI k ≤ nI 0 from b33) ((pn_le (by omega) (by omega)).mpr h)
          refine lv_aload_n hx hb dX0_lifeOf_36 rfl (lv_at hl 0 rfl) ?_
          refine lv_iload hx hb dX0_lifeOf_37 (lv_at hl 8 rfl) ?_
          refine lv_iconst (v := (nI 1)) hx hb dX0_lifeOf_39 (by decide) ?_
          refine pn_isub hx hb (by omega) dX0_lifeOf_40 ?_
          refine lv_iload_n hx hb dX0_lifeOf_41 rfl (lv_at hl 1 rfl) ?_
          refine lv_iload hx hb dX0_lifeOf_42 (lv_at hl 7 rfl) ?_
          refine pn_roi (w := [(h0, .inr (0, [.ref q1, .ref q2, .ref q3, .ref q4, .ref q5, .ref q6, .int (nI n), .int (nI F)])), (q1, .inl (cI, 30, .inl K)), (q2, .inl (cI, 30, .inl Y)), (q3, .inl (cI, 30, .inl P)), (q4, .inl (cI, 30, .inl S)), (q5, .inl (cI, 30, .inl O)), (q6, .inl (cL, 30, .inr (.inl N)))]) hP hS (va_runV (As := [.int (nI (k - 1)), .int pa, .int hd]) (rest := []) ⟨hx, hb, hml, hown, hts⟩ (c_X0_sitesThrough l D cI cL cZ cO h0 q1 q2 q3 q4 q5 q6 K Y P S O N n F (k - 1) pa hd (by first | omega | assumption | grind | simp_all) (by first | omega | assumption | grind | simp_all)) (cwV 3 hts gX0_lifeOf_X0_sitesThrough rfl rfl rfl (by decide +kernel) ⟨Nat.le_of_ble_eq_true rfl, Nat.le_of_ble_eq_true rfl⟩) (pn_pv hP hK (q0 := 0) rfl rfl) rfl rfl hl.1 rfl (lv_room (Nat.le_of_ble_eq_true rfl)) dX0_lifeOf_44 ⟨Nat.le_of_ble_eq_true rfl, Nat.le_of_ble_eq_true rfl⟩) (fun H locs hP hS => ?_)
          refine lv_istore (lv' := [(7, .int (pn_sitT P S O (k - 1) pa hd)), (0, .ref h0), (1, .int pa), (2, .int (nI wh)), (3, .int f), (4, .int la), (5, .int lv), (6, .int ev), (8, .int (nI k))]) hx hb dX0_lifeOf_47 hl (by decide) rfl (fun ls hl => ?_)
          rw [show (pn_sitT P S O (k - 1) pa hd) = (pn_sit P S O pa k) from (by rw [e5]; obtain ⟨j, rfl⟩ : ∃ j, k = j + 1 := ⟨k - 1, by omega⟩; rfl)] at hl
          refine lv_iload hx hb dX0_lifeOf_49 (lv_at hl 0 rfl) ?_
          refine lv_if_eq (tgt := 109) hx hb dX0_lifeOf_51 (by decide) (fun b51 => ?_) (fun b51 => ?_)
          · refine lv_iinc (v := (nI (k + 1))) (lv' := [(8, .int (nI (k + 1))), (7, .int (pn_sit P S O pa k)), (0, .ref h0), (1, .int pa), (2, .int (nI wh)), (3, .int f), (4, .int la), (5, .int lv), (6, .int ev)]) hx hb dX0_lifeOf_109 hl (k := 8) rfl (nI_add k 1) (by decide) rfl (fun ls hl => ?_)
            refine lv_goto (tgt := 22) hx hb dX0_lifeOf_112 (by decide) ?_
            exact ih22_1 (k + 1) f la lv ev (pn_sit P S O pa k) (by omega) (by first | omega | assumption | grind | simp_all) (by first | exact pn_life_f e1 (Or.inl b51) | exact pn_life_f e1 (Or.inr b60) | exact pn_life_t1 e1 b51 b60 b68 | exact pn_life_t2 e1 b51 b60 b68) rfl _ _ _ hP hS (lv_sub hl [2, 3, 4, 5, 6, 7, 8, 1, 0] rfl)
          · refine lv_aload_n hx hb dX0_lifeOf_54 rfl (lv_at hl 1 rfl) ?_
            refine lv_iload hx hb dX0_lifeOf_55 (lv_at hl 8 rfl) ?_
            refine pn_roi (w := [(h0, .inr (0, [.ref q1, .ref q2, .ref q3, .ref q4, .ref q5, .ref q6, .int (nI n), .int (nI F)])), (q1, .inl (cI, 30, .inl K)), (q2, .inl (cI, 30, .inl Y)), (q3, .inl (cI, 30, .inl P)), (q4, .inl (cI, 30, .inl S)), (q5, .inl (cI, 30, .inl O)), (q6, .inl (cL, 30, .inr (.inl N)))]) hP hS (va_runV (As := [.int (nI k)]) (rest := []) ⟨hx, hb, hml, hown, hts⟩ (c_X0_holdsInAYear l D cI cL cZ cO h0 q1 q2 q3 q4 q5 q6 K Y P S O N n F k (by first | omega | assumption | grind | simp_all) (by first | omega | assumption | grind | simp_all)) (cwV 1 hts gX0_lifeOf_X0_holdsInAYear rfl rfl rfl (by decide +kernel) ⟨Nat.le_of_ble_eq_true rfl, Nat.le_of_ble_eq_true rfl⟩) (pn_pv hP hK (q0 := 0) rfl rfl) rfl rfl hl.1 rfl (lv_room (Nat.le_of_ble_eq_true rfl)) dX0_lifeOf_57 ⟨Nat.le_of_ble_eq_true rfl, Nat.le_of_ble_eq_true rfl⟩) (fun H locs hP hS => ?_)
            refine lv_if_ne (tgt := 66) hx hb dX0_lifeOf_60 (by decide) (fun b60 => ?_) (fun b60 => ?_)
            · have b60 : pn_fy Y n k ≤ pn_ly Y n k := pn_b1.mp b60
              refine lv_iload hx hb dX0_lifeOf_66 (lv_at hl 6 rfl) ?_
              refine lv_if_ne (tgt := 78) hx hb dX0_lifeOf_68 (by decide) (fun b68 => ?_) (fun b68 => ?_)
              · refine lv_aload_n hx hb dX0_lifeOf_78 rfl (lv_at hl 1 rfl) ?_
                refine lv_iload hx hb dX0_lifeOf_79 (lv_at hl 8 rfl) ?_
                refine pn_roi (w := [(h0, .inr (0, [.ref q1, .ref q2, .ref q3, .ref q4, .ref q5, .ref q6, .int (nI n), .int (nI F)])), (q1, .inl (cI, 30, .inl K)), (q2, .inl (cI, 30, .inl Y)), (q3, .inl (cI, 30, .inl P)), (q4, .inl (cI, 30, .inl S)), (q5, .inl (cI, 30, .inl O)), (q6, .inl (cL, 30, .inr (.inl N)))]) hP hS (va_runV (As := [.int (nI k)]) (rest := []) ⟨hx, hb, hml, hown, hts⟩ (c_X0_lastYear l D cI cL cZ cO h0 q1 q2 q3 q4 q5 q6 K Y P S O N n F k (by first | omega | assumption | grind | simp_all) (by first | omega | assumption | grind | simp_all)) (cwV 1 hts gX0_lifeOf_X0_lastYear rfl rfl rfl (by decide +kernel) ⟨Nat.le_of_ble_eq_true rfl, Nat.le_of_ble_eq_true rfl⟩) (pn_pv hP hK (q0 := 0) rfl rfl) rfl rfl hl.1 rfl (lv_room (Nat.le_of_ble_eq_true rfl)) dX0_lifeOf_81 ⟨Nat.le_of_ble_eq_true rfl, Nat.le_of_ble_eq_true rfl⟩) (fun H locs hP hS => ?_)
                refine lv_istore (lv' := [(4, .int (pn_ly Y n k)), (7, .int (pn_sit P S O pa k)), (0, .ref h0), (1, .int pa), (2, .int (nI wh)), (3, .int f), (5, .int lv), (6, .int ev), (8, .int (nI k))]) hx hb dX0_lifeOf_84 hl (by decide) rfl (fun ls hl => ?_)
                refine lv_iload hx hb dX0_lifeOf_86 (lv_at hl 6 rfl) ?_
                refine lv_iload hx hb dX0_lifeOf_88 (lv_at hl 0 rfl) ?_
                refine lv_aload_n hx hb dX0_lifeOf_90 rfl (lv_at hl 2 rfl) ?_
                refine lv_iload hx hb dX0_lifeOf_91 (lv_at hl 8 rfl) ?_
                refine pn_roi (w := [(h0, .inr (0, [.ref q1, .ref q2, .ref q3, .ref q4, .ref q5, .ref q6, .int (nI n), .int (nI F)])), (q1, .inl (cI, 30, .inl K)), (q2, .inl (cI, 30, .inl Y)), (q3, .inl (cI, 30, .inl P)), (q4, .inl (cI, 30, .inl S)), (q5, .inl (cI, 30, .inl O)), (q6, .inl (cL, 30, .inr (.inl N)))]) hP hS (va_runV (As := [.int (nI k)]) (rest := [.int (pn_ly Y n k), .int lv]) ⟨hx, hb, hml, hown, hts⟩ (c_X0_firstYear l D cI cL cZ cO h0 q1 q2 q3 q4 q5 q6 K Y P S O N n F k (by first | omega | assumption | grind | simp_all) (by first | omega | assumption | grind | simp_all)) (cwV 1 hts gX0_lifeOf_X0_firstYear rfl rfl rfl (by decide +kernel) ⟨Nat.le_of_ble_eq_true rfl, Nat.le_of_ble_eq_true rfl⟩) (pn_pv hP hK (q0 := 0) rfl rfl) rfl rfl hl.1 rfl (lv_room (Nat.le_of_ble_eq_true rfl)) dX0_lifeOf_93 ⟨Nat.le_of_ble_eq_true rfl, Nat.le_of_ble_eq_true rfl⟩) (fun H locs hP hS => ?_)
                refine lv_isub hx hb dX0_lifeOf_96 ?_
                refine lv_iconst (v := (nI 1)) hx hb dX0_lifeOf_97 (by decide) ?_
                refine lv_iadd hx hb dX0_lifeOf_98 ?_
                refine lv_iadd hx hb dX0_lifeOf_99 ?_
                refine lv_istore (lv' := [(5, .int (lv + (((pn_ly Y n k) - (pn_fy Y n k)) + (nI 1)))), (4, .int (pn_ly Y n k)), (7, .int (pn_sit P S O pa k)), (0, .ref h0), (1, .int pa), (2, .int (nI wh)), (3, .int f), (6, .int ev), (8, .int (nI k))]) hx hb dX0_lifeOf_100 hl (by decide) rfl (fun ls hl => ?_)
                refine lv_iload hx hb dX0_lifeOf_102 (lv_at hl 7 rfl) ?_
                refine lv_iload hx hb dX0_lifeOf_104 (lv_at hl 2 rfl) ?_
                refine lv_ior hx hb dX0_lifeOf_106 ?_
                refine lv_istore (lv' := [(6, .int (ev ||| (pn_sit P S O pa k))), (5, .int (lv + (((pn_ly Y n k) - (pn_fy Y n k)) + (nI 1)))), (4, .int (pn_ly Y n k)), (7, .int (pn_sit P S O pa k)), (0, .ref h0), (1, .int pa), (2, .int (nI wh)), (3, .int f), (8, .int (nI k))]) hx hb dX0_lifeOf_107 hl (by decide) rfl (fun ls hl => ?_)
                refine lv_iinc (v := (nI (k + 1))) (lv' := [(8, .int (nI (k + 1))), (6, .int (ev ||| (pn_sit P S O pa k))), (5, .int (lv + (((pn_ly Y n k) - (pn_fy Y n k)) + (nI 1)))), (4, .int (pn_ly Y n k)), (7, .int (pn_sit P S O pa k)), (0, .ref h0), (1, .int pa), (2, .int (nI wh)), (3, .int f)]) hx hb dX0_lifeOf_109 hl (k := 8) rfl (nI_add k 1) (by decide) rfl (fun ls hl => ?_)
                refine lv_goto (tgt := 22) hx hb dX0_lifeOf_112 (by decide) ?_
                exact ih22_1 (k + 1) f (pn_ly Y n k) (lv + (((pn_ly Y n k) - (pn_fy Y n k)) + (nI 1))) (ev ||| (pn_sit P S O pa k)) (pn_sit P S O pa k) (by omega) (by first | omega | assumption | grind | simp_all) (by first | exact pn_life_f e1 (Or.inl b51) | exact pn_life_f e1 (Or.inr b60) | exact pn_life_t1 e1 b51 b60 b68 | exact pn_life_t2 e1 b51 b60 b68) rfl _ _ _ hP hS (lv_sub hl [5, 6, 7, 8, 3, 2, 1, 4, 0] rfl)
              · refine lv_aload_n hx hb dX0_lifeOf_71 rfl (lv_at hl 1 rfl) ?_
                refine lv_iload hx hb dX0_lifeOf_72 (lv_at hl 8 rfl) ?_
                refine pn_roi (w := [(h0, .inr (0, [.ref q1, .ref q2, .ref q3, .ref q4, .ref q5, .ref q6, .int (nI n), .int (nI F)])), (q1, .inl (cI, 30, .inl K)), (q2, .inl (cI, 30, .inl Y)), (q3, .inl (cI, 30, .inl P)), (q4, .inl (cI, 30, .inl S)), (q5, .inl (cI, 30, .inl O)), (q6, .inl (cL, 30, .inr (.inl N)))]) hP hS (va_runV (As := [.int (nI k)]) (rest := []) ⟨hx, hb, hml, hown, hts⟩ (c_X0_firstYear l D cI cL cZ cO h0 q1 q2 q3 q4 q5 q6 K Y P S O N n F k (by first | omega | assumption | grind | simp_all) (by first | omega | assumption | grind | simp_all)) (cwV 1 hts gX0_lifeOf_X0_firstYear rfl rfl rfl (by decide +kernel) ⟨Nat.le_of_ble_eq_true rfl, Nat.le_of_ble_eq_true rfl⟩) (pn_pv hP hK (q0 := 0) rfl rfl) rfl rfl hl.1 rfl (lv_room (Nat.le_of_ble_eq_true rfl)) dX0_lifeOf_74 ⟨Nat.le_of_ble_eq_true rfl, Nat.le_of_ble_eq_true rfl⟩) (fun H locs hP hS => ?_)
                refine lv_istore_n (lv' := [(3, .int (pn_fy Y n k)), (7, .int (pn_sit P S O pa k)), (0, .ref h0), (1, .int pa), (2, .int (nI wh)), (4, .int la), (5, .int lv), (6, .int ev), (8, .int (nI k))]) hx hb dX0_lifeOf_77 rfl hl (by decide) rfl (fun ls hl => ?_)
                refine lv_aload_n hx hb dX0_lifeOf_78 rfl (lv_at hl 2 rfl) ?_
                refine lv_iload hx hb dX0_lifeOf_79 (lv_at hl 8 rfl) ?_
                refine pn_roi (w := [(h0, .inr (0, [.ref q1, .ref q2, .ref q3, .ref q4, .ref q5, .ref q6, .int (nI n), .int (nI F)])), (q1, .inl (cI, 30, .inl K)), (q2, .inl (cI, 30, .inl Y)), (q3, .inl (cI, 30, .inl P)), (q4, .inl (cI, 30, .inl S)), (q5, .inl (cI, 30, .inl O)), (q6, .inl (cL, 30, .inr (.inl N)))]) hP hS (va_runV (As := [.int (nI k)]) (rest := []) ⟨hx, hb, hml, hown, hts⟩ (c_X0_lastYear l D cI cL cZ cO h0 q1 q2 q3 q4 q5 q6 K Y P S O N n F k (by first | omega | assumption | grind | simp_all) (by first | omega | assumption | grind | simp_all)) (cwV 1 hts gX0_lifeOf_X0_lastYear rfl rfl rfl (by decide +kernel) ⟨Nat.le_of_ble_eq_true rfl, Nat.le_of_ble_eq_true rfl⟩) (pn_pv hP hK (q0 := 0) rfl rfl) rfl rfl hl.1 rfl (lv_room (Nat.le_of_ble_eq_true rfl)) dX0_lifeOf_81 ⟨Nat.le_of_ble_eq_true rfl, Nat.le_of_ble_eq_true rfl⟩) (fun H locs hP hS => ?_)
                refine lv_istore (lv' := [(4, .int (pn_ly Y n k)), (3, .int (pn_fy Y n k)), (7, .int (pn_sit P S O pa k)), (0, .ref h0), (1, .int pa), (2, .int (nI wh)), (5, .int lv), (6, .int ev), (8, .int (nI k))]) hx hb dX0_lifeOf_84 hl (by decide) rfl (fun ls hl => ?_)
                refine lv_iload hx hb dX0_lifeOf_86 (lv_at hl 6 rfl) ?_
                refine lv_iload hx hb dX0_lifeOf_88 (lv_at hl 0 rfl) ?_
                refine lv_aload_n hx hb dX0_lifeOf_90 rfl (lv_at hl 3 rfl) ?_
                refine lv_iload hx hb dX0_lifeOf_91 (lv_at hl 8 rfl) ?_
                refine pn_roi (w := [(h0, .inr (0, [.ref q1, .ref q2, .ref q3, .ref q4, .ref q5, .ref q6, .int (nI n), .int (nI F)])), (q1, .inl (cI, 30, .inl K)), (q2, .inl (cI, 30, .inl Y)), (q3, .inl (cI, 30, .inl P)), (q4, .inl (cI, 30, .inl S)), (q5, .inl (cI, 30, .inl O)), (q6, .inl (cL, 30, .inr (.inl N)))]) hP hS (va_runV (As := [.int (nI k)]) (rest := [.int (pn_ly Y n k), .int lv]) ⟨hx, hb, hml, hown, hts⟩ (c_X0_firstYear l D cI cL cZ cO h0 q1 q2 q3 q4 q5 q6 K Y P S O N n F k (by first | omega | assumption | grind | simp_all) (by first | omega | assumption | grind | simp_all)) (cwV 1 hts gX0_lifeOf_X0_firstYear rfl rfl rfl (by decide +kernel) ⟨Nat.le_of_ble_eq_true rfl, Nat.le_of_ble_eq_true rfl⟩) (pn_pv hP hK (q0 := 0) rfl rfl) rfl rfl hl.1 rfl (lv_room (Nat.le_of_ble_eq_true rfl)) dX0_lifeOf_93 ⟨Nat.le_of_ble_eq_true rfl, Nat.le_of_ble_eq_true rfl⟩) (fun H locs hP hS => ?_)
                refine lv_isub hx hb dX0_lifeOf_96 ?_
                refine lv_iconst (v := (nI 1)) hx hb dX0_lifeOf_97 (by decide) ?_
                refine lv_iadd hx hb dX0_lifeOf_98 ?_
                refine lv_iadd hx hb dX0_lifeOf_99 ?_
                refine lv_istore (lv' := [(5, .int (lv + (((pn_ly Y n k) - (pn_fy Y n k)) + (nI 1)))), (4, .int (pn_ly Y n k)), (3, .int (pn_fy Y n k)), (7, .int (pn_sit P S O pa k)), (0, .ref h0), (1, .int pa), (2, .int (nI wh)), (6, .int ev), (8, .int (nI k))]) hx hb dX0_lifeOf_100 hl (by decide) rfl (fun ls hl => ?_)
                refine lv_iload hx hb dX0_lifeOf_102 (lv_at hl 7 rfl) ?_
                refine lv_iload hx hb dX0_lifeOf_104 (lv_at hl 3 rfl) ?_
                refine lv_ior hx hb dX0_lifeOf_106 ?_
                refine lv_istore (lv' := [(6, .int (ev ||| (pn_sit P S O pa k))), (5, .int (lv + (((pn_ly Y n k) - (pn_fy Y n k)) + (nI 1)))), (4, .int (pn_ly Y n k)), (3, .int (pn_fy Y n k)), (7, .int (pn_sit P S O pa k)), (0, .ref h0), (1, .int pa), (2, .int (nI wh)), (8, .int (nI k))]) hx hb dX0_lifeOf_107 hl (by decide) rfl (fun ls hl => ?_)
                refine lv_iinc (v := (nI (k + 1))) (lv' := [(8, .int (nI (k + 1))), (6, .int (ev ||| (pn_sit P S O pa k))), (5, .int (lv + (((pn_ly Y n k) - (pn_fy Y n k)) + (nI 1)))), (4, .int (pn_ly Y n k)), (3, .int (pn_fy Y n k)), (7, .int (pn_sit P S O pa k)), (0, .ref h0), (1, .int pa), (2, .int (nI wh))]) hx hb dX0_lifeOf_109 hl (k := 8) rfl (nI_add k 1) (by decide) rfl (fun ls hl => ?_)
                refine lv_goto (tgt := 22) hx hb dX0_lifeOf_112 (by decide) ?_
                exact ih22_1 (k + 1) (pn_fy Y n k) (pn_ly Y n k) (lv + (((pn_ly Y n k) - (pn_fy Y n k)) + (nI 1))) (ev ||| (pn_sit P S O pa k)) (pn_sit P S O pa k) (by omega) (by first | omega | assumption | grind | simp_all) (by first | exact pn_life_f e1 (Or.inl b51) | exact pn_life_f e1 (Or.inr b60) | exact pn_life_t1 e1 b51 b60 b68 | exact pn_life_t2 e1 b51 b60 b68) rfl _ _ _ hP hS (lv_sub hl [6, 7, 8, 4, 3, 2, 1, 5, 0] rfl)
            · have b60 : ¬ (pn_fy Y n k ≤ pn_ly Y n k) := pn_b0.mp b60
              refine lv_goto (tgt := 109) hx hb dX0_lifeOf_63 (by decide) ?_
              refine lv_iinc (v := (nI (k + 1))) (lv' := [(8, .int (nI (k + 1))), (7, .int (pn_sit P S O pa k)), (0, .ref h0), (1, .int pa), (2, .int (nI wh)), (3, .int f), (4, .int la), (5, .int lv), (6, .int ev)]) hx hb dX0_lifeOf_109 hl (k := 8) rfl (nI_add k 1) (by decide) rfl (fun ls hl => ?_)
              refine lv_goto (tgt := 22) hx hb dX0_lifeOf_112 (by decide) ?_
              exact ih22_1 (k + 1) f la lv ev (pn_sit P S O pa k) (by omega) (by first | omega | assumption | grind | simp_all) (by first | exact pn_life_f e1 (Or.inl b51) | exact pn_life_f e1 (Or.inr b60) | exact pn_life_t1 e1 b51 b60 b68 | exact pn_life_t2 e1 b51 b60 b68) rfl _ _ _ hP hS (lv_sub hl [2, 3, 4, 5, 6, 7, 8, 1, 0] rfl)
  exact lp22_1 ((n + 1 - 0) + 1) 0 (-6) (-6) (nI 0) (nI 0) (pn_sit0 pa) (Nat.lt_succ_self _) (by first | omega | assumption | grind | simp_all) rfl rfl _ _ _ hP hS (lv_sub hl [6, 7, 8, 5, 4, 3, 2, 1, 0] rfl)
