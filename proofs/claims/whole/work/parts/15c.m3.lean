theorem ih_X3_goTo_X3 : ∀ w ∈ wsX30, w ∈ wsX3_goTo := by decide +kernel
set_option maxHeartbeats 4000000 in
set_option maxRecDepth 100000 in
theorem c_X3_goTo (l : Launch) (D : va_G) (cI cL cZ cO : ClassId) (m0 m1 m2 m3 m4 m5 m6 m7 m8 m9 ma mb : Nat) (St Im Kp Pd : Nat → Int32) (sd : Nat) (Ow Nb Fi : Nat → Int32) (fl : Nat) (Se : Nat → Int32) (sl : Nat) (Fs : Nat → Int32) (fc : Nat) (Ss : Nat → Int32) (sc : Nat) (Co : Nat → Int32) (K Y P S O : Nat → Int32) (N : Nat → Int64) (n F : Nat) (pd : Int64) (yr : Int32) (hN : [m0, m1, m2, m3, m4, m5, m6, m7, m8, m9, ma, mb].Nodup) (hR : pn_rel St K Y P S O N n F) : Met l yX3_goTo wsX3_goTo ({ frames := 1, cells := 0, slots := 0, locals := 23 }) (va_Pc [.ref m0, .int yr] (pn_Pr D cI cL cZ cO [(m0, .inr (3, [.ref m1, .ref m2, .ref m3, .ref m4, .int (nI sd), .ref m5, .ref m6, .ref m7, .int (nI fl), .ref m8, .int (nI sl), .ref m9, .int (nI fc), .ref ma, .int (nI sc), .ref mb])), (m1, .inl (cI, 422, .inl St)), (m2, .inl (cI, 844, .inl Im)), (m3, .inl (cZ, 2, .inl Kp)), (m4, .inl (cI, 8, .inl Pd)), (m5, .inl (cI, 12, .inl Ow)), (m6, .inl (cI, 16, .inl Nb)), (m7, .inl (cI, 8, .inl Fi)), (m8, .inl (cI, 8, .inl Se)), (m9, .inl (cI, 4, .inl Fs)), (ma, .inl (cI, 4, .inl Ss)), (mb, .inl (cI, 81, .inl Co))])) (va_Qv (fun (_ : Unit) => True) (fun (_ : Unit) t => va_P D vwCl [(m0, .inr (3, [.ref m1, .ref m2, .ref m3, .ref m4, .int (nI sd), .ref m5, .ref m6, .ref m7, .int (nI fl), .ref m8, .int (nI sl), .ref m9, .int (nI fc), .ref ma, .int (nI sc), .ref mb])), (m1, .inl (cI, 422, .inl St)), (m2, .inl (cI, 844, .inl Im)), (m3, .inl (cZ, 2, .inl Kp)), (m4, .inl (cI, 8, .inl Pd)), (m5, .inl (cI, 12, .inl (fun t => pn_own S O t (pn_st Y yr n)))), (m6, .inl (cI, 16, .inl (fun q => pn_nb K P O q (pn_st Y yr n)))), (m7, .inl (cI, 8, .inl Fi)), (m8, .inl (cI, 8, .inl Se)), (m9, .inl (cI, 4, .inl Fs)), (ma, .inl (cI, 4, .inl Ss)), (mb, .inl (cI, 81, .inl Co))] t.heap) (pn_In [m0, m1, m2, m3, m4, m5, m6, m7, m8, m9, ma, mb])) 0 0 (pn_In [m0, m1, m2, m3, m4, m5, m6, m7, m8, m9, ma, mb]) := by
  refine pn_mk (by decide) rfl (Nat.le_of_ble_eq_true rfl) ?_
  intro p e s m below meth c ls hx hb hr hml hown hts hlocks hK hP hl
  have hown : s.vm.findClass RX3 = some m.cls := hown
  have hS : va_S (pn_In [m0, m1, m2, m3, m4, m5, m6, m7, m8, m9, ma, mb]) s.heap s.heap [] := va_S.rf
  have hl : lv_has ls 3 [(0, .ref m0), (1, .int yr)] := hl
  have hn30 := hR.n30
  have hF1 := hR.F1
  have hF16 := hR.F16
  refine lv_iconst (v := (nI 0)) hx hb dX3_goTo_0 (by decide) ?_
  refine lv_istore_n (lv' := [(2, .int (nI 0)), (0, .ref m0), (1, .int yr)]) hx hb dX3_goTo_1 rfl hl (by decide) rfl (fun ls hl => ?_)
  have lp2_1 : ∀ (fu : Nat) (k : Nat), n - k < fu → (k ≤ n) → (∀ i, i < k → Y i ≤ yr) → ∀ (H : Heap) (locs : List Loc) (ls : Array Slot), va_P D vwCl [(m0, .inr (3, [.ref m1, .ref m2, .ref m3, .ref m4, .int (nI sd), .ref m5, .ref m6, .ref m7, .int (nI fl), .ref m8, .int (nI sl), .ref m9, .int (nI fc), .ref ma, .int (nI sc), .ref mb])), (m1, .inl (cI, 422, .inl St)), (m2, .inl (cI, 844, .inl Im)), (m3, .inl (cZ, 2, .inl Kp)), (m4, .inl (cI, 8, .inl Pd)), (m5, .inl (cI, 12, .inl Ow)), (m6, .inl (cI, 16, .inl Nb)), (m7, .inl (cI, 8, .inl Fi)), (m8, .inl (cI, 8, .inl Se)), (m9, .inl (cI, 4, .inl Fs)), (ma, .inl (cI, 4, .inl Ss)), (mb, .inl (cI, 81, .inl Co))] H → va_S (pn_In [m0, m1, m2, m3, m4, m5, m6, m7, m8, m9, ma, mb]) s.heap H locs → lv_has ls 3 [(0, .ref m0), (1, .int yr), (2, .int (nI k))] → W p l e ({ frames := 1, cells := 0, slots := 0, locals := 23 }) s m (List.toArray [.ref m0, .int yr]) below meth c H locs 0 0 (MQ below (va_Qv (fun (_ : Unit) => True) (fun (_ : Unit) t => va_P D vwCl [(m0, .inr (3, [.ref m1, .ref m2, .ref m3, .ref m4, .int (nI sd), .ref m5, .ref m6, .ref m7, .int (nI fl), .ref m8, .int (nI sl), .ref m9, .int (nI fc), .ref ma, .int (nI sc), .ref mb])), (m1, .inl (cI, 422, .inl St)), (m2, .inl (cI, 844, .inl Im)), (m3, .inl (cZ, 2, .inl Kp)), (m4, .inl (cI, 8, .inl Pd)), (m5, .inl (cI, 12, .inl (fun t => pn_own S O t (pn_st Y yr n)))), (m6, .inl (cI, 16, .inl (fun q => pn_nb K P O q (pn_st Y yr n)))), (m7, .inl (cI, 8, .inl Fi)), (m8, .inl (cI, 8, .inl Se)), (m9, .inl (cI, 4, .inl Fs)), (ma, .inl (cI, 4, .inl Ss)), (mb, .inl (cI, 81, .inl Co))] t.heap) (pn_In [m0, m1, m2, m3, m4, m5, m6, m7, m8, m9, ma, mb])) (List.toArray [.ref m0, .int yr]) s 0 0 (pn_In [m0, m1, m2, m3, m4, m5, m6, m7, m8, m9, ma, mb])) (F0 m 2 ls []) := by
    intro fu
    induction fu with
    | zero => intro k hfu; exact absurd hfu (Nat.not_lt_zero _)
    | succ fu ih2_1 =>
      intro k hfu hk hp H locs ls hP hS hl
      refine lv_iload_n hx hb dX3_goTo_2 rfl (lv_at hl 2 rfl) ?_
      refine lv_aload_n hx hb dX3_goTo_3 rfl (lv_at hl 0 rfl) ?_
      refine va_get (D := D) (ci := 3) (v := .ref m1) (C := RX3) (T := TX3) (N := 16) hx hb hts ih_X3_goTo_X3 hown hK.1 hP 0 rfl rfl 0 (by decide) (hts (.fieldLink RX3 7 "ParishNamesModel" "state" "[I") (by decide +kernel)) (fun _ h9 => h9) rfl dX3_goTo_4 ?_
      refine lv_sipush (v := (nI 420)) hx hb dX3_goTo_7 (by decide) ?_
      refine pn_iald hx hb hK.1 hP 1 0 rfl rfl (i := 420) (by omega) (Nat.le_of_ble_eq_true rfl) dX3_goTo_10 ?_
      refine pn_top (y := (nI n)) hR.n0 ?_
      refine lv_icmp_ge (tgt := 33) hx hb dX3_goTo_11 (by decide) (fun b11 => ?_) (fun b11 => ?_)
      · have b11 : n ≤ k := (pn_le (by omega) (by omega)).mp (show nI n ≤ nI k from b11)
        have ek : k = pn_st Y yr n := (pn_cw_eq (fun i h => decide_eq_true (hp i h)) (by omega) (by first | exact Or.inl (by omega) | exact Or.inr (by rw [decide_eq_true_iff]; exact Int32.not_le.mpr b24))).symm
        refine lv_aload_n hx hb dX3_goTo_33 rfl (lv_at hl 0 rfl) ?_
        refine lv_iload_n hx hb dX3_goTo_34 rfl (lv_at hl 2 rfl) ?_
        refine pn_wrv hS (fun q h => h) (va_runV (As := [.int (nI k)]) (rest := []) ⟨hx, hb, hml, hown, hts⟩ (c_X3_goThrough l D cI cL cZ cO m0 m1 m2 m3 m4 m5 m6 m7 m8 m9 ma mb St Im Kp Pd sd Ow Nb Fi fl Se sl Fs fc Ss sc Co K Y P S O N n F pd k hN hR (by first | omega | assumption | grind | simp_all)) (cwV 1 hts gX3_goTo_X3_goThrough rfl rfl rfl (by decide +kernel) ⟨Nat.le_of_ble_eq_true rfl, Nat.le_of_ble_eq_true rfl⟩) (pn_pv hP hK (q0 := 0) rfl rfl) rfl rfl hl.1 rfl (lv_room (Nat.le_of_ble_eq_true rfl)) dX3_goTo_35 ⟨Nat.le_of_ble_eq_true rfl, Nat.le_of_ble_eq_true rfl⟩) (fun u_3 H1 locs hp_3 hP1 hk1 hS => ?_)
        have hP : va_P D vwCl [(m0, .inr (3, [.ref m1, .ref m2, .ref m3, .ref m4, .int (nI sd), .ref m5, .ref m6, .ref m7, .int (nI fl), .ref m8, .int (nI sl), .ref m9, .int (nI fc), .ref ma, .int (nI sc), .ref mb])), (m1, .inl (cI, 422, .inl St)), (m2, .inl (cI, 844, .inl Im)), (m3, .inl (cZ, 2, .inl Kp)), (m4, .inl (cI, 8, .inl Pd)), (m5, .inl (cI, 12, .inl (fun t => pn_own S O t k))), (m6, .inl (cI, 16, .inl (fun q => pn_nb K P O q k))), (m7, .inl (cI, 8, .inl Fi)), (m8, .inl (cI, 8, .inl Se)), (m9, .inl (cI, 4, .inl Fs)), (ma, .inl (cI, 4, .inl Ss)), (mb, .inl (cI, 81, .inl Co))] H1 := hP1
        clear hk1 hP1
        generalize H1 = H at hP hS ⊢
        rw [ek] at hP
        exact W.vret hx hb hr (fun t ht hW => ⟨⟨(), rfl, trivial, pn_atH ht hP⟩, hS.F ht⟩) hS.2.2 dX3_goTo_38 hlocks
      · have b11 : ¬ n ≤ k := fun h => (show ¬ nI n ≤ nI k from b11) ((pn_le (by omega) (by omega)).mpr h)
        refine lv_aload_n hx hb dX3_goTo_14 rfl (lv_at hl 0 rfl) ?_
        refine va_get (D := D) (ci := 3) (v := .ref m1) (C := RX3) (T := TX3) (N := 16) hx hb hts ih_X3_goTo_X3 hown hK.1 hP 0 rfl rfl 0 (by decide) (hts (.fieldLink RX3 7 "ParishNamesModel" "state" "[I") (by decide +kernel)) (fun _ h9 => h9) rfl dX3_goTo_15 ?_
        refine lv_bipush (v := (nI 30)) hx hb dX3_goTo_18 (by decide) ?_
        refine lv_iload_n hx hb dX3_goTo_20 rfl (lv_at hl 2 rfl) ?_
        refine pn_iadd hx hb dX3_goTo_21 ?_
        refine pn_iald hx hb hK.1 hP 1 0 rfl rfl (i := (30 + k)) (by omega) (Nat.le_of_ble_eq_true rfl) dX3_goTo_22 ?_
        refine pn_top (y := (Y k)) (hR.Y0 (by omega)) ?_
        refine lv_iload_n hx hb dX3_goTo_23 rfl (lv_at hl 1 rfl) ?_
        refine lv_icmp_gt (tgt := 33) hx hb dX3_goTo_24 (by decide) (fun b24 => ?_) (fun b24 => ?_)
        · have ek : k = pn_st Y yr n := (pn_cw_eq (fun i h => decide_eq_true (hp i h)) (by omega) (by first | exact Or.inl (by omega) | exact Or.inr (by rw [decide_eq_true_iff]; exact Int32.not_le.mpr b24))).symm
          refine lv_aload_n hx hb dX3_goTo_33 rfl (lv_at hl 0 rfl) ?_
          refine lv_iload_n hx hb dX3_goTo_34 rfl (lv_at hl 2 rfl) ?_
          refine pn_wrv hS (fun q h => h) (va_runV (As := [.int (nI k)]) (rest := []) ⟨hx, hb, hml, hown, hts⟩ (c_X3_goThrough l D cI cL cZ cO m0 m1 m2 m3 m4 m5 m6 m7 m8 m9 ma mb St Im Kp Pd sd Ow Nb Fi fl Se sl Fs fc Ss sc Co K Y P S O N n F pd k hN hR (by first | omega | assumption | grind | simp_all)) (cwV 1 hts gX3_goTo_X3_goThrough rfl rfl rfl (by decide +kernel) ⟨Nat.le_of_ble_eq_true rfl, Nat.le_of_ble_eq_true rfl⟩) (pn_pv hP hK (q0 := 0) rfl rfl) rfl rfl hl.1 rfl (lv_room (Nat.le_of_ble_eq_true rfl)) dX3_goTo_35 ⟨Nat.le_of_ble_eq_true rfl, Nat.le_of_ble_eq_true rfl⟩) (fun u_5 H1 locs hp_5 hP1 hk1 hS => ?_)
          have hP : va_P D vwCl [(m0, .inr (3, [.ref m1, .ref m2, .ref m3, .ref m4, .int (nI sd), .ref m5, .ref m6, .ref m7, .int (nI fl), .ref m8, .int (nI sl), .ref m9, .int (nI fc), .ref ma, .int (nI sc), .ref mb])), (m1, .inl (cI, 422, .inl St)), (m2, .inl (cI, 844, .inl Im)), (m3, .inl (cZ, 2, .inl Kp)), (m4, .inl (cI, 8, .inl Pd)), (m5, .inl (cI, 12, .inl (fun t => pn_own S O t k))), (m6, .inl (cI, 16, .inl (fun q => pn_nb K P O q k))), (m7, .inl (cI, 8, .inl Fi)), (m8, .inl (cI, 8, .inl Se)), (m9, .inl (cI, 4, .inl Fs)), (ma, .inl (cI, 4, .inl Ss)), (mb, .inl (cI, 81, .inl Co))] H1 := hP1
          clear hk1 hP1
          generalize H1 = H at hP hS ⊢
          rw [ek] at hP
          exact W.vret hx hb hr (fun t ht hW => ⟨⟨(), rfl, trivial, pn_atH ht hP⟩, hS.F ht⟩) hS.2.2 dX3_goTo_38 hlocks
        · refine lv_iinc (v := (nI (k + 1))) (lv' := [(2, .int (nI (k + 1))), (0, .ref m0), (1, .int yr)]) hx hb dX3_goTo_27 hl (k := 2) rfl (nI_add k 1) (by decide) rfl (fun ls hl => ?_)
          refine lv_goto (tgt := 2) hx hb dX3_goTo_30 (by decide) ?_
          exact ih2_1 (k + 1) (by omega) (by first | omega | assumption | grind | simp_all) (lt_s hp (Int32.not_lt.mp b24)) _ _ _ hP hS (lv_sub hl [1, 2, 0] rfl)
  exact lp2_1 ((n - 0) + 1) 0 (Nat.lt_succ_self _) (by first | omega | assumption | grind | simp_all) (fun i h => absurd h (Nat.not_lt_zero _)) _ _ _ hP hS (lv_sub hl [1, 2, 0] rfl)

theorem ih_X3_goToEnd_X3 : ∀ w ∈ wsX30, w ∈ wsX3_goToEnd := by decide +kernel
set_option maxHeartbeats 4000000 in
set_option maxRecDepth 100000 in
theorem c_X3_goToEnd (l : Launch) (D : va_G) (cI cL cZ cO : ClassId) (m0 m1 m2 m3 m4 m5 m6 m7 m8 m9 ma mb : Nat) (St Im Kp Pd : Nat → Int32) (sd : Nat) (Ow Nb Fi : Nat → Int32) (fl : Nat) (Se : Nat → Int32) (sl : Nat) (Fs : Nat → Int32) (fc : Nat) (Ss : Nat → Int32) (sc : Nat) (Co : Nat → Int32) (K Y P S O : Nat → Int32) (N : Nat → Int64) (n F : Nat) (pd : Int64) (hN : [m0, m1, m2, m3, m4, m5, m6, m7, m8, m9, ma, mb].Nodup) (hR : pn_rel St K Y P S O N n F) : Met l yX3_goToEnd wsX3_goToEnd ({ frames := 1, cells := 0, slots := 0, locals := 23 }) (va_Pc [.ref m0] (pn_Pr D cI cL cZ cO [(m0, .inr (3, [.ref m1, .ref m2, .ref m3, .ref m4, .int (nI sd), .ref m5, .ref m6, .ref m7, .int (nI fl), .ref m8, .int (nI sl), .ref m9, .int (nI fc), .ref ma, .int (nI sc), .ref mb])), (m1, .inl (cI, 422, .inl St)), (m2, .inl (cI, 844, .inl Im)), (m3, .inl (cZ, 2, .inl Kp)), (m4, .inl (cI, 8, .inl Pd)), (m5, .inl (cI, 12, .inl Ow)), (m6, .inl (cI, 16, .inl Nb)), (m7, .inl (cI, 8, .inl Fi)), (m8, .inl (cI, 8, .inl Se)), (m9, .inl (cI, 4, .inl Fs)), (ma, .inl (cI, 4, .inl Ss)), (mb, .inl (cI, 81, .inl Co))])) (va_Qv (fun (_ : Unit) => True) (fun (_ : Unit) t => va_P D vwCl [(m0, .inr (3, [.ref m1, .ref m2, .ref m3, .ref m4, .int (nI sd), .ref m5, .ref m6, .ref m7, .int (nI fl), .ref m8, .int (nI sl), .ref m9, .int (nI fc), .ref ma, .int (nI sc), .ref mb])), (m1, .inl (cI, 422, .inl St)), (m2, .inl (cI, 844, .inl Im)), (m3, .inl (cZ, 2, .inl Kp)), (m4, .inl (cI, 8, .inl Pd)), (m5, .inl (cI, 12, .inl (fun t => pn_own S O t n))), (m6, .inl (cI, 16, .inl (fun q => pn_nb K P O q n))), (m7, .inl (cI, 8, .inl Fi)), (m8, .inl (cI, 8, .inl Se)), (m9, .inl (cI, 4, .inl Fs)), (ma, .inl (cI, 4, .inl Ss)), (mb, .inl (cI, 81, .inl Co))] t.heap) (pn_In [m0, m1, m2, m3, m4, m5, m6, m7, m8, m9, ma, mb])) 0 0 (pn_In [m0, m1, m2, m3, m4, m5, m6, m7, m8, m9, ma, mb]) := by
  refine pn_mk (by decide) rfl (Nat.le_of_ble_eq_true rfl) ?_
  intro p e s m below meth c ls hx hb hr hml hown hts hlocks hK hP hl
  have hown : s.vm.findClass RX3 = some m.cls := hown
  have hS : va_S (pn_In [m0, m1, m2, m3, m4, m5, m6, m7, m8, m9, ma, mb]) s.heap s.heap [] := va_S.rf
  have hl : lv_has ls 1 [(0, .ref m0)] := hl
  have hn30 := hR.n30
  have hF1 := hR.F1
  have hF16 := hR.F16
  refine lv_aload_n hx hb dX3_goToEnd_0 rfl (lv_at hl 0 rfl) ?_
  refine lv_aload_n hx hb dX3_goToEnd_1 rfl (lv_at hl 0 rfl) ?_
  refine va_get (D := D) (ci := 3) (v := .ref m1) (C := RX3) (T := TX3) (N := 16) hx hb hts ih_X3_goToEnd_X3 hown hK.1 hP 0 rfl rfl 0 (by decide) (hts (.fieldLink RX3 7 "ParishNamesModel" "state" "[I") (by decide +kernel)) (fun _ h9 => h9) rfl dX3_goToEnd_2 ?_
  refine lv_sipush (v := (nI 420)) hx hb dX3_goToEnd_5 (by decide) ?_
  refine pn_iald hx hb hK.1 hP 1 0 rfl rfl (i := 420) (by omega) (Nat.le_of_ble_eq_true rfl) dX3_goToEnd_8 ?_
  refine pn_top (y := (nI n)) hR.n0 ?_
  refine pn_wrv hS (fun q h => h) (va_runV (As := [.int (nI n)]) (rest := []) ⟨hx, hb, hml, hown, hts⟩ (c_X3_goThrough l D cI cL cZ cO m0 m1 m2 m3 m4 m5 m6 m7 m8 m9 ma mb St Im Kp Pd sd Ow Nb Fi fl Se sl Fs fc Ss sc Co K Y P S O N n F pd n hN hR (by first | omega | assumption | grind | simp_all)) (cwV 1 hts gX3_goToEnd_X3_goThrough rfl rfl rfl (by decide +kernel) ⟨Nat.le_of_ble_eq_true rfl, Nat.le_of_ble_eq_true rfl⟩) (pn_pv hP hK (q0 := 0) rfl rfl) rfl rfl hl.1 rfl (lv_room (Nat.le_of_ble_eq_true rfl)) dX3_goToEnd_9 ⟨Nat.le_of_ble_eq_true rfl, Nat.le_of_ble_eq_true rfl⟩) (fun u_1 H1 locs hp_1 hP1 hk1 hS => ?_)
  have hP : va_P D vwCl [(m0, .inr (3, [.ref m1, .ref m2, .ref m3, .ref m4, .int (nI sd), .ref m5, .ref m6, .ref m7, .int (nI fl), .ref m8, .int (nI sl), .ref m9, .int (nI fc), .ref ma, .int (nI sc), .ref mb])), (m1, .inl (cI, 422, .inl St)), (m2, .inl (cI, 844, .inl Im)), (m3, .inl (cZ, 2, .inl Kp)), (m4, .inl (cI, 8, .inl Pd)), (m5, .inl (cI, 12, .inl (fun t => pn_own S O t n))), (m6, .inl (cI, 16, .inl (fun q => pn_nb K P O q n))), (m7, .inl (cI, 8, .inl Fi)), (m8, .inl (cI, 8, .inl Se)), (m9, .inl (cI, 4, .inl Fs)), (ma, .inl (cI, 4, .inl Ss)), (mb, .inl (cI, 81, .inl Co))] H1 := hP1
  clear hk1 hP1
  generalize H1 = H at hP hS ⊢
  exact W.vret hx hb hr (fun t ht hW => ⟨⟨(), rfl, trivial, pn_atH ht hP⟩, hS.F ht⟩) hS.2.2 dX3_goToEnd_12 hlocks

theorem ih_X3_sitesOf_X3 : ∀ w ∈ wsX30, w ∈ wsX3_sitesOf := by decide +kernel
set_option maxHeartbeats 4000000 in
set_option maxRecDepth 100000 in
theorem c_X3_sitesOf (l : Launch) (D : va_G) (cI cL cZ cO : ClassId) (m0 m1 m2 m3 m4 m5 m6 m7 m8 m9 ma mb : Nat) (St Im Kp Pd : Nat → Int32) (sd : Nat) (Fi : Nat → Int32) (fl : Nat) (Se : Nat → Int32) (sl : Nat) (Fs : Nat → Int32) (fc : Nat) (Ss : Nat → Int32) (sc : Nat) (Co : Nat → Int32) (K Y P S O : Nat → Int32) (N : Nat → Int64) (n F : Nat) (pd : Int64) (g : Nat) (pa : Int32) (hR : pn_rel St K Y P S O N n F) (hg : g ≤ n) : Met l yX3_sitesOf wsX3_sitesOf ({ frames := 0, cells := 0, slots := 0, locals := 0 }) (va_Pc [.ref m0, .int pa] (pn_Pr D cI cL cZ cO [(m0, .inr (3, [.ref m1, .ref m2, .ref m3, .ref m4, .int (nI sd), .ref m5, .ref m6, .ref m7, .int (nI fl), .ref m8, .int (nI sl), .ref m9, .int (nI fc), .ref ma, .int (nI sc), .ref mb])), (m1, .inl (cI, 422, .inl St)), (m2, .inl (cI, 844, .inl Im)), (m3, .inl (cZ, 2, .inl Kp)), (m4, .inl (cI, 8, .inl Pd)), (m5, .inl (cI, 12, .inl (fun t => pn_own S O t g))), (m6, .inl (cI, 16, .inl (fun q => pn_nb K P O q g))), (m7, .inl (cI, 8, .inl Fi)), (m8, .inl (cI, 8, .inl Se)), (m9, .inl (cI, 4, .inl Fs)), (ma, .inl (cI, 4, .inl Ss)), (mb, .inl (cI, 81, .inl Co))])) (va_Qi (fun r (_ : Unit) => r = (pn_sit P S O pa g)) (fun _ _ => True) pn_No) 0 0 pn_No := by
  refine pn_mk (by decide) rfl (Nat.le_of_ble_eq_true rfl) ?_
  intro p e s m below meth c ls hx hb hr hml hown hts hlocks hK hP hl
  have hown : s.vm.findClass RX3 = some m.cls := hown
  have hS : va_S pn_No s.heap s.heap [] := va_S.rf
  have hl : lv_has ls 4 [(0, .ref m0), (1, .int pa)] := hl
  have hn30 := hR.n30
  have hF1 := hR.F1
  have hF16 := hR.F16
  refine lv_iconst (v := (nI 0)) hx hb dX3_sitesOf_0 (by decide) ?_
  refine lv_istore_n (lv' := [(2, .int (nI 0)), (0, .ref m0), (1, .int pa)]) hx hb dX3_sitesOf_1 rfl hl (by decide) rfl (fun ls hl => ?_)
  refine lv_iconst (v := (nI 0)) hx hb dX3_sitesOf_2 (by decide) ?_
  refine lv_istore_n (lv' := [(3, .int (nI 0)), (2, .int (nI 0)), (0, .ref m0), (1, .int pa)]) hx hb dX3_sitesOf_3 rfl hl (by decide) rfl (fun ls hl => ?_)
  have lp4_1 : ∀ (fu : Nat) (k : Nat) (ac : Int32), 12 - k < fu → (k ≤ 12) → (ac = pn_om (fun t => pn_own S O t g) pa k) → ∀ (H : Heap) (locs : List Loc) (ls : Array Slot), va_P D vwCl [(m0, .inr (3, [.ref m1, .ref m2, .ref m3, .ref m4, .int (nI sd), .ref m5, .ref m6, .ref m7, .int (nI fl), .ref m8, .int (nI sl), .ref m9, .int (nI fc), .ref ma, .int (nI sc), .ref mb])), (m1, .inl (cI, 422, .inl St)), (m2, .inl (cI, 844, .inl Im)), (m3, .inl (cZ, 2, .inl Kp)), (m4, .inl (cI, 8, .inl Pd)), (m5, .inl (cI, 12, .inl (fun t => pn_own S O t g))), (m6, .inl (cI, 16, .inl (fun q => pn_nb K P O q g))), (m7, .inl (cI, 8, .inl Fi)), (m8, .inl (cI, 8, .inl Se)), (m9, .inl (cI, 4, .inl Fs)), (ma, .inl (cI, 4, .inl Ss)), (mb, .inl (cI, 81, .inl Co))] H → va_S pn_No s.heap H locs → lv_has ls 4 [(0, .ref m0), (1, .int pa), (2, .int ac), (3, .int (nI k))] → W p l e ({ frames := 0, cells := 0, slots := 0, locals := 0 }) s m (List.toArray [.ref m0, .int pa]) below meth c H locs 0 0 (MQ below (va_Qi (fun r (_ : Unit) => r = (pn_sit P S O pa g)) (fun _ _ => True) pn_No) (List.toArray [.ref m0, .int pa]) s 0 0 pn_No) (F0 m 4 ls []) := by
    intro fu
    induction fu with
    | zero => intro k ac hfu; exact absurd hfu (Nat.not_lt_zero _)
    | succ fu ih4_1 =>
      intro k ac hfu hk e1 H locs ls hP hS hl
      refine lv_iload_n hx hb dX3_sitesOf_4 rfl (lv_at hl 3 rfl) ?_
      refine lv_bipush (v := (nI 12)) hx hb dX3_sitesOf_5 (by decide) ?_
      refine lv_icmp_ge (tgt := 36) hx hb dX3_sitesOf_7 (by decide) (fun b7 => ?_) (fun b7 => ?_)
      · have b7 : 12 ≤ k := (pn_le (by omega) (by omega)).mp (show nI 12 ≤ nI k from b7)
        refine lv_iload_n hx hb dX3_sitesOf_36 rfl (lv_at hl 2 rfl) ?_
        exact W.iret hx hb hr (fun t ht hW => ⟨⟨_, (), rfl, (by rw [e1, show k = 12 by omega]; exact pn_om_eq hR hg pa), trivial⟩, hS.F ht⟩) hS.2.2 dX3_sitesOf_37 hlocks
      · have b7 : ¬ 12 ≤ k := fun h => (show ¬ nI 12 ≤ nI k from b7) ((pn_le (by omega) (by omega)).mpr h)
        refine lv_iload_n hx hb dX3_sitesOf_10 rfl (lv_at hl 2 rfl) ?_
        refine lv_aload_n hx hb dX3_sitesOf_11 rfl (lv_at hl 0 rfl) ?_
        refine va_get (D := D) (ci := 3) (v := .ref m5) (C := RX3) (T := TX3) (N := 16) hx hb hts ih_X3_sitesOf_X3 hown hK.1 hP 0 rfl rfl 5 (by decide) (hts (.fieldLink RX3 23 "ParishNamesModel" "owner" "[I") (by decide +kernel)) (fun _ h9 => h9) rfl dX3_sitesOf_12 ?_
        refine lv_iload_n hx hb dX3_sitesOf_15 rfl (lv_at hl 3 rfl) ?_
        refine pn_iald hx hb hK.1 hP 5 0 rfl rfl (i := k) (by omega) (Nat.le_of_ble_eq_true rfl) dX3_sitesOf_16 ?_
        refine lv_iload_n hx hb dX3_sitesOf_17 rfl (lv_at hl 1 rfl) ?_
        refine lv_icmp_ne (tgt := 27) hx hb dX3_sitesOf_18 (by decide) (fun b18 => ?_) (fun b18 => ?_)
        · refine lv_iconst (v := (nI 0)) hx hb dX3_sitesOf_27 (by decide) ?_
          refine lv_ior hx hb dX3_sitesOf_28 ?_
          refine lv_istore_n (lv' := [(2, .int (ac ||| (nI 0))), (0, .ref m0), (1, .int pa), (3, .int (nI k))]) hx hb dX3_sitesOf_29 rfl hl (by decide) rfl (fun ls hl => ?_)
          refine lv_iinc (v := (nI (k + 1))) (lv' := [(3, .int (nI (k + 1))), (2, .int (ac ||| (nI 0))), (0, .ref m0), (1, .int pa)]) hx hb dX3_sitesOf_30 hl (k := 3) rfl (nI_add k 1) (by decide) rfl (fun ls hl => ?_)
          refine lv_goto (tgt := 4) hx hb dX3_sitesOf_33 (by decide) ?_
          exact ih4_1 (k + 1) (ac ||| (nI 0)) (by omega) (by first | omega | assumption | grind | simp_all) (by first | exact pn_omt e1 b18 | exact pn_omf e1 b18) _ _ _ hP hS (lv_sub hl [2, 3, 1, 0] rfl)
        · refine lv_iconst (v := (nI 1)) hx hb dX3_sitesOf_21 (by decide) ?_
          refine lv_iload_n hx hb dX3_sitesOf_22 rfl (lv_at hl 3 rfl) ?_
          refine lv_ishl hx hb dX3_sitesOf_23 ?_
          refine lv_goto (tgt := 28) hx hb dX3_sitesOf_24 (by decide) ?_
          refine lv_ior hx hb dX3_sitesOf_28 ?_
          refine lv_istore_n (lv' := [(2, .int (ac ||| ((nI 1) <<< ((nI k) &&& 31)))), (0, .ref m0), (1, .int pa), (3, .int (nI k))]) hx hb dX3_sitesOf_29 rfl hl (by decide) rfl (fun ls hl => ?_)
          refine lv_iinc (v := (nI (k + 1))) (lv' := [(3, .int (nI (k + 1))), (2, .int (ac ||| ((nI 1) <<< ((nI k) &&& 31)))), (0, .ref m0), (1, .int pa)]) hx hb dX3_sitesOf_30 hl (k := 3) rfl (nI_add k 1) (by decide) rfl (fun ls hl => ?_)
          refine lv_goto (tgt := 4) hx hb dX3_sitesOf_33 (by decide) ?_
          exact ih4_1 (k + 1) (ac ||| ((nI 1) <<< ((nI k) &&& 31))) (by omega) (by first | omega | assumption | grind | simp_all) (by first | exact pn_omt e1 b18 | exact pn_omf e1 b18) _ _ _ hP hS (lv_sub hl [2, 3, 1, 0] rfl)
  exact lp4_1 ((12 - 0) + 1) 0 (nI 0) (Nat.lt_succ_self _) (by first | omega | assumption | grind | simp_all) rfl _ _ _ hP hS (lv_sub hl [2, 3, 1, 0] rfl)

theorem ih_X3_lettersOf_X3 : ∀ w ∈ wsX30, w ∈ wsX3_lettersOf := by decide +kernel
set_option maxHeartbeats 4000000 in
set_option maxRecDepth 100000 in
theorem c_X3_lettersOf (l : Launch) (D : va_G) (cI cL cZ cO : ClassId) (m0 m1 m2 m3 m4 m5 m6 m7 m8 m9 ma mb : Nat) (St Im Kp Pd : Nat → Int32) (sd : Nat) (Fi : Nat → Int32) (fl : Nat) (Se : Nat → Int32) (sl : Nat) (Fs : Nat → Int32) (fc : Nat) (Ss : Nat → Int32) (sc : Nat) (Co : Nat → Int32) (K Y P S O : Nat → Int32) (N : Nat → Int64) (n F : Nat) (pd : Int64) (g : Nat) (q : Nat) (hR : pn_rel St K Y P S O N n F) (hg : g ≤ n) (hq : q < 16) : Met l yX3_lettersOf wsX3_lettersOf ({ frames := 0, cells := 0, slots := 0, locals := 0 }) (va_Pc [.ref m0, .int (nI q)] (pn_Pr D cI cL cZ cO [(m0, .inr (3, [.ref m1, .ref m2, .ref m3, .ref m4, .int (nI sd), .ref m5, .ref m6, .ref m7, .int (nI fl), .ref m8, .int (nI sl), .ref m9, .int (nI fc), .ref ma, .int (nI sc), .ref mb])), (m1, .inl (cI, 422, .inl St)), (m2, .inl (cI, 844, .inl Im)), (m3, .inl (cZ, 2, .inl Kp)), (m4, .inl (cI, 8, .inl Pd)), (m5, .inl (cI, 12, .inl (fun t => pn_own S O t g))), (m6, .inl (cI, 16, .inl (fun q => pn_nb K P O q g))), (m7, .inl (cI, 8, .inl Fi)), (m8, .inl (cI, 8, .inl Se)), (m9, .inl (cI, 4, .inl Fs)), (ma, .inl (cI, 4, .inl Ss)), (mb, .inl (cI, 81, .inl Co))])) (va_Qi (fun r (_ : Unit) => r = (nI (pn_len (pn_mn K P O N q g)))) (fun _ _ => True) pn_No) 0 0 pn_No := by
  refine pn_mk (by decide) rfl (Nat.le_of_ble_eq_true rfl) ?_
  intro p e s m below meth c ls hx hb hr hml hown hts hlocks hK hP hl
  have hown : s.vm.findClass RX3 = some m.cls := hown
  have hS : va_S pn_No s.heap s.heap [] := va_S.rf
  have hl : lv_has ls 2 [(0, .ref m0), (1, .int (nI q))] := hl
  have hn30 := hR.n30
  have hF1 := hR.F1
  have hF16 := hR.F16
  refine lv_aload_n hx hb dX3_lettersOf_0 rfl (lv_at hl 0 rfl) ?_
  refine va_get (D := D) (ci := 3) (v := .ref m6) (C := RX3) (T := TX3) (N := 16) hx hb hts ih_X3_lettersOf_X3 hown hK.1 hP 0 rfl rfl 6 (by decide) (hts (.fieldLink RX3 26 "ParishNamesModel" "namedBy" "[I") (by decide +kernel)) (fun _ h9 => h9) rfl dX3_lettersOf_1 ?_
  refine lv_iload_n hx hb dX3_lettersOf_4 rfl (lv_at hl 1 rfl) ?_
  refine pn_iald hx hb hK.1 hP 6 0 rfl rfl (i := q) (by omega) (Nat.le_of_ble_eq_true rfl) dX3_lettersOf_5 ?_
  refine lv_if_ge (tgt := 13) hx hb dX3_lettersOf_6 (by decide) (fun b6 => ?_) (fun b6 => ?_)
  · obtain ⟨ie, hie, eie, emn, ekn⟩ := pn_nb_p N b6
    refine lv_aload_n hx hb dX3_lettersOf_13 rfl (lv_at hl 0 rfl) ?_
    refine va_get (D := D) (ci := 3) (v := .ref m1) (C := RX3) (T := TX3) (N := 16) hx hb hts ih_X3_lettersOf_X3 hown hK.1 hP 0 rfl rfl 0 (by decide) (hts (.fieldLink RX3 7 "ParishNamesModel" "state" "[I") (by decide +kernel)) (fun _ h9 => h9) rfl dX3_lettersOf_14 ?_
    refine lv_sipush (v := (nI 390)) hx hb dX3_lettersOf_17 (by decide) ?_
    refine lv_aload_n hx hb dX3_lettersOf_20 rfl (lv_at hl 0 rfl) ?_
    refine va_get (D := D) (ci := 3) (v := .ref m6) (C := RX3) (T := TX3) (N := 16) hx hb hts ih_X3_lettersOf_X3 hown hK.1 hP 0 rfl rfl 6 (by decide) (hts (.fieldLink RX3 26 "ParishNamesModel" "namedBy" "[I") (by decide +kernel)) (fun _ h9 => h9) rfl dX3_lettersOf_21 ?_
    refine lv_iload_n hx hb dX3_lettersOf_24 rfl (lv_at hl 1 rfl) ?_
    refine pn_iald hx hb hK.1 hP 6 0 rfl rfl (i := q) (by omega) (Nat.le_of_ble_eq_true rfl) dX3_lettersOf_25 ?_
    refine pn_top (y := (nI ie)) eie ?_
    refine pn_iadd hx hb dX3_lettersOf_26 ?_
    refine pn_iald hx hb hK.1 hP 1 0 rfl rfl (i := (390 + ie)) (by omega) (Nat.le_of_ble_eq_true rfl) dX3_lettersOf_27 ?_
    exact W.iret hx hb hr (fun t ht hW => ⟨⟨_, (), rfl, (by rw [emn]; exact (hR.nm (by omega) ekn).2.1), trivial⟩, hS.F ht⟩) hS.2.2 dX3_lettersOf_28 hlocks
  · refine lv_iconst (v := (nI 1)) hx hb dX3_lettersOf_9 (by decide) ?_
    refine lv_goto (tgt := 28) hx hb dX3_lettersOf_10 (by decide) ?_
    exact W.iret hx hb hr (fun t ht hW => ⟨⟨_, (), rfl, (by rw [pn_nb_n (by omega) b6]; decide +kernel), trivial⟩, hS.F ht⟩) hS.2.2 dX3_lettersOf_28 hlocks

theorem ih_X3_letterOf_X3 : ∀ w ∈ wsX30, w ∈ wsX3_letterOf := by decide +kernel
set_option maxHeartbeats 4000000 in
set_option maxRecDepth 100000 in
theorem c_X3_letterOf (l : Launch) (D : va_G) (cI cL cZ cO : ClassId) (m0 m1 m2 m3 m4 m5 m6 m7 m8 m9 ma mb : Nat) (St Im Kp Pd : Nat → Int32) (sd : Nat) (Fi : Nat → Int32) (fl : Nat) (Se : Nat → Int32) (sl : Nat) (Fs : Nat → Int32) (fc : Nat) (Ss : Nat → Int32) (sc : Nat) (Co : Nat → Int32) (K Y P S O : Nat → Int32) (N : Nat → Int64) (n F : Nat) (pd : Int64) (g : Nat) (q : Nat) (j : Nat) (hR : pn_rel St K Y P S O N n F) (hg : g ≤ n) (hq : q < 16) (hj : j < pn_len (pn_mn K P O N q g)) : Met l yX3_letterOf wsX3_letterOf ({ frames := 0, cells := 0, slots := 0, locals := 0 }) (va_Pc [.ref m0, .int (nI q), .int (nI j)] (pn_Pr D cI cL cZ cO [(m0, .inr (3, [.ref m1, .ref m2, .ref m3, .ref m4, .int (nI sd), .ref m5, .ref m6, .ref m7, .int (nI fl), .ref m8, .int (nI sl), .ref m9, .int (nI fc), .ref ma, .int (nI sc), .ref mb])), (m1, .inl (cI, 422, .inl St)), (m2, .inl (cI, 844, .inl Im)), (m3, .inl (cZ, 2, .inl Kp)), (m4, .inl (cI, 8, .inl Pd)), (m5, .inl (cI, 12, .inl (fun t => pn_own S O t g))), (m6, .inl (cI, 16, .inl (fun q => pn_nb K P O q g))), (m7, .inl (cI, 8, .inl Fi)), (m8, .inl (cI, 8, .inl Se)), (m9, .inl (cI, 4, .inl Fs)), (ma, .inl (cI, 4, .inl Ss)), (mb, .inl (cI, 81, .inl Co))])) (va_Qi (fun r (_ : Unit) => r = (pn_let (pn_mn K P O N q g) j)) (fun _ _ => True) pn_No) 0 0 pn_No := by
  refine pn_mk (by decide) rfl (Nat.le_of_ble_eq_true rfl) ?_
  intro p e s m below meth c ls hx hb hr hml hown hts hlocks hK hP hl
  have hown : s.vm.findClass RX3 = some m.cls := hown
  have hS : va_S pn_No s.heap s.heap [] := va_S.rf
  have hl : lv_has ls 3 [(0, .ref m0), (1, .int (nI q)), (2, .int (nI j))] := hl
  have hn30 := hR.n30
  have hF1 := hR.F1
  have hF16 := hR.F16
  refine lv_aload_n hx hb dX3_letterOf_0 rfl (lv_at hl 0 rfl) ?_
  refine va_get (D := D) (ci := 3) (v := .ref m6) (C := RX3) (T := TX3) (N := 16) hx hb hts ih_X3_letterOf_X3 hown hK.1 hP 0 rfl rfl 6 (by decide) (hts (.fieldLink RX3 26 "ParishNamesModel" "namedBy" "[I") (by decide +kernel)) (fun _ h9 => h9) rfl dX3_letterOf_1 ?_
  refine lv_iload_n hx hb dX3_letterOf_4 rfl (lv_at hl 1 rfl) ?_
  refine pn_iald hx hb hK.1 hP 6 0 rfl rfl (i := q) (by omega) (Nat.le_of_ble_eq_true rfl) dX3_letterOf_5 ?_
  refine lv_if_ge (tgt := 14) hx hb dX3_letterOf_6 (by decide) (fun b6 => ?_) (fun b6 => ?_)
  · obtain ⟨ie, hie, eie, emn, ekn⟩ := pn_nb_p N b6
    rw [emn] at hj
    have h8 := pn_len8 (N ie)
    refine lv_aload_n hx hb dX3_letterOf_14 rfl (lv_at hl 0 rfl) ?_
    refine va_get (D := D) (ci := 3) (v := .ref m1) (C := RX3) (T := TX3) (N := 16) hx hb hts ih_X3_letterOf_X3 hown hK.1 hP 0 rfl rfl 0 (by decide) (hts (.fieldLink RX3 7 "ParishNamesModel" "state" "[I") (by decide +kernel)) (fun _ h9 => h9) rfl dX3_letterOf_15 ?_
    refine lv_sipush (v := (nI 150)) hx hb dX3_letterOf_18 (by decide) ?_
    refine lv_bipush (v := (nI 8)) hx hb dX3_letterOf_21 (by decide) ?_
    refine lv_aload_n hx hb dX3_letterOf_23 rfl (lv_at hl 0 rfl) ?_
    refine va_get (D := D) (ci := 3) (v := .ref m6) (C := RX3) (T := TX3) (N := 16) hx hb hts ih_X3_letterOf_X3 hown hK.1 hP 0 rfl rfl 6 (by decide) (hts (.fieldLink RX3 26 "ParishNamesModel" "namedBy" "[I") (by decide +kernel)) (fun _ h9 => h9) rfl dX3_letterOf_24 ?_
    refine lv_iload_n hx hb dX3_letterOf_27 rfl (lv_at hl 1 rfl) ?_
    refine pn_iald hx hb hK.1 hP 6 0 rfl rfl (i := q) (by omega) (Nat.le_of_ble_eq_true rfl) dX3_letterOf_28 ?_
    refine pn_top (y := (nI ie)) eie ?_
    refine pn_imul hx hb dX3_letterOf_29 ?_
    refine pn_iadd hx hb dX3_letterOf_30 ?_
    refine lv_iload_n hx hb dX3_letterOf_31 rfl (lv_at hl 2 rfl) ?_
    refine pn_iadd hx hb dX3_letterOf_32 ?_
    refine pn_iald hx hb hK.1 hP 1 0 rfl rfl (i := ((150 + (8 * ie)) + j)) (by omega) (Nat.le_of_ble_eq_true rfl) dX3_letterOf_33 ?_
    exact W.iret hx hb hr (fun t ht hW => ⟨⟨_, (), rfl, (by rw [emn]; exact (hR.nm (by omega) ekn).2.2 j hj), trivial⟩, hS.F ht⟩) hS.2.2 dX3_letterOf_34 hlocks
  · refine lv_bipush (v := (nI 97)) hx hb dX3_letterOf_9 (by decide) ?_
    refine lv_goto (tgt := 34) hx hb dX3_letterOf_11 (by decide) ?_
    exact W.iret hx hb hr (fun t ht hW => ⟨⟨_, (), rfl, (by rw [pn_nb_n (by omega) b6] at hj ⊢; rw [show j = 0 by (have : pn_len (pn_wl 0 0 (nI 97)) = 1 := (by decide +kernel)); omega]; decide +kernel), trivial⟩, hS.F ht⟩) hS.2.2 dX3_letterOf_34 hlocks
