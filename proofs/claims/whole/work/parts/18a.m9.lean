theorem ih_X3_heirs_X3 : ∀ w ∈ wsX30, w ∈ wsX3_heirs := by decide +kernel
set_option maxHeartbeats 4000000 in
set_option maxRecDepth 100000 in
theorem c_X3_heirs (l : Launch) (D : va_G) (cI cL cZ cO : ClassId) (m0 m1 m2 m3 m4 m5 m6 m7 m8 m9 ma mb : Nat) (St Im Kp Pd : Nat → Int32) (sd : Nat) (Ow Nb Fi : Nat → Int32) (fl : Nat) (Se : Nat → Int32) (sl : Nat) (Fs : Nat → Int32) (fc : Nat) (Ss : Nat → Int32) (sc : Nat) (Co : Nat → Int32) (K Y P S O : Nat → Int32) (N : Nat → Int64) (n F : Nat) (pd : Int64) (pa : Int32) (yr : Int32) (ye : Int32) (hN : [m0, m1, m2, m3, m4, m5, m6, m7, m8, m9, ma, mb].Nodup) (hR : pn_rel St K Y P S O N n F) : Met l yX3_heirs wsX3_heirs ({ frames := 2, cells := 0, slots := 0, locals := 45 }) (va_Pc [.ref m0, .int pa, .int yr, .int ye] (pn_Pr D cI cL cZ cO [(m0, .inr (3, [.ref m1, .ref m2, .ref m3, .ref m4, .int (nI sd), .ref m5, .ref m6, .ref m7, .int (nI fl), .ref m8, .int (nI sl), .ref m9, .int (nI fc), .ref ma, .int (nI sc), .ref mb])), (m1, .inl (cI, 422, .inl St)), (m2, .inl (cI, 844, .inl Im)), (m3, .inl (cZ, 2, .inl Kp)), (m4, .inl (cI, 8, .inl Pd)), (m5, .inl (cI, 12, .inl Ow)), (m6, .inl (cI, 16, .inl Nb)), (m7, .inl (cI, 8, .inl Fi)), (m8, .inl (cI, 8, .inl Se)), (m9, .inl (cI, 4, .inl Fs)), (ma, .inl (cI, 4, .inl Ss)), (mb, .inl (cI, 81, .inl Co))])) (va_Qi (fun r (u : va_W) => r = (pn_if (¬ pn_kn F pa) (-1) (pn_if (¬ pn_yr yr ∨ ¬ pn_yr ye) (-2) (pn_heir S O (pn_sit P S O pa (pn_st Y yr n)) (pn_st Y ye n) 12))) ∧ pn_isM cI cZ m0 m1 m2 m3 m4 m5 m6 m7 m8 m9 ma mb St Im Kp Pd sd u) (fun (u : va_W) t => va_P D vwCl u t.heap) (pn_In [m0, m1, m2, m3, m4, m5, m6, m7, m8, m9, ma, mb])) 0 0 (pn_In [m0, m1, m2, m3, m4, m5, m6, m7, m8, m9, ma, mb]) := by
  refine pn_mk (by decide) rfl (Nat.le_of_ble_eq_true rfl) ?_
  intro p e s m below meth c ls hx hb hr hml hown hts hlocks hK hP hl
  have hown : s.vm.findClass RX3 = some m.cls := hown
  have hS : va_S (pn_In [m0, m1, m2, m3, m4, m5, m6, m7, m8, m9, ma, mb]) s.heap s.heap [] := va_S.rf
  have hl : lv_has ls 7 [(0, .ref m0), (1, .int pa), (2, .int yr), (3, .int ye)] := hl
  have hn30 := hR.n30
  have hF1 := hR.F1
  have hF16 := hR.F16
  have hst := pn_st_le Y yr n
  have hst2 := pn_st_le Y ye n
  refine lv_aload_n hx hb dX3_heirs_0 rfl (lv_at hl 0 rfl) ?_
  refine lv_iload_n hx hb dX3_heirs_1 rfl (lv_at hl 1 rfl) ?_
  refine pn_roi (w := [(m0, .inr (3, [.ref m1, .ref m2, .ref m3, .ref m4, .int (nI sd), .ref m5, .ref m6, .ref m7, .int (nI fl), .ref m8, .int (nI sl), .ref m9, .int (nI fc), .ref ma, .int (nI sc), .ref mb])), (m1, .inl (cI, 422, .inl St)), (m2, .inl (cI, 844, .inl Im)), (m3, .inl (cZ, 2, .inl Kp)), (m4, .inl (cI, 8, .inl Pd)), (m5, .inl (cI, 12, .inl Ow)), (m6, .inl (cI, 16, .inl Nb)), (m7, .inl (cI, 8, .inl Fi)), (m8, .inl (cI, 8, .inl Se)), (m9, .inl (cI, 4, .inl Fs)), (ma, .inl (cI, 4, .inl Ss)), (mb, .inl (cI, 81, .inl Co))]) hP hS (va_runV (As := [.int pa]) (rest := []) ⟨hx, hb, hml, hown, hts⟩ (c_X3_isParish l D cI cL cZ cO m0 m1 m2 m3 m4 m5 m6 m7 m8 m9 ma mb St Im Kp Pd sd Ow Nb Fi fl Se sl Fs fc Ss sc Co K Y P S O N n F pd pa hR) (cwV 1 hts gX3_heirs_X3_isParish rfl rfl rfl (by decide +kernel) ⟨Nat.le_of_ble_eq_true rfl, Nat.le_of_ble_eq_true rfl⟩) (pn_pv hP hK (q0 := 0) rfl rfl) rfl rfl hl.1 rfl (lv_room (Nat.le_of_ble_eq_true rfl)) dX3_heirs_2 ⟨Nat.le_of_ble_eq_true rfl, Nat.le_of_ble_eq_true rfl⟩) (fun H locs hP hS => ?_)
  refine lv_if_ne (tgt := 10) hx hb dX3_heirs_5 (by decide) (fun b5 => ?_) (fun b5 => ?_)
  · have b5 : pn_kn F pa := pn_b1.mp b5
    refine lv_iload_n hx hb dX3_heirs_10 rfl (lv_at hl 2 rfl) ?_
    refine pn_roi (w := [(m0, .inr (3, [.ref m1, .ref m2, .ref m3, .ref m4, .int (nI sd), .ref m5, .ref m6, .ref m7, .int (nI fl), .ref m8, .int (nI sl), .ref m9, .int (nI fc), .ref ma, .int (nI sc), .ref mb])), (m1, .inl (cI, 422, .inl St)), (m2, .inl (cI, 844, .inl Im)), (m3, .inl (cZ, 2, .inl Kp)), (m4, .inl (cI, 8, .inl Pd)), (m5, .inl (cI, 12, .inl Ow)), (m6, .inl (cI, 16, .inl Nb)), (m7, .inl (cI, 8, .inl Fi)), (m8, .inl (cI, 8, .inl Se)), (m9, .inl (cI, 4, .inl Fs)), (ma, .inl (cI, 4, .inl Ss)), (mb, .inl (cI, 81, .inl Co))]) hP hS (va_runS (As := [.int yr]) (rest := []) ⟨hx, hb, hml, hown, hts⟩ (c_X3_isYear l D cI cL cZ cO yr) (va_cwS 1 hts gX3_heirs_X3_isYear rfl rfl rfl (by decide +kernel) ⟨Nat.le_of_ble_eq_true rfl, Nat.le_of_ble_eq_true rfl⟩) (pn_ps (WS := []) (fun k q h => by simp at h) hK) rfl rfl hl.1 rfl (lv_room (Nat.le_of_ble_eq_true rfl)) dX3_heirs_11 ⟨Nat.le_of_ble_eq_true rfl, Nat.le_of_ble_eq_true rfl⟩) (fun H locs hP hS => ?_)
    refine lv_if_eq (tgt := 24) hx hb dX3_heirs_14 (by decide) (fun b14 => ?_) (fun b14 => ?_)
    · have b14 : ¬ (pn_yr yr) := pn_b0.mp b14
      refine lv_bipush (v := (-2)) hx hb dX3_heirs_24 (by decide) ?_
      exact W.iret hx hb hr (fun t ht hW => ⟨⟨_, [(m0, .inr (3, [.ref m1, .ref m2, .ref m3, .ref m4, .int (nI sd), .ref m5, .ref m6, .ref m7, .int (nI fl), .ref m8, .int (nI sl), .ref m9, .int (nI fc), .ref ma, .int (nI sc), .ref mb])), (m1, .inl (cI, 422, .inl St)), (m2, .inl (cI, 844, .inl Im)), (m3, .inl (cZ, 2, .inl Kp)), (m4, .inl (cI, 8, .inl Pd)), (m5, .inl (cI, 12, .inl Ow)), (m6, .inl (cI, 16, .inl Nb)), (m7, .inl (cI, 8, .inl Fi)), (m8, .inl (cI, 8, .inl Se)), (m9, .inl (cI, 4, .inl Fs)), (ma, .inl (cI, 4, .inl Ss)), (mb, .inl (cI, 81, .inl Co))], rfl, (by first | exact ⟨(((pn_in (fun q => q b5)).trans (pn_ip (Or.inl b14))).symm), ⟨_, _, _, _, _, _, _, _, _, _, _, rfl⟩⟩ | exact ⟨(((pn_in (fun q => q b5)).trans (pn_ip (Or.inr b21))).symm), ⟨_, _, _, _, _, _, _, _, _, _, _, rfl⟩⟩), pn_atH ht hP⟩, hS.F ht⟩) hS.2.2 dX3_heirs_26 hlocks
    · have b14 : pn_yr yr := pn_b1.mp b14
      refine lv_iload_n hx hb dX3_heirs_17 rfl (lv_at hl 3 rfl) ?_
      refine pn_roi (w := [(m0, .inr (3, [.ref m1, .ref m2, .ref m3, .ref m4, .int (nI sd), .ref m5, .ref m6, .ref m7, .int (nI fl), .ref m8, .int (nI sl), .ref m9, .int (nI fc), .ref ma, .int (nI sc), .ref mb])), (m1, .inl (cI, 422, .inl St)), (m2, .inl (cI, 844, .inl Im)), (m3, .inl (cZ, 2, .inl Kp)), (m4, .inl (cI, 8, .inl Pd)), (m5, .inl (cI, 12, .inl Ow)), (m6, .inl (cI, 16, .inl Nb)), (m7, .inl (cI, 8, .inl Fi)), (m8, .inl (cI, 8, .inl Se)), (m9, .inl (cI, 4, .inl Fs)), (ma, .inl (cI, 4, .inl Ss)), (mb, .inl (cI, 81, .inl Co))]) hP hS (va_runS (As := [.int ye]) (rest := []) ⟨hx, hb, hml, hown, hts⟩ (c_X3_isYear l D cI cL cZ cO ye) (va_cwS 1 hts gX3_heirs_X3_isYear rfl rfl rfl (by decide +kernel) ⟨Nat.le_of_ble_eq_true rfl, Nat.le_of_ble_eq_true rfl⟩) (pn_ps (WS := []) (fun k q h => by simp at h) hK) rfl rfl hl.1 rfl (lv_room (Nat.le_of_ble_eq_true rfl)) dX3_heirs_18 ⟨Nat.le_of_ble_eq_true rfl, Nat.le_of_ble_eq_true rfl⟩) (fun H locs hP hS => ?_)
      refine lv_if_ne (tgt := 27) hx hb dX3_heirs_21 (by decide) (fun b21 => ?_) (fun b21 => ?_)
      · have b21 : pn_yr ye := pn_b1.mp b21
        refine lv_aload_n hx hb dX3_heirs_27 rfl (lv_at hl 0 rfl) ?_
        refine lv_iload_n hx hb dX3_heirs_28 rfl (lv_at hl 2 rfl) ?_
        refine pn_wrv hS (fun q h => h) (va_runV (As := [.int yr]) (rest := []) ⟨hx, hb, hml, hown, hts⟩ (c_X3_goTo l D cI cL cZ cO m0 m1 m2 m3 m4 m5 m6 m7 m8 m9 ma mb St Im Kp Pd sd Ow Nb Fi fl Se sl Fs fc Ss sc Co K Y P S O N n F pd yr hN hR) (cwV 1 hts gX3_heirs_X3_goTo rfl rfl rfl (by decide +kernel) ⟨Nat.le_of_ble_eq_true rfl, Nat.le_of_ble_eq_true rfl⟩) (pn_pv hP hK (q0 := 0) rfl rfl) rfl rfl hl.1 rfl (lv_room (Nat.le_of_ble_eq_true rfl)) dX3_heirs_29 ⟨Nat.le_of_ble_eq_true rfl, Nat.le_of_ble_eq_true rfl⟩) (fun u_4 H1 locs hp_4 hP1 hk1 hS => ?_)
        have hP : va_P D vwCl [(m0, .inr (3, [.ref m1, .ref m2, .ref m3, .ref m4, .int (nI sd), .ref m5, .ref m6, .ref m7, .int (nI fl), .ref m8, .int (nI sl), .ref m9, .int (nI fc), .ref ma, .int (nI sc), .ref mb])), (m1, .inl (cI, 422, .inl St)), (m2, .inl (cI, 844, .inl Im)), (m3, .inl (cZ, 2, .inl Kp)), (m4, .inl (cI, 8, .inl Pd)), (m5, .inl (cI, 12, .inl (fun t => pn_own S O t (pn_st Y yr n)))), (m6, .inl (cI, 16, .inl (fun q => pn_nb K P O q (pn_st Y yr n)))), (m7, .inl (cI, 8, .inl Fi)), (m8, .inl (cI, 8, .inl Se)), (m9, .inl (cI, 4, .inl Fs)), (ma, .inl (cI, 4, .inl Ss)), (mb, .inl (cI, 81, .inl Co))] H1 := hP1
        clear hk1 hP1
        generalize H1 = H at hP hS ⊢
        refine lv_aload_n hx hb dX3_heirs_32 rfl (lv_at hl 0 rfl) ?_
        refine lv_iload_n hx hb dX3_heirs_33 rfl (lv_at hl 1 rfl) ?_
        refine pn_roi (w := [(m0, .inr (3, [.ref m1, .ref m2, .ref m3, .ref m4, .int (nI sd), .ref m5, .ref m6, .ref m7, .int (nI fl), .ref m8, .int (nI sl), .ref m9, .int (nI fc), .ref ma, .int (nI sc), .ref mb])), (m1, .inl (cI, 422, .inl St)), (m2, .inl (cI, 844, .inl Im)), (m3, .inl (cZ, 2, .inl Kp)), (m4, .inl (cI, 8, .inl Pd)), (m5, .inl (cI, 12, .inl (fun t => pn_own S O t (pn_st Y yr n)))), (m6, .inl (cI, 16, .inl (fun q => pn_nb K P O q (pn_st Y yr n)))), (m7, .inl (cI, 8, .inl Fi)), (m8, .inl (cI, 8, .inl Se)), (m9, .inl (cI, 4, .inl Fs)), (ma, .inl (cI, 4, .inl Ss)), (mb, .inl (cI, 81, .inl Co))]) hP hS (va_runV (As := [.int pa]) (rest := []) ⟨hx, hb, hml, hown, hts⟩ (c_X3_sitesOf l D cI cL cZ cO m0 m1 m2 m3 m4 m5 m6 m7 m8 m9 ma mb St Im Kp Pd sd Fi fl Se sl Fs fc Ss sc Co K Y P S O N n F pd (pn_st Y yr n) pa hR (by first | omega | assumption | grind | simp_all)) (cwV 1 hts gX3_heirs_X3_sitesOf rfl rfl rfl (by decide +kernel) ⟨Nat.le_of_ble_eq_true rfl, Nat.le_of_ble_eq_true rfl⟩) (pn_pv hP hK (q0 := 0) rfl rfl) rfl rfl hl.1 rfl (lv_room (Nat.le_of_ble_eq_true rfl)) dX3_heirs_34 ⟨Nat.le_of_ble_eq_true rfl, Nat.le_of_ble_eq_true rfl⟩) (fun H locs hP hS => ?_)
        refine lv_istore (lv' := [(4, .int (pn_sit P S O pa (pn_st Y yr n))), (0, .ref m0), (1, .int pa), (2, .int yr), (3, .int ye)]) hx hb dX3_heirs_37 hl (by decide) rfl (fun ls hl => ?_)
        refine lv_aload_n hx hb dX3_heirs_39 rfl (lv_at hl 1 rfl) ?_
        refine lv_iload_n hx hb dX3_heirs_40 rfl (lv_at hl 4 rfl) ?_
        refine pn_wrv hS (fun q h => h) (va_runV (As := [.int ye]) (rest := []) ⟨hx, hb, hml, hown, hts⟩ (c_X3_goTo l D cI cL cZ cO m0 m1 m2 m3 m4 m5 m6 m7 m8 m9 ma mb St Im Kp Pd sd (fun t => pn_own S O t (pn_st Y yr n)) (fun q => pn_nb K P O q (pn_st Y yr n)) Fi fl Se sl Fs fc Ss sc Co K Y P S O N n F pd ye hN hR) (cwV 1 hts gX3_heirs_X3_goTo rfl rfl rfl (by decide +kernel) ⟨Nat.le_of_ble_eq_true rfl, Nat.le_of_ble_eq_true rfl⟩) (pn_pv hP hK (q0 := 0) rfl rfl) rfl rfl hl.1 rfl (lv_room (Nat.le_of_ble_eq_true rfl)) dX3_heirs_41 ⟨Nat.le_of_ble_eq_true rfl, Nat.le_of_ble_eq_true rfl⟩) (fun u_5 H1 locs hp_5 hP1 hk1 hS => ?_)
        have hP : va_P D vwCl [(m0, .inr (3, [.ref m1, .ref m2, .ref m3, .ref m4, .int (nI sd), .ref m5, .ref m6, .ref m7, .int (nI fl), .ref m8, .int (nI sl), .ref m9, .int (nI fc), .ref ma, .int (nI sc), .ref mb])), (m1, .inl (cI, 422, .inl St)), (m2, .inl (cI, 844, .inl Im)), (m3, .inl (cZ, 2, .inl Kp)), (m4, .inl (cI, 8, .inl Pd)), (m5, .inl (cI, 12, .inl (fun t => pn_own S O t (pn_st Y ye n)))), (m6, .inl (cI, 16, .inl (fun q => pn_nb K P O q (pn_st Y ye n)))), (m7, .inl (cI, 8, .inl Fi)), (m8, .inl (cI, 8, .inl Se)), (m9, .inl (cI, 4, .inl Fs)), (ma, .inl (cI, 4, .inl Ss)), (mb, .inl (cI, 81, .inl Co))] H1 := hP1
        clear hk1 hP1
        generalize H1 = H at hP hS ⊢
        refine lv_iconst (v := (nI 0)) hx hb dX3_heirs_44 (by decide) ?_
        refine lv_istore (lv' := [(5, .int (nI 0)), (4, .int (pn_sit P S O pa (pn_st Y yr n))), (0, .ref m0), (1, .int pa), (2, .int yr), (3, .int ye)]) hx hb dX3_heirs_45 hl (by decide) rfl (fun ls hl => ?_)
        refine lv_iconst (v := (nI 0)) hx hb dX3_heirs_47 (by decide) ?_
        refine lv_istore (lv' := [(6, .int (nI 0)), (5, .int (nI 0)), (4, .int (pn_sit P S O pa (pn_st Y yr n))), (0, .ref m0), (1, .int pa), (2, .int yr), (3, .int ye)]) hx hb dX3_heirs_48 hl (by decide) rfl (fun ls hl => ?_)
        have lp50_6 : ∀ (fu : Nat) (ac : Int32) (k : Nat), 12 - k < fu → (k ≤ 12) → (ac = pn_heir S O (pn_sit P S O pa (pn_st Y yr n)) (pn_st Y ye n) k) → ∀ (H : Heap) (locs : List Loc) (ls : Array Slot), va_P D vwCl [(m0, .inr (3, [.ref m1, .ref m2, .ref m3, .ref m4, .int (nI sd), .ref m5, .ref m6, .ref m7, .int (nI fl), .ref m8, .int (nI sl), .ref m9, .int (nI fc), .ref ma, .int (nI sc), .ref mb])), (m1, .inl (cI, 422, .inl St)), (m2, .inl (cI, 844, .inl Im)), (m3, .inl (cZ, 2, .inl Kp)), (m4, .inl (cI, 8, .inl Pd)), (m5, .inl (cI, 12, .inl (fun t => pn_own S O t (pn_st Y ye n)))), (m6, .inl (cI, 16, .inl (fun q => pn_nb K P O q (pn_st Y ye n)))), (m7, .inl (cI, 8, .inl Fi)), (m8, .inl (cI, 8, .inl Se)), (m9, .inl (cI, 4, .inl Fs)), (ma, .inl (cI, 4, .inl Ss)), (mb, .inl (cI, 81, .inl Co))] H → va_S (pn_In [m0, m1, m2, m3, m4, m5, m6, m7, m8, m9, ma, mb]) s.heap H locs → lv_has ls 7 [(0, .ref m0), (4, .int (pn_sit P S O pa (pn_st Y yr n))), (5, .int ac), (6, .int (nI k))] → W p l e ({ frames := 2, cells := 0, slots := 0, locals := 45 }) s m (List.toArray [.ref m0, .int pa, .int yr, .int ye]) below meth c H locs 0 0 (MQ below (va_Qi (fun r (u : va_W) => r = (pn_if (¬ pn_kn F pa) (-1) (pn_if (¬ pn_yr yr ∨ ¬ pn_yr ye) (-2) (pn_heir S O (pn_sit P S O pa (pn_st Y yr n)) (pn_st Y ye n) 12))) ∧ pn_isM cI cZ m0 m1 m2 m3 m4 m5 m6 m7 m8 m9 ma mb St Im Kp Pd sd u) (fun (u : va_W) t => va_P D vwCl u t.heap) (pn_In [m0, m1, m2, m3, m4, m5, m6, m7, m8, m9, ma, mb])) (List.toArray [.ref m0, .int pa, .int yr, .int ye]) s 0 0 (pn_In [m0, m1, m2, m3, m4, m5, m6, m7, m8, m9, ma, mb])) (F0 m 50 ls []) := by
          intro fu
          induction fu with
          | zero => intro ac k hfu; exact absurd hfu (Nat.not_lt_zero _)
          | succ fu ih50_6 =>
            intro ac k hfu hk e1 H locs ls hP hS hl
            refine lv_iload hx hb dX3_heirs_50 (lv_at hl 3 rfl) ?_
            refine lv_bipush (v := (nI 12)) hx hb dX3_heirs_52 (by decide) ?_
            refine lv_icmp_ge (tgt := 92) hx hb dX3_heirs_54 (by decide) (fun b54 => ?_) (fun b54 => ?_)
            · have b54 : 12 ≤ k := (pn_le (by omega) (by omega)).mp (show nI 12 ≤ nI k from b54)
              refine lv_iload hx hb dX3_heirs_92 (lv_at hl 2 rfl) ?_
              exact W.iret hx hb hr (fun t ht hW => ⟨⟨_, [(m0, .inr (3, [.ref m1, .ref m2, .ref m3, .ref m4, .int (nI sd), .ref m5, .ref m6, .ref m7, .int (nI fl), .ref m8, .int (nI sl), .ref m9, .int (nI fc), .ref ma, .int (nI sc), .ref mb])), (m1, .inl (cI, 422, .inl St)), (m2, .inl (cI, 844, .inl Im)), (m3, .inl (cZ, 2, .inl Kp)), (m4, .inl (cI, 8, .inl Pd)), (m5, .inl (cI, 12, .inl (fun t => pn_own S O t (pn_st Y ye n)))), (m6, .inl (cI, 16, .inl (fun q => pn_nb K P O q (pn_st Y ye n)))), (m7, .inl (cI, 8, .inl Fi)), (m8, .inl (cI, 8, .inl Se)), (m9, .inl (cI, 4, .inl Fs)), (ma, .inl (cI, 4, .inl Ss)), (mb, .inl (cI, 81, .inl Co))], rfl, ⟨by rw [pn_in (fun q => q b5), pn_in (pn_no2 b14 b21), e1, show k = 12 by omega], ⟨_, _, _, _, _, _, _, _, _, _, _, rfl⟩⟩, pn_atH ht hP⟩, hS.F ht⟩) hS.2.2 dX3_heirs_94 hlocks
            · have b54 : ¬ 12 ≤ k := fun h => (show ¬ nI 12 ≤ nI k from b54) ((pn_le (by omega) (by omega)).mpr h)
              refine lv_iload hx hb dX3_heirs_57 (lv_at hl 2 rfl) ?_
              refine lv_iload hx hb dX3_heirs_59 (lv_at hl 1 rfl) ?_
              refine lv_iload hx hb dX3_heirs_61 (lv_at hl 3 rfl) ?_
              refine lv_ishr hx hb dX3_heirs_63 ?_
              refine lv_iconst (v := (nI 1)) hx hb dX3_heirs_64 (by decide) ?_
              refine lv_iand hx hb dX3_heirs_65 ?_
              refine lv_iconst (v := (nI 1)) hx hb dX3_heirs_66 (by decide) ?_
              refine lv_icmp_ne (tgt := 82) hx hb dX3_heirs_67 (by decide) (fun b67 => ?_) (fun b67 => ?_)
              · refine lv_iconst (v := (nI 0)) hx hb dX3_heirs_82 (by decide) ?_
                refine lv_ior hx hb dX3_heirs_83 ?_
                refine lv_istore (lv' := [(5, .int (ac ||| (nI 0))), (0, .ref m0), (4, .int (pn_sit P S O pa (pn_st Y yr n))), (6, .int (nI k))]) hx hb dX3_heirs_84 hl (by decide) rfl (fun ls hl => ?_)
                refine lv_iinc (v := (nI (k + 1))) (lv' := [(6, .int (nI (k + 1))), (5, .int (ac ||| (nI 0))), (0, .ref m0), (4, .int (pn_sit P S O pa (pn_st Y yr n)))]) hx hb dX3_heirs_86 hl (k := 3) rfl (nI_add k 1) (by decide) rfl (fun ls hl => ?_)
                refine lv_goto (tgt := 50) hx hb dX3_heirs_89 (by decide) ?_
                exact ih50_6 (ac ||| (nI 0)) (k + 1) (by omega) (by first | omega | assumption | grind | simp_all) (by first | exact pn_heir_t e1 ((pn_bitS _ (by omega)).mp b67) | exact (pn_or0 _).trans (pn_heir_f e1 (fun q => b67 ((pn_bitS _ (by omega)).mpr q)))) _ _ _ hP hS (lv_sub hl [2, 3, 1, 0] rfl)
              · refine lv_iconst (v := (nI 1)) hx hb dX3_heirs_70 (by decide) ?_
                refine lv_aload_n hx hb dX3_heirs_71 rfl (lv_at hl 0 rfl) ?_
                refine va_get (D := D) (ci := 3) (v := .ref m5) (C := RX3) (T := TX3) (N := 16) hx hb hts ih_X3_heirs_X3 hown hK.1 hP 0 rfl rfl 5 (by decide) (hts (.fieldLink RX3 23 "ParishNamesModel" "owner" "[I") (by decide +kernel)) (fun _ h9 => h9) rfl dX3_heirs_72 ?_
                refine lv_iload hx hb dX3_heirs_75 (lv_at hl 3 rfl) ?_
                refine pn_iald hx hb hK.1 hP 5 0 rfl rfl (i := k) (by omega) (Nat.le_of_ble_eq_true rfl) dX3_heirs_77 ?_
                refine lv_ishl hx hb dX3_heirs_78 ?_
                refine lv_goto (tgt := 83) hx hb dX3_heirs_79 (by decide) ?_
                refine lv_ior hx hb dX3_heirs_83 ?_
                refine lv_istore (lv' := [(5, .int (ac ||| ((nI 1) <<< ((pn_own S O k (pn_st Y ye n)) &&& 31)))), (0, .ref m0), (4, .int (pn_sit P S O pa (pn_st Y yr n))), (6, .int (nI k))]) hx hb dX3_heirs_84 hl (by decide) rfl (fun ls hl => ?_)
                refine lv_iinc (v := (nI (k + 1))) (lv' := [(6, .int (nI (k + 1))), (5, .int (ac ||| ((nI 1) <<< ((pn_own S O k (pn_st Y ye n)) &&& 31)))), (0, .ref m0), (4, .int (pn_sit P S O pa (pn_st Y yr n)))]) hx hb dX3_heirs_86 hl (k := 3) rfl (nI_add k 1) (by decide) rfl (fun ls hl => ?_)
                refine lv_goto (tgt := 50) hx hb dX3_heirs_89 (by decide) ?_
                exact ih50_6 (ac ||| ((nI 1) <<< ((pn_own S O k (pn_st Y ye n)) &&& 31))) (k + 1) (by omega) (by first | omega | assumption | grind | simp_all) (by first | exact pn_heir_t e1 ((pn_bitS _ (by omega)).mp b67) | exact (pn_or0 _).trans (pn_heir_f e1 (fun q => b67 ((pn_bitS _ (by omega)).mpr q)))) _ _ _ hP hS (lv_sub hl [2, 3, 1, 0] rfl)
        exact lp50_6 ((12 - 0) + 1) (nI 0) 0 (Nat.lt_succ_self _) (by first | omega | assumption | grind | simp_all) rfl _ _ _ hP hS (lv_sub hl [3, 2, 1, 0] rfl)
      · have b21 : ¬ (pn_yr ye) := pn_b0.mp b21
        refine lv_bipush (v := (-2)) hx hb dX3_heirs_24 (by decide) ?_
        exact W.iret hx hb hr (fun t ht hW => ⟨⟨_, [(m0, .inr (3, [.ref m1, .ref m2, .ref m3, .ref m4, .int (nI sd), .ref m5, .ref m6, .ref m7, .int (nI fl), .ref m8, .int (nI sl), .ref m9, .int (nI fc), .ref ma, .int (nI sc), .ref mb])), (m1, .inl (cI, 422, .inl St)), (m2, .inl (cI, 844, .inl Im)), (m3, .inl (cZ, 2, .inl Kp)), (m4, .inl (cI, 8, .inl Pd)), (m5, .inl (cI, 12, .inl Ow)), (m6, .inl (cI, 16, .inl Nb)), (m7, .inl (cI, 8, .inl Fi)), (m8, .inl (cI, 8, .inl Se)), (m9, .inl (cI, 4, .inl Fs)), (ma, .inl (cI, 4, .inl Ss)), (mb, .inl (cI, 81, .inl Co))], rfl, (by first | exact ⟨(((pn_in (fun q => q b5)).trans (pn_ip (Or.inl b14))).symm), ⟨_, _, _, _, _, _, _, _, _, _, _, rfl⟩⟩ | exact ⟨(((pn_in (fun q => q b5)).trans (pn_ip (Or.inr b21))).symm), ⟨_, _, _, _, _, _, _, _, _, _, _, rfl⟩⟩), pn_atH ht hP⟩, hS.F ht⟩) hS.2.2 dX3_heirs_26 hlocks
  · have b5 : ¬ (pn_kn F pa) := pn_b0.mp b5
    refine lv_iconst (v := (-1)) hx hb dX3_heirs_8 (by decide) ?_
    exact W.iret hx hb hr (fun t ht hW => ⟨⟨_, [(m0, .inr (3, [.ref m1, .ref m2, .ref m3, .ref m4, .int (nI sd), .ref m5, .ref m6, .ref m7, .int (nI fl), .ref m8, .int (nI sl), .ref m9, .int (nI fc), .ref ma, .int (nI sc), .ref mb])), (m1, .inl (cI, 422, .inl St)), (m2, .inl (cI, 844, .inl Im)), (m3, .inl (cZ, 2, .inl Kp)), (m4, .inl (cI, 8, .inl Pd)), (m5, .inl (cI, 12, .inl Ow)), (m6, .inl (cI, 16, .inl Nb)), (m7, .inl (cI, 8, .inl Fi)), (m8, .inl (cI, 8, .inl Se)), (m9, .inl (cI, 4, .inl Fs)), (ma, .inl (cI, 4, .inl Ss)), (mb, .inl (cI, 81, .inl Co))], rfl, ⟨((pn_ip b5).symm), ⟨_, _, _, _, _, _, _, _, _, _, _, rfl⟩⟩, pn_atH ht hP⟩, hS.F ht⟩) hS.2.2 dX3_heirs_9 hlocks

theorem ih_X3_image_X3 : ∀ w ∈ wsX30, w ∈ wsX3_image := by decide +kernel
set_option maxHeartbeats 4000000 in
set_option maxRecDepth 100000 in
theorem c_X3_image (l : Launch) (D : va_G) (cI cL cZ cO : ClassId) (m0 m1 m2 m3 m4 m5 m6 m7 m8 m9 ma mb : Nat) (St Im Kp Pd : Nat → Int32) (sd : Nat) (Ow Nb Fi : Nat → Int32) (fl : Nat) (Se : Nat → Int32) (sl : Nat) (Fs : Nat → Int32) (fc : Nat) (Ss : Nat → Int32) (sc : Nat) (Co : Nat → Int32) (K Y P S O : Nat → Int32) (N : Nat → Int64) (n F : Nat) (pd : Int64) (kk : Int32) (hN : [m0, m1, m2, m3, m4, m5, m6, m7, m8, m9, ma, mb].Nodup) : Met l yX3_image wsX3_image ({ frames := 1, cells := 0, slots := 0, locals := 22 }) (va_Pc [.ref m0, .int kk] (pn_Pr D cI cL cZ cO [(m0, .inr (3, [.ref m1, .ref m2, .ref m3, .ref m4, .int (nI sd), .ref m5, .ref m6, .ref m7, .int (nI fl), .ref m8, .int (nI sl), .ref m9, .int (nI fc), .ref ma, .int (nI sc), .ref mb])), (m1, .inl (cI, 422, .inl St)), (m2, .inl (cI, 844, .inl Im)), (m3, .inl (cZ, 2, .inl Kp)), (m4, .inl (cI, 8, .inl Pd)), (m5, .inl (cI, 12, .inl Ow)), (m6, .inl (cI, 16, .inl Nb)), (m7, .inl (cI, 8, .inl Fi)), (m8, .inl (cI, 8, .inl Se)), (m9, .inl (cI, 4, .inl Fs)), (ma, .inl (cI, 4, .inl Ss)), (mb, .inl (cI, 81, .inl Co))])) (va_Qi (fun r (u : va_W) => ((pn_if (kk < 0 ∨ ¬ kk < nI 2) (some (-2)) (none : Option Int32)) = some r ∧ pn_isM cI cZ m0 m1 m2 m3 m4 m5 m6 m7 m8 m9 ma mb St Im Kp Pd sd u) ∨ ((pn_if (kk < 0 ∨ ¬ kk < nI 2) (some (-2)) (none : Option Int32)) = none ∧ r = nI 1 ∧ pn_isM cI cZ m0 m1 m2 m3 m4 m5 m6 m7 m8 m9 ma mb St (pn_cpI Im St kk.toNatClampNeg 422) (upd Kp kk.toNatClampNeg (nI 1)) Pd sd u)) (fun (u : va_W) t => va_P D vwCl u t.heap) (pn_In [m0, m1, m2, m3, m4, m5, m6, m7, m8, m9, ma, mb])) 0 0 (pn_In [m0, m1, m2, m3, m4, m5, m6, m7, m8, m9, ma, mb]) := by
  refine pn_mk (by decide) rfl (Nat.le_of_ble_eq_true rfl) ?_
  intro p e s m below meth c ls hx hb hr hml hown hts hlocks hK hP hl
  have hown : s.vm.findClass RX3 = some m.cls := hown
  have hS : va_S (pn_In [m0, m1, m2, m3, m4, m5, m6, m7, m8, m9, ma, mb]) s.heap s.heap [] := va_S.rf
  have hl : lv_has ls 3 [(0, .ref m0), (1, .int kk)] := hl
  refine lv_iload_n hx hb dX3_image_0 rfl (lv_at hl 1 rfl) ?_
  refine lv_iconst (v := (nI 0)) hx hb dX3_image_1 (by decide) ?_
  refine lv_iconst (v := (nI 1)) hx hb dX3_image_2 (by decide) ?_
  refine pn_roi (w := [(m0, .inr (3, [.ref m1, .ref m2, .ref m3, .ref m4, .int (nI sd), .ref m5, .ref m6, .ref m7, .int (nI fl), .ref m8, .int (nI sl), .ref m9, .int (nI fc), .ref ma, .int (nI sc), .ref mb])), (m1, .inl (cI, 422, .inl St)), (m2, .inl (cI, 844, .inl Im)), (m3, .inl (cZ, 2, .inl Kp)), (m4, .inl (cI, 8, .inl Pd)), (m5, .inl (cI, 12, .inl Ow)), (m6, .inl (cI, 16, .inl Nb)), (m7, .inl (cI, 8, .inl Fi)), (m8, .inl (cI, 8, .inl Se)), (m9, .inl (cI, 4, .inl Fs)), (ma, .inl (cI, 4, .inl Ss)), (mb, .inl (cI, 81, .inl Co))]) hP hS (va_runS (As := [.int kk, .int (nI 0), .int (nI 1)]) (rest := []) ⟨hx, hb, hml, hown, hts⟩ (c_X3_in l D cI cL cZ cO kk (nI 0) (nI 1)) (va_cwS 3 hts gX3_image_X3_in rfl rfl rfl (by decide +kernel) ⟨Nat.le_of_ble_eq_true rfl, Nat.le_of_ble_eq_true rfl⟩) (pn_ps (WS := []) (fun k q h => by simp at h) hK) rfl rfl hl.1 rfl (lv_room (Nat.le_of_ble_eq_true rfl)) dX3_image_3 ⟨Nat.le_of_ble_eq_true rfl, Nat.le_of_ble_eq_true rfl⟩) (fun H locs hP hS => ?_)
  refine lv_if_ne (tgt := 12) hx hb dX3_image_6 (by decide) (fun b6 => ?_) (fun b6 => ?_)
  · have b6 : ¬ kk < (nI 0) ∧ ¬ (nI 1) < kk := pn_b1.mp b6
    obtain ⟨z, hz, ez⟩ := pn_ofI b6.1 (pn_lt2 b6.2) (by decide)
    have ec : kk.toNatClampNeg = z := by rw [ez]; exact nI_clamp (by omega)
    rw [show kk = (nI z) from ez] at hl
    refine lv_iconst (v := (nI 0)) hx hb dX3_image_12 (by decide) ?_
    refine lv_istore_n (lv' := [(2, .int (nI 0)), (0, .ref m0), (1, .int (nI z))]) hx hb dX3_image_13 rfl hl (by decide) rfl (fun ls hl => ?_)
    have lp14_2 : ∀ (fu : Nat) (k : Nat) (Ia : Nat → Int32), 422 - k < fu → (k ≤ 422) → (Ia = pn_cpI Im St z k) → ∀ (H : Heap) (locs : List Loc) (ls : Array Slot), va_P D vwCl [(m0, .inr (3, [.ref m1, .ref m2, .ref m3, .ref m4, .int (nI sd), .ref m5, .ref m6, .ref m7, .int (nI fl), .ref m8, .int (nI sl), .ref m9, .int (nI fc), .ref ma, .int (nI sc), .ref mb])), (m1, .inl (cI, 422, .inl St)), (m2, .inl (cI, 844, .inl Ia)), (m3, .inl (cZ, 2, .inl Kp)), (m4, .inl (cI, 8, .inl Pd)), (m5, .inl (cI, 12, .inl Ow)), (m6, .inl (cI, 16, .inl Nb)), (m7, .inl (cI, 8, .inl Fi)), (m8, .inl (cI, 8, .inl Se)), (m9, .inl (cI, 4, .inl Fs)), (ma, .inl (cI, 4, .inl Ss)), (mb, .inl (cI, 81, .inl Co))] H → va_S (pn_In [m0, m1, m2, m3, m4, m5, m6, m7, m8, m9, ma, mb]) s.heap H locs → lv_has ls 3 [(0, .ref m0), (1, .int (nI z)), (2, .int (nI k))] → W p l e ({ frames := 1, cells := 0, slots := 0, locals := 22 }) s m (List.toArray [.ref m0, .int kk]) below meth c H locs 0 0 (MQ below (va_Qi (fun r (u : va_W) => ((pn_if (kk < 0 ∨ ¬ kk < nI 2) (some (-2)) (none : Option Int32)) = some r ∧ pn_isM cI cZ m0 m1 m2 m3 m4 m5 m6 m7 m8 m9 ma mb St Im Kp Pd sd u) ∨ ((pn_if (kk < 0 ∨ ¬ kk < nI 2) (some (-2)) (none : Option Int32)) = none ∧ r = nI 1 ∧ pn_isM cI cZ m0 m1 m2 m3 m4 m5 m6 m7 m8 m9 ma mb St (pn_cpI Im St kk.toNatClampNeg 422) (upd Kp kk.toNatClampNeg (nI 1)) Pd sd u)) (fun (u : va_W) t => va_P D vwCl u t.heap) (pn_In [m0, m1, m2, m3, m4, m5, m6, m7, m8, m9, ma, mb])) (List.toArray [.ref m0, .int kk]) s 0 0 (pn_In [m0, m1, m2, m3, m4, m5, m6, m7, m8, m9, ma, mb])) (F0 m 14 ls []) := by
      intro fu
      induction fu with
      | zero => intro k Ia hfu; exact absurd hfu (Nat.not_lt_zero _)
      | succ fu ih14_2 =>
        intro k Ia hfu hk e1 H locs ls hP hS hl
        refine lv_iload_n hx hb dX3_image_14 rfl (lv_at hl 2 rfl) ?_
        refine lv_sipush (v := (nI 422)) hx hb dX3_image_15 (by decide) ?_
        refine lv_icmp_ge (tgt := 45) hx hb dX3_image_18 (by decide) (fun b18 => ?_) (fun b18 => ?_)
        · have b18 : 422 ≤ k := (pn_le (by omega) (by omega)).mp (show nI 422 ≤ nI k from b18)
          refine lv_aload_n hx hb dX3_image_45 rfl (lv_at hl 0 rfl) ?_
          refine va_get (D := D) (ci := 3) (v := .ref m3) (C := RX3) (T := TX3) (N := 16) hx hb hts ih_X3_image_X3 hown hK.1 hP 0 rfl rfl 2 (by decide) (hts (.fieldLink RX3 16 "ParishNamesModel" "isKept" "[Z") (by decide +kernel)) (fun _ h9 => h9) rfl dX3_image_46 ?_
          refine lv_iload_n hx hb dX3_image_49 rfl (lv_at hl 1 rfl) ?_
          refine lv_iconst (v := (nI 1)) hx hb dX3_image_50 (by decide) ?_
          refine pn_zast1 hx hb hK.1 hP (pn_D hN rfl) hS 3 2 rfl rfl (i := z) (by omega) (Nat.le_of_ble_eq_true rfl) dX3_image_51 (fun H locs hP hS => ?_)
          have hP : va_P D vwCl [(m0, .inr (3, [.ref m1, .ref m2, .ref m3, .ref m4, .int (nI sd), .ref m5, .ref m6, .ref m7, .int (nI fl), .ref m8, .int (nI sl), .ref m9, .int (nI fc), .ref ma, .int (nI sc), .ref mb])), (m1, .inl (cI, 422, .inl St)), (m2, .inl (cI, 844, .inl Ia)), (m3, .inl (cZ, 2, .inl (upd Kp z (nI 1)))), (m4, .inl (cI, 8, .inl Pd)), (m5, .inl (cI, 12, .inl Ow)), (m6, .inl (cI, 16, .inl Nb)), (m7, .inl (cI, 8, .inl Fi)), (m8, .inl (cI, 8, .inl Se)), (m9, .inl (cI, 4, .inl Fs)), (ma, .inl (cI, 4, .inl Ss)), (mb, .inl (cI, 81, .inl Co))] H := hP
          refine lv_iconst (v := (nI 1)) hx hb dX3_image_52 (by decide) ?_
          exact W.iret hx hb hr (fun t ht hW => ⟨⟨_, [(m0, .inr (3, [.ref m1, .ref m2, .ref m3, .ref m4, .int (nI sd), .ref m5, .ref m6, .ref m7, .int (nI fl), .ref m8, .int (nI sl), .ref m9, .int (nI fc), .ref ma, .int (nI sc), .ref mb])), (m1, .inl (cI, 422, .inl St)), (m2, .inl (cI, 844, .inl Ia)), (m3, .inl (cZ, 2, .inl (upd Kp z (nI 1)))), (m4, .inl (cI, 8, .inl Pd)), (m5, .inl (cI, 12, .inl Ow)), (m6, .inl (cI, 16, .inl Nb)), (m7, .inl (cI, 8, .inl Fi)), (m8, .inl (cI, 8, .inl Se)), (m9, .inl (cI, 4, .inl Fs)), (ma, .inl (cI, 4, .inl Ss)), (mb, .inl (cI, 81, .inl Co))], rfl, (Or.inr ⟨(pn_in (fun q => (pn_kkI.mpr q) b6)), rfl, by rw [ec, show pn_cpI Im St z 422 = Ia by (rw [e1, show k = 422 by omega])]; exact ⟨_, _, _, _, _, _, _, _, _, _, _, rfl⟩⟩), pn_atH ht hP⟩, hS.F ht⟩) hS.2.2 dX3_image_53 hlocks
        · have b18 : ¬ 422 ≤ k := fun h => (show ¬ nI 422 ≤ nI k from b18) ((pn_le (by omega) (by omega)).mpr h)
          refine lv_aload_n hx hb dX3_image_21 rfl (lv_at hl 0 rfl) ?_
          refine va_get (D := D) (ci := 3) (v := .ref m2) (C := RX3) (T := TX3) (N := 16) hx hb hts ih_X3_image_X3 hown hK.1 hP 0 rfl rfl 1 (by decide) (hts (.fieldLink RX3 13 "ParishNamesModel" "images" "[I") (by decide +kernel)) (fun _ h9 => h9) rfl dX3_image_22 ?_
          refine lv_sipush (v := (nI 422)) hx hb dX3_image_25 (by decide) ?_
          refine lv_iload_n hx hb dX3_image_28 rfl (lv_at hl 1 rfl) ?_
          refine pn_imul hx hb dX3_image_29 ?_
          refine lv_iload_n hx hb dX3_image_30 rfl (lv_at hl 2 rfl) ?_
          refine pn_iadd hx hb dX3_image_31 ?_
          refine lv_aload_n hx hb dX3_image_32 rfl (lv_at hl 0 rfl) ?_
          refine va_get (D := D) (ci := 3) (v := .ref m1) (C := RX3) (T := TX3) (N := 16) hx hb hts ih_X3_image_X3 hown hK.1 hP 0 rfl rfl 0 (by decide) (hts (.fieldLink RX3 7 "ParishNamesModel" "state" "[I") (by decide +kernel)) (fun _ h9 => h9) rfl dX3_image_33 ?_
          refine lv_iload_n hx hb dX3_image_36 rfl (lv_at hl 2 rfl) ?_
          refine pn_iald hx hb hK.1 hP 1 0 rfl rfl (i := k) (by omega) (Nat.le_of_ble_eq_true rfl) dX3_image_37 ?_
          refine pn_iast hx hb hK.1 hP (pn_D hN rfl) hS 2 0 rfl rfl (i := ((422 * z) + k)) (by omega) (Nat.le_of_ble_eq_true rfl) dX3_image_38 (fun H locs hP hS => ?_)
          have hP : va_P D vwCl [(m0, .inr (3, [.ref m1, .ref m2, .ref m3, .ref m4, .int (nI sd), .ref m5, .ref m6, .ref m7, .int (nI fl), .ref m8, .int (nI sl), .ref m9, .int (nI fc), .ref ma, .int (nI sc), .ref mb])), (m1, .inl (cI, 422, .inl St)), (m2, .inl (cI, 844, .inl (upd Ia ((422 * z) + k) (St k)))), (m3, .inl (cZ, 2, .inl Kp)), (m4, .inl (cI, 8, .inl Pd)), (m5, .inl (cI, 12, .inl Ow)), (m6, .inl (cI, 16, .inl Nb)), (m7, .inl (cI, 8, .inl Fi)), (m8, .inl (cI, 8, .inl Se)), (m9, .inl (cI, 4, .inl Fs)), (ma, .inl (cI, 4, .inl Ss)), (mb, .inl (cI, 81, .inl Co))] H := hP
          refine lv_iinc (v := (nI (k + 1))) (lv' := [(2, .int (nI (k + 1))), (0, .ref m0), (1, .int (nI z))]) hx hb dX3_image_39 hl (k := 2) rfl (nI_add k 1) (by decide) rfl (fun ls hl => ?_)
          refine lv_goto (tgt := 14) hx hb dX3_image_42 (by decide) ?_
          exact ih14_2 (k + 1) (upd Ia ((422 * z) + k) (St k)) (by omega) (by first | omega | assumption | grind | simp_all) (by rw [e1]; rfl) _ _ _ hP hS (lv_sub hl [1, 2, 0] rfl)
    exact lp14_2 ((422 - 0) + 1) 0 Im (Nat.lt_succ_self _) (by first | omega | assumption | grind | simp_all) rfl _ _ _ hP hS (lv_sub hl [1, 2, 0] rfl)
  · have b6 : ¬ (¬ kk < (nI 0) ∧ ¬ (nI 1) < kk) := pn_b0.mp b6
    refine lv_bipush (v := (-2)) hx hb dX3_image_9 (by decide) ?_
    exact W.iret hx hb hr (fun t ht hW => ⟨⟨_, [(m0, .inr (3, [.ref m1, .ref m2, .ref m3, .ref m4, .int (nI sd), .ref m5, .ref m6, .ref m7, .int (nI fl), .ref m8, .int (nI sl), .ref m9, .int (nI fc), .ref ma, .int (nI sc), .ref mb])), (m1, .inl (cI, 422, .inl St)), (m2, .inl (cI, 844, .inl Im)), (m3, .inl (cZ, 2, .inl Kp)), (m4, .inl (cI, 8, .inl Pd)), (m5, .inl (cI, 12, .inl Ow)), (m6, .inl (cI, 16, .inl Nb)), (m7, .inl (cI, 8, .inl Fi)), (m8, .inl (cI, 8, .inl Se)), (m9, .inl (cI, 4, .inl Fs)), (ma, .inl (cI, 4, .inl Ss)), (mb, .inl (cI, 81, .inl Co))], rfl, (Or.inl ⟨pn_ip (pn_kkI.mp b6), ⟨_, _, _, _, _, _, _, _, _, _, _, rfl⟩⟩), pn_atH ht hP⟩, hS.F ht⟩) hS.2.2 dX3_image_11 hlocks

theorem ih_X3_restore_X3 : ∀ w ∈ wsX30, w ∈ wsX3_restore := by decide +kernel
set_option maxHeartbeats 4000000 in
set_option maxRecDepth 100000 in
theorem c_X3_restore (l : Launch) (D : va_G) (cI cL cZ cO : ClassId) (m0 m1 m2 m3 m4 m5 m6 m7 m8 m9 ma mb : Nat) (St Im Kp Pd : Nat → Int32) (sd : Nat) (Ow Nb Fi : Nat → Int32) (fl : Nat) (Se : Nat → Int32) (sl : Nat) (Fs : Nat → Int32) (fc : Nat) (Ss : Nat → Int32) (sc : Nat) (Co : Nat → Int32) (K Y P S O : Nat → Int32) (N : Nat → Int64) (n F : Nat) (pd : Int64) (kk : Int32) (hN : [m0, m1, m2, m3, m4, m5, m6, m7, m8, m9, ma, mb].Nodup) : Met l yX3_restore wsX3_restore ({ frames := 1, cells := 0, slots := 0, locals := 22 }) (va_Pc [.ref m0, .int kk] (pn_Pr D cI cL cZ cO [(m0, .inr (3, [.ref m1, .ref m2, .ref m3, .ref m4, .int (nI sd), .ref m5, .ref m6, .ref m7, .int (nI fl), .ref m8, .int (nI sl), .ref m9, .int (nI fc), .ref ma, .int (nI sc), .ref mb])), (m1, .inl (cI, 422, .inl St)), (m2, .inl (cI, 844, .inl Im)), (m3, .inl (cZ, 2, .inl Kp)), (m4, .inl (cI, 8, .inl Pd)), (m5, .inl (cI, 12, .inl Ow)), (m6, .inl (cI, 16, .inl Nb)), (m7, .inl (cI, 8, .inl Fi)), (m8, .inl (cI, 8, .inl Se)), (m9, .inl (cI, 4, .inl Fs)), (ma, .inl (cI, 4, .inl Ss)), (mb, .inl (cI, 81, .inl Co))])) (va_Qi (fun r (u : va_W) => ((pn_if (kk < 0 ∨ ¬ kk < nI 2) (some (-2)) (none : Option Int32)) = some r ∧ pn_isM cI cZ m0 m1 m2 m3 m4 m5 m6 m7 m8 m9 ma mb St Im Kp Pd sd u) ∨ ((pn_if (kk < 0 ∨ ¬ kk < nI 2) (some (-2)) (none : Option Int32)) = none ∧ ((Kp kk.toNatClampNeg = 0 ∧ r = (-3) ∧ pn_isM cI cZ m0 m1 m2 m3 m4 m5 m6 m7 m8 m9 ma mb St Im Kp Pd sd u) ∨ (¬ Kp kk.toNatClampNeg = 0 ∧ r = nI 1 ∧ pn_isM cI cZ m0 m1 m2 m3 m4 m5 m6 m7 m8 m9 ma mb (pn_cpR St Im kk.toNatClampNeg 422) Im Kp Pd sd u)))) (fun (u : va_W) t => va_P D vwCl u t.heap) (pn_In [m0, m1, m2, m3, m4, m5, m6, m7, m8, m9, ma, mb])) 0 0 (pn_In [m0, m1, m2, m3, m4, m5, m6, m7, m8, m9, ma, mb]) := by
  refine pn_mk (by decide) rfl (Nat.le_of_ble_eq_true rfl) ?_
  intro p e s m below meth c ls hx hb hr hml hown hts hlocks hK hP hl
  have hown : s.vm.findClass RX3 = some m.cls := hown
  have hS : va_S (pn_In [m0, m1, m2, m3, m4, m5, m6, m7, m8, m9, ma, mb]) s.heap s.heap [] := va_S.rf
  have hl : lv_has ls 3 [(0, .ref m0), (1, .int kk)] := hl
  refine lv_iload_n hx hb dX3_restore_0 rfl (lv_at hl 1 rfl) ?_
  refine lv_iconst (v := (nI 0)) hx hb dX3_restore_1 (by decide) ?_
  refine lv_iconst (v := (nI 1)) hx hb dX3_restore_2 (by decide) ?_
  refine pn_roi (w := [(m0, .inr (3, [.ref m1, .ref m2, .ref m3, .ref m4, .int (nI sd), .ref m5, .ref m6, .ref m7, .int (nI fl), .ref m8, .int (nI sl), .ref m9, .int (nI fc), .ref ma, .int (nI sc), .ref mb])), (m1, .inl (cI, 422, .inl St)), (m2, .inl (cI, 844, .inl Im)), (m3, .inl (cZ, 2, .inl Kp)), (m4, .inl (cI, 8, .inl Pd)), (m5, .inl (cI, 12, .inl Ow)), (m6, .inl (cI, 16, .inl Nb)), (m7, .inl (cI, 8, .inl Fi)), (m8, .inl (cI, 8, .inl Se)), (m9, .inl (cI, 4, .inl Fs)), (ma, .inl (cI, 4, .inl Ss)), (mb, .inl (cI, 81, .inl Co))]) hP hS (va_runS (As := [.int kk, .int (nI 0), .int (nI 1)]) (rest := []) ⟨hx, hb, hml, hown, hts⟩ (c_X3_in l D cI cL cZ cO kk (nI 0) (nI 1)) (va_cwS 3 hts gX3_restore_X3_in rfl rfl rfl (by decide +kernel) ⟨Nat.le_of_ble_eq_true rfl, Nat.le_of_ble_eq_true rfl⟩) (pn_ps (WS := []) (fun k q h => by simp at h) hK) rfl rfl hl.1 rfl (lv_room (Nat.le_of_ble_eq_true rfl)) dX3_restore_3 ⟨Nat.le_of_ble_eq_true rfl, Nat.le_of_ble_eq_true rfl⟩) (fun H locs hP hS => ?_)
  refine lv_if_ne (tgt := 12) hx hb dX3_restore_6 (by decide) (fun b6 => ?_) (fun b6 => ?_)
  · have b6 : ¬ kk < (nI 0) ∧ ¬ (nI 1) < kk := pn_b1.mp b6
    obtain ⟨z, hz, ez⟩ := pn_ofI b6.1 (pn_lt2 b6.2) (by decide)
    have ec : kk.toNatClampNeg = z := by rw [ez]; exact nI_clamp (by omega)
    rw [show kk = (nI z) from ez] at hl
    refine lv_aload_n hx hb dX3_restore_12 rfl (lv_at hl 0 rfl) ?_
    refine va_get (D := D) (ci := 3) (v := .ref m3) (C := RX3) (T := TX3) (N := 16) hx hb hts ih_X3_restore_X3 hown hK.1 hP 0 rfl rfl 2 (by decide) (hts (.fieldLink RX3 16 "ParishNamesModel" "isKept" "[Z") (by decide +kernel)) (fun _ h9 => h9) rfl dX3_restore_13 ?_
    refine lv_iload_n hx hb dX3_restore_16 rfl (lv_at hl 1 rfl) ?_
    refine pn_zald hx hb hK.1 hP 3 2 rfl rfl (i := z) (by omega) (Nat.le_of_ble_eq_true rfl) dX3_restore_17 ?_
    refine lv_if_ne (tgt := 24) hx hb dX3_restore_18 (by decide) (fun b18 => ?_) (fun b18 => ?_)
    · refine lv_iconst (v := (nI 0)) hx hb dX3_restore_24 (by decide) ?_
      refine lv_istore_n (lv' := [(2, .int (nI 0)), (0, .ref m0), (1, .int (nI z))]) hx hb dX3_restore_25 rfl hl (by decide) rfl (fun ls hl => ?_)
      have lp26_3 : ∀ (fu : Nat) (k : Nat) (Sa : Nat → Int32), 422 - k < fu → (k ≤ 422) → (Sa = pn_cpR St Im z k) → ∀ (H : Heap) (locs : List Loc) (ls : Array Slot), va_P D vwCl [(m0, .inr (3, [.ref m1, .ref m2, .ref m3, .ref m4, .int (nI sd), .ref m5, .ref m6, .ref m7, .int (nI fl), .ref m8, .int (nI sl), .ref m9, .int (nI fc), .ref ma, .int (nI sc), .ref mb])), (m1, .inl (cI, 422, .inl Sa)), (m2, .inl (cI, 844, .inl Im)), (m3, .inl (cZ, 2, .inl Kp)), (m4, .inl (cI, 8, .inl Pd)), (m5, .inl (cI, 12, .inl Ow)), (m6, .inl (cI, 16, .inl Nb)), (m7, .inl (cI, 8, .inl Fi)), (m8, .inl (cI, 8, .inl Se)), (m9, .inl (cI, 4, .inl Fs)), (ma, .inl (cI, 4, .inl Ss)), (mb, .inl (cI, 81, .inl Co))] H → va_S (pn_In [m0, m1, m2, m3, m4, m5, m6, m7, m8, m9, ma, mb]) s.heap H locs → lv_has ls 3 [(0, .ref m0), (1, .int (nI z)), (2, .int (nI k))] → W p l e ({ frames := 1, cells := 0, slots := 0, locals := 22 }) s m (List.toArray [.ref m0, .int kk]) below meth c H locs 0 0 (MQ below (va_Qi (fun r (u : va_W) => ((pn_if (kk < 0 ∨ ¬ kk < nI 2) (some (-2)) (none : Option Int32)) = some r ∧ pn_isM cI cZ m0 m1 m2 m3 m4 m5 m6 m7 m8 m9 ma mb St Im Kp Pd sd u) ∨ ((pn_if (kk < 0 ∨ ¬ kk < nI 2) (some (-2)) (none : Option Int32)) = none ∧ ((Kp kk.toNatClampNeg = 0 ∧ r = (-3) ∧ pn_isM cI cZ m0 m1 m2 m3 m4 m5 m6 m7 m8 m9 ma mb St Im Kp Pd sd u) ∨ (¬ Kp kk.toNatClampNeg = 0 ∧ r = nI 1 ∧ pn_isM cI cZ m0 m1 m2 m3 m4 m5 m6 m7 m8 m9 ma mb (pn_cpR St Im kk.toNatClampNeg 422) Im Kp Pd sd u)))) (fun (u : va_W) t => va_P D vwCl u t.heap) (pn_In [m0, m1, m2, m3, m4, m5, m6, m7, m8, m9, ma, mb])) (List.toArray [.ref m0, .int kk]) s 0 0 (pn_In [m0, m1, m2, m3, m4, m5, m6, m7, m8, m9, ma, mb])) (F0 m 26 ls []) := by
        intro fu
        induction fu with
        | zero => intro k Sa hfu; exact absurd hfu (Nat.not_lt_zero _)
        | succ fu ih26_3 =>
          intro k Sa hfu hk e1 H locs ls hP hS hl
          refine lv_iload_n hx hb dX3_restore_26 rfl (lv_at hl 2 rfl) ?_
          refine lv_sipush (v := (nI 422)) hx hb dX3_restore_27 (by decide) ?_
          refine lv_icmp_ge (tgt := 57) hx hb dX3_restore_30 (by decide) (fun b30 => ?_) (fun b30 => ?_)
          · have b30 : 422 ≤ k := (pn_le (by omega) (by omega)).mp (show nI 422 ≤ nI k from b30)
            refine lv_iconst (v := (nI 1)) hx hb dX3_restore_57 (by decide) ?_
            exact W.iret hx hb hr (fun t ht hW => ⟨⟨_, [(m0, .inr (3, [.ref m1, .ref m2, .ref m3, .ref m4, .int (nI sd), .ref m5, .ref m6, .ref m7, .int (nI fl), .ref m8, .int (nI sl), .ref m9, .int (nI fc), .ref ma, .int (nI sc), .ref mb])), (m1, .inl (cI, 422, .inl Sa)), (m2, .inl (cI, 844, .inl Im)), (m3, .inl (cZ, 2, .inl Kp)), (m4, .inl (cI, 8, .inl Pd)), (m5, .inl (cI, 12, .inl Ow)), (m6, .inl (cI, 16, .inl Nb)), (m7, .inl (cI, 8, .inl Fi)), (m8, .inl (cI, 8, .inl Se)), (m9, .inl (cI, 4, .inl Fs)), (ma, .inl (cI, 4, .inl Ss)), (mb, .inl (cI, 81, .inl Co))], rfl, (Or.inr ⟨(pn_in (fun q => (pn_kkI.mpr q) b6)), Or.inr ⟨by rw [ec]; exact b18, rfl, by rw [ec, show pn_cpR St Im z 422 = Sa by (rw [e1, show k = 422 by omega])]; exact ⟨_, _, _, _, _, _, _, _, _, _, _, rfl⟩⟩⟩), pn_atH ht hP⟩, hS.F ht⟩) hS.2.2 dX3_restore_58 hlocks
          · have b30 : ¬ 422 ≤ k := fun h => (show ¬ nI 422 ≤ nI k from b30) ((pn_le (by omega) (by omega)).mpr h)
            refine lv_aload_n hx hb dX3_restore_33 rfl (lv_at hl 0 rfl) ?_
            refine va_get (D := D) (ci := 3) (v := .ref m1) (C := RX3) (T := TX3) (N := 16) hx hb hts ih_X3_restore_X3 hown hK.1 hP 0 rfl rfl 0 (by decide) (hts (.fieldLink RX3 7 "ParishNamesModel" "state" "[I") (by decide +kernel)) (fun _ h9 => h9) rfl dX3_restore_34 ?_
            refine lv_iload_n hx hb dX3_restore_37 rfl (lv_at hl 2 rfl) ?_
            refine lv_aload_n hx hb dX3_restore_38 rfl (lv_at hl 0 rfl) ?_
            refine va_get (D := D) (ci := 3) (v := .ref m2) (C := RX3) (T := TX3) (N := 16) hx hb hts ih_X3_restore_X3 hown hK.1 hP 0 rfl rfl 1 (by decide) (hts (.fieldLink RX3 13 "ParishNamesModel" "images" "[I") (by decide +kernel)) (fun _ h9 => h9) rfl dX3_restore_39 ?_
            refine lv_sipush (v := (nI 422)) hx hb dX3_restore_42 (by decide) ?_
            refine lv_iload_n hx hb dX3_restore_45 rfl (lv_at hl 1 rfl) ?_
            refine pn_imul hx hb dX3_restore_46 ?_
            refine lv_iload_n hx hb dX3_restore_47 rfl (lv_at hl 2 rfl) ?_
            refine pn_iadd hx hb dX3_restore_48 ?_
            refine pn_iald hx hb hK.1 hP 2 0 rfl rfl (i := ((422 * z) + k)) (by omega) (Nat.le_of_ble_eq_true rfl) dX3_restore_49 ?_
            refine pn_iast hx hb hK.1 hP (pn_D hN rfl) hS 1 0 rfl rfl (i := k) (by omega) (Nat.le_of_ble_eq_true rfl) dX3_restore_50 (fun H locs hP hS => ?_)
            have hP : va_P D vwCl [(m0, .inr (3, [.ref m1, .ref m2, .ref m3, .ref m4, .int (nI sd), .ref m5, .ref m6, .ref m7, .int (nI fl), .ref m8, .int (nI sl), .ref m9, .int (nI fc), .ref ma, .int (nI sc), .ref mb])), (m1, .inl (cI, 422, .inl (upd Sa k (Im ((422 * z) + k))))), (m2, .inl (cI, 844, .inl Im)), (m3, .inl (cZ, 2, .inl Kp)), (m4, .inl (cI, 8, .inl Pd)), (m5, .inl (cI, 12, .inl Ow)), (m6, .inl (cI, 16, .inl Nb)), (m7, .inl (cI, 8, .inl Fi)), (m8, .inl (cI, 8, .inl Se)), (m9, .inl (cI, 4, .inl Fs)), (ma, .inl (cI, 4, .inl Ss)), (mb, .inl (cI, 81, .inl Co))] H := hP
            refine lv_iinc (v := (nI (k + 1))) (lv' := [(2, .int (nI (k + 1))), (0, .ref m0), (1, .int (nI z))]) hx hb dX3_restore_51 hl (k := 2) rfl (nI_add k 1) (by decide) rfl (fun ls hl => ?_)
            refine lv_goto (tgt := 26) hx hb dX3_restore_54 (by decide) ?_
            exact ih26_3 (k + 1) (upd Sa k (Im ((422 * z) + k))) (by omega) (by first | omega | assumption | grind | simp_all) (by rw [e1]; rfl) _ _ _ hP hS (lv_sub hl [1, 2, 0] rfl)
      exact lp26_3 ((422 - 0) + 1) 0 St (Nat.lt_succ_self _) (by first | omega | assumption | grind | simp_all) rfl _ _ _ hP hS (lv_sub hl [1, 2, 0] rfl)
    · refine lv_bipush (v := (-3)) hx hb dX3_restore_21 (by decide) ?_
      exact W.iret hx hb hr (fun t ht hW => ⟨⟨_, [(m0, .inr (3, [.ref m1, .ref m2, .ref m3, .ref m4, .int (nI sd), .ref m5, .ref m6, .ref m7, .int (nI fl), .ref m8, .int (nI sl), .ref m9, .int (nI fc), .ref ma, .int (nI sc), .ref mb])), (m1, .inl (cI, 422, .inl St)), (m2, .inl (cI, 844, .inl Im)), (m3, .inl (cZ, 2, .inl Kp)), (m4, .inl (cI, 8, .inl Pd)), (m5, .inl (cI, 12, .inl Ow)), (m6, .inl (cI, 16, .inl Nb)), (m7, .inl (cI, 8, .inl Fi)), (m8, .inl (cI, 8, .inl Se)), (m9, .inl (cI, 4, .inl Fs)), (ma, .inl (cI, 4, .inl Ss)), (mb, .inl (cI, 81, .inl Co))], rfl, (Or.inr ⟨(pn_in (fun q => (pn_kkI.mpr q) b6)), Or.inl ⟨by rw [ec]; exact b18, rfl, ⟨_, _, _, _, _, _, _, _, _, _, _, rfl⟩⟩⟩), pn_atH ht hP⟩, hS.F ht⟩) hS.2.2 dX3_restore_23 hlocks
  · have b6 : ¬ (¬ kk < (nI 0) ∧ ¬ (nI 1) < kk) := pn_b0.mp b6
    refine lv_bipush (v := (-2)) hx hb dX3_restore_9 (by decide) ?_
    exact W.iret hx hb hr (fun t ht hW => ⟨⟨_, [(m0, .inr (3, [.ref m1, .ref m2, .ref m3, .ref m4, .int (nI sd), .ref m5, .ref m6, .ref m7, .int (nI fl), .ref m8, .int (nI sl), .ref m9, .int (nI fc), .ref ma, .int (nI sc), .ref mb])), (m1, .inl (cI, 422, .inl St)), (m2, .inl (cI, 844, .inl Im)), (m3, .inl (cZ, 2, .inl Kp)), (m4, .inl (cI, 8, .inl Pd)), (m5, .inl (cI, 12, .inl Ow)), (m6, .inl (cI, 16, .inl Nb)), (m7, .inl (cI, 8, .inl Fi)), (m8, .inl (cI, 8, .inl Se)), (m9, .inl (cI, 4, .inl Fs)), (ma, .inl (cI, 4, .inl Ss)), (mb, .inl (cI, 81, .inl Co))], rfl, (Or.inl ⟨pn_ip (pn_kkI.mp b6), ⟨_, _, _, _, _, _, _, _, _, _, _, rfl⟩⟩), pn_atH ht hP⟩, hS.F ht⟩) hS.2.2 dX3_restore_11 hlocks

set_option maxHeartbeats 4000000 in
set_option maxRecDepth 100000 in
theorem c_X3_bits (l : Launch) (D : va_G) (cI cL cZ cO : ClassId)  (xx : Int32) : Met l yX3_bits wsX3_bits ({ frames := 0, cells := 0, slots := 0, locals := 0 }) (va_Pc [.int xx] (pn_Pr D cI cL cZ cO [])) (va_Qi (fun r (_ : Unit) => r = (pn_bits xx 16)) (fun _ _ => True) pn_No) 0 0 pn_No := by
  refine pn_mk (by decide) rfl (Nat.le_of_ble_eq_true rfl) ?_
  intro p e s m below meth c ls hx hb hr hml hown hts hlocks hK hP hl
  have hown : s.vm.findClass RX3 = some m.cls := hown
  have hS : va_S pn_No s.heap s.heap [] := va_S.rf
  have hl : lv_has ls 3 [(0, .int xx)] := hl
  refine lv_iconst (v := (nI 0)) hx hb dX3_bits_0 (by decide) ?_
  refine lv_istore_n (lv' := [(1, .int (nI 0)), (0, .int xx)]) hx hb dX3_bits_1 rfl hl (by decide) rfl (fun ls hl => ?_)
  refine lv_iconst (v := (nI 0)) hx hb dX3_bits_2 (by decide) ?_
  refine lv_istore_n (lv' := [(2, .int (nI 0)), (1, .int (nI 0)), (0, .int xx)]) hx hb dX3_bits_3 rfl hl (by decide) rfl (fun ls hl => ?_)
  have lp4_1 : ∀ (fu : Nat) (ac : Int32) (k : Nat), 16 - k < fu → (k ≤ 16) → (ac = pn_bits xx k) → ∀ (H : Heap) (locs : List Loc) (ls : Array Slot), va_P D vwCl [] H → va_S pn_No s.heap H locs → lv_has ls 3 [(0, .int xx), (1, .int ac), (2, .int (nI k))] → W p l e ({ frames := 0, cells := 0, slots := 0, locals := 0 }) s m (List.toArray [.int xx]) below meth c H locs 0 0 (MQ below (va_Qi (fun r (_ : Unit) => r = (pn_bits xx 16)) (fun _ _ => True) pn_No) (List.toArray [.int xx]) s 0 0 pn_No) (F0 m 4 ls []) := by
    intro fu
    induction fu with
    | zero => intro ac k hfu; exact absurd hfu (Nat.not_lt_zero _)
    | succ fu ih4_1 =>
      intro ac k hfu hk e1 H locs ls hP hS hl
      refine lv_iload_n hx hb dX3_bits_4 rfl (lv_at hl 2 rfl) ?_
      refine lv_bipush (v := (nI 16)) hx hb dX3_bits_5 (by decide) ?_
      refine lv_icmp_ge (tgt := 24) hx hb dX3_bits_7 (by decide) (fun b7 => ?_) (fun b7 => ?_)
      · have b7 : 16 ≤ k := (pn_le (by omega) (by omega)).mp (show nI 16 ≤ nI k from b7)
        refine lv_iload_n hx hb dX3_bits_24 rfl (lv_at hl 1 rfl) ?_
        exact W.iret hx hb hr (fun t ht hW => ⟨⟨_, (), rfl, (by rw [e1, show k = 16 by omega]), trivial⟩, hS.F ht⟩) hS.2.2 dX3_bits_25 hlocks
      · have b7 : ¬ 16 ≤ k := fun h => (show ¬ nI 16 ≤ nI k from b7) ((pn_le (by omega) (by omega)).mpr h)
        refine lv_iload_n hx hb dX3_bits_10 rfl (lv_at hl 1 rfl) ?_
        refine lv_iload_n hx hb dX3_bits_11 rfl (lv_at hl 0 rfl) ?_
        refine lv_iload_n hx hb dX3_bits_12 rfl (lv_at hl 2 rfl) ?_
        refine lv_ishr hx hb dX3_bits_13 ?_
        refine lv_iconst (v := (nI 1)) hx hb dX3_bits_14 (by decide) ?_
        refine lv_iand hx hb dX3_bits_15 ?_
        refine lv_iadd hx hb dX3_bits_16 ?_
        refine lv_istore_n (lv' := [(1, .int (ac + ((xx >>> ((nI k) &&& 31)) &&& (nI 1)))), (0, .int xx), (2, .int (nI k))]) hx hb dX3_bits_17 rfl hl (by decide) rfl (fun ls hl => ?_)
        refine lv_iinc (v := (nI (k + 1))) (lv' := [(2, .int (nI (k + 1))), (1, .int (ac + ((xx >>> ((nI k) &&& 31)) &&& (nI 1)))), (0, .int xx)]) hx hb dX3_bits_18 hl (k := 2) rfl (nI_add k 1) (by decide) rfl (fun ls hl => ?_)
        refine lv_goto (tgt := 4) hx hb dX3_bits_21 (by decide) ?_
        exact ih4_1 (ac + ((xx >>> ((nI k) &&& 31)) &&& (nI 1))) (k + 1) (by omega) (by first | omega | assumption | grind | simp_all) (by rw [e1]; rfl) _ _ _ hP hS (lv_sub hl [2, 1, 0] rfl)
  exact lp4_1 ((16 - 0) + 1) (nI 0) 0 (Nat.lt_succ_self _) (by first | omega | assumption | grind | simp_all) rfl _ _ _ hP hS (lv_sub hl [2, 1, 0] rfl)

set_option maxHeartbeats 4000000 in
set_option maxRecDepth 100000 in
theorem c_X3_classOf (l : Launch) (D : va_G) (cI cL cZ cO : ClassId)  (x : Int32) (hc : ∃ c : Nat, 97 ≤ c ∧ c ≤ 122 ∧ x = nI c) : Met l yX3_classOf wsX3_classOf ({ frames := 0, cells := 0, slots := 0, locals := 0 }) (va_Pc [.int x] (pn_Pr D cI cL cZ cO [])) (va_Qi (fun r (_ : Unit) => r = (pn_cls x)) (fun _ _ => True) pn_No) 0 0 pn_No := by
  refine pn_mk (by decide) rfl (Nat.le_of_ble_eq_true rfl) ?_
  intro p e s m below meth c ls hx hb hr hml hown hts hlocks hK hP hl
  have hown : s.vm.findClass RX3 = some m.cls := hown
  have hS : va_S pn_No s.heap s.heap [] := va_S.rf
  have hl : lv_has ls 1 [(0, .int x)] := hl
  refine lv_iload_n hx hb dX3_classOf_0 rfl (lv_at hl 0 rfl) ?_
  rcases pn_sw x (lo := 97) (hi := 121) with b1 | b1
  · refine lv_tableOut (tgt := 129) hx hb dX3_classOf_1 b1 (by decide) ?_
    refine lv_iconst (v := (nI 2)) hx hb dX3_classOf_129 (by decide) ?_
    exact W.iret hx hb hr (fun t ht hW => ⟨⟨_, (), rfl, (by obtain ⟨c, h1, h2, rfl⟩ := hc; rw [show c = 122 by (rw [nI_toInt (by omega)] at b1; omega)]; decide), trivial⟩, hS.F ht⟩) hS.2.2 dX3_classOf_130 hlocks
  · obtain ⟨k_1, hk_1, b1⟩ := b1
    have hk_1 : k_1 = 97 ∨ k_1 = 98 ∨ k_1 = 99 ∨ k_1 = 100 ∨ k_1 = 101 ∨ k_1 = 102 ∨ k_1 = 103 ∨ k_1 = 104 ∨ k_1 = 105 ∨ k_1 = 106 ∨ k_1 = 107 ∨ k_1 = 108 ∨ k_1 = 109 ∨ k_1 = 110 ∨ k_1 = 111 ∨ k_1 = 112 ∨ k_1 = 113 ∨ k_1 = 114 ∨ k_1 = 115 ∨ k_1 = 116 ∨ k_1 = 117 ∨ k_1 = 118 ∨ k_1 = 119 ∨ k_1 = 120 ∨ k_1 = 121 := by omega
    rcases hk_1 with rfl | rfl | rfl | rfl | rfl | rfl | rfl | rfl | rfl | rfl | rfl | rfl | rfl | rfl | rfl | rfl | rfl | rfl | rfl | rfl | rfl | rfl | rfl | rfl | rfl
    · refine lv_tableIn (tgt := 127) hx hb dX3_classOf_1 (by rw [b1]; decide) (by rw [b1]; decide) (by rw [b1]; rfl) (by decide) ?_
      have b1 : x = nI 97 := pn_swe b1 (by decide)
      refine lv_iconst (v := (nI 0)) hx hb dX3_classOf_127 (by decide) ?_
      exact W.iret hx hb hr (fun t ht hW => ⟨⟨_, (), rfl, (by rw [b1]; decide), trivial⟩, hS.F ht⟩) hS.2.2 dX3_classOf_128 hlocks
    · refine lv_tableIn (tgt := 116) hx hb dX3_classOf_1 (by rw [b1]; decide) (by rw [b1]; decide) (by rw [b1]; rfl) (by decide) ?_
      have b1 : x = nI 98 := pn_swe b1 (by decide)
      refine lv_iconst (v := (nI 1)) hx hb dX3_classOf_116 (by decide) ?_
      exact W.iret hx hb hr (fun t ht hW => ⟨⟨_, (), rfl, (by rw [b1]; decide), trivial⟩, hS.F ht⟩) hS.2.2 dX3_classOf_117 hlocks
    · refine lv_tableIn (tgt := 129) hx hb dX3_classOf_1 (by rw [b1]; decide) (by rw [b1]; decide) (by rw [b1]; rfl) (by decide) ?_
      have b1 : x = nI 99 := pn_swe b1 (by decide)
      refine lv_iconst (v := (nI 2)) hx hb dX3_classOf_129 (by decide) ?_
      exact W.iret hx hb hr (fun t ht hW => ⟨⟨_, (), rfl, (by rw [b1]; decide), trivial⟩, hS.F ht⟩) hS.2.2 dX3_classOf_130 hlocks
    · refine lv_tableIn (tgt := 118) hx hb dX3_classOf_1 (by rw [b1]; decide) (by rw [b1]; decide) (by rw [b1]; rfl) (by decide) ?_
      have b1 : x = nI 100 := pn_swe b1 (by decide)
      refine lv_iconst (v := (nI 3)) hx hb dX3_classOf_118 (by decide) ?_
      exact W.iret hx hb hr (fun t ht hW => ⟨⟨_, (), rfl, (by rw [b1]; decide), trivial⟩, hS.F ht⟩) hS.2.2 dX3_classOf_119 hlocks
    · refine lv_tableIn (tgt := 127) hx hb dX3_classOf_1 (by rw [b1]; decide) (by rw [b1]; decide) (by rw [b1]; rfl) (by decide) ?_
      have b1 : x = nI 101 := pn_swe b1 (by decide)
      refine lv_iconst (v := (nI 0)) hx hb dX3_classOf_127 (by decide) ?_
      exact W.iret hx hb hr (fun t ht hW => ⟨⟨_, (), rfl, (by rw [b1]; decide), trivial⟩, hS.F ht⟩) hS.2.2 dX3_classOf_128 hlocks
    · refine lv_tableIn (tgt := 116) hx hb dX3_classOf_1 (by rw [b1]; decide) (by rw [b1]; decide) (by rw [b1]; rfl) (by decide) ?_
      have b1 : x = nI 102 := pn_swe b1 (by decide)
      refine lv_iconst (v := (nI 1)) hx hb dX3_classOf_116 (by decide) ?_
      exact W.iret hx hb hr (fun t ht hW => ⟨⟨_, (), rfl, (by rw [b1]; decide), trivial⟩, hS.F ht⟩) hS.2.2 dX3_classOf_117 hlocks
    · refine lv_tableIn (tgt := 129) hx hb dX3_classOf_1 (by rw [b1]; decide) (by rw [b1]; decide) (by rw [b1]; rfl) (by decide) ?_
      have b1 : x = nI 103 := pn_swe b1 (by decide)
      refine lv_iconst (v := (nI 2)) hx hb dX3_classOf_129 (by decide) ?_
      exact W.iret hx hb hr (fun t ht hW => ⟨⟨_, (), rfl, (by rw [b1]; decide), trivial⟩, hS.F ht⟩) hS.2.2 dX3_classOf_130 hlocks
    · refine lv_tableIn (tgt := 127) hx hb dX3_classOf_1 (by rw [b1]; decide) (by rw [b1]; decide) (by rw [b1]; rfl) (by decide) ?_
      have b1 : x = nI 104 := pn_swe b1 (by decide)
      refine lv_iconst (v := (nI 0)) hx hb dX3_classOf_127 (by decide) ?_
      exact W.iret hx hb hr (fun t ht hW => ⟨⟨_, (), rfl, (by rw [b1]; decide), trivial⟩, hS.F ht⟩) hS.2.2 dX3_classOf_128 hlocks
    · refine lv_tableIn (tgt := 127) hx hb dX3_classOf_1 (by rw [b1]; decide) (by rw [b1]; decide) (by rw [b1]; rfl) (by decide) ?_
      have b1 : x = nI 105 := pn_swe b1 (by decide)
      refine lv_iconst (v := (nI 0)) hx hb dX3_classOf_127 (by decide) ?_
      exact W.iret hx hb hr (fun t ht hW => ⟨⟨_, (), rfl, (by rw [b1]; decide), trivial⟩, hS.F ht⟩) hS.2.2 dX3_classOf_128 hlocks
    · refine lv_tableIn (tgt := 129) hx hb dX3_classOf_1 (by rw [b1]; decide) (by rw [b1]; decide) (by rw [b1]; rfl) (by decide) ?_
      have b1 : x = nI 106 := pn_swe b1 (by decide)
      refine lv_iconst (v := (nI 2)) hx hb dX3_classOf_129 (by decide) ?_
      exact W.iret hx hb hr (fun t ht hW => ⟨⟨_, (), rfl, (by rw [b1]; decide), trivial⟩, hS.F ht⟩) hS.2.2 dX3_classOf_130 hlocks
    · refine lv_tableIn (tgt := 129) hx hb dX3_classOf_1 (by rw [b1]; decide) (by rw [b1]; decide) (by rw [b1]; rfl) (by decide) ?_
      have b1 : x = nI 107 := pn_swe b1 (by decide)
      refine lv_iconst (v := (nI 2)) hx hb dX3_classOf_129 (by decide) ?_
      exact W.iret hx hb hr (fun t ht hW => ⟨⟨_, (), rfl, (by rw [b1]; decide), trivial⟩, hS.F ht⟩) hS.2.2 dX3_classOf_130 hlocks
    · refine lv_tableIn (tgt := 120) hx hb dX3_classOf_1 (by rw [b1]; decide) (by rw [b1]; decide) (by rw [b1]; rfl) (by decide) ?_
      have b1 : x = nI 108 := pn_swe b1 (by decide)
      refine lv_iconst (v := (nI 4)) hx hb dX3_classOf_120 (by decide) ?_
      exact W.iret hx hb hr (fun t ht hW => ⟨⟨_, (), rfl, (by rw [b1]; decide), trivial⟩, hS.F ht⟩) hS.2.2 dX3_classOf_121 hlocks
    · refine lv_tableIn (tgt := 122) hx hb dX3_classOf_1 (by rw [b1]; decide) (by rw [b1]; decide) (by rw [b1]; rfl) (by decide) ?_
      have b1 : x = nI 109 := pn_swe b1 (by decide)
      refine lv_iconst (v := (nI 5)) hx hb dX3_classOf_122 (by decide) ?_
      exact W.iret hx hb hr (fun t ht hW => ⟨⟨_, (), rfl, (by rw [b1]; decide), trivial⟩, hS.F ht⟩) hS.2.2 dX3_classOf_123 hlocks
    · refine lv_tableIn (tgt := 122) hx hb dX3_classOf_1 (by rw [b1]; decide) (by rw [b1]; decide) (by rw [b1]; rfl) (by decide) ?_
      have b1 : x = nI 110 := pn_swe b1 (by decide)
      refine lv_iconst (v := (nI 5)) hx hb dX3_classOf_122 (by decide) ?_
      exact W.iret hx hb hr (fun t ht hW => ⟨⟨_, (), rfl, (by rw [b1]; decide), trivial⟩, hS.F ht⟩) hS.2.2 dX3_classOf_123 hlocks
    · refine lv_tableIn (tgt := 127) hx hb dX3_classOf_1 (by rw [b1]; decide) (by rw [b1]; decide) (by rw [b1]; rfl) (by decide) ?_
      have b1 : x = nI 111 := pn_swe b1 (by decide)
      refine lv_iconst (v := (nI 0)) hx hb dX3_classOf_127 (by decide) ?_
      exact W.iret hx hb hr (fun t ht hW => ⟨⟨_, (), rfl, (by rw [b1]; decide), trivial⟩, hS.F ht⟩) hS.2.2 dX3_classOf_128 hlocks
    · refine lv_tableIn (tgt := 116) hx hb dX3_classOf_1 (by rw [b1]; decide) (by rw [b1]; decide) (by rw [b1]; rfl) (by decide) ?_
      have b1 : x = nI 112 := pn_swe b1 (by decide)
      refine lv_iconst (v := (nI 1)) hx hb dX3_classOf_116 (by decide) ?_
      exact W.iret hx hb hr (fun t ht hW => ⟨⟨_, (), rfl, (by rw [b1]; decide), trivial⟩, hS.F ht⟩) hS.2.2 dX3_classOf_117 hlocks
    · refine lv_tableIn (tgt := 129) hx hb dX3_classOf_1 (by rw [b1]; decide) (by rw [b1]; decide) (by rw [b1]; rfl) (by decide) ?_
      have b1 : x = nI 113 := pn_swe b1 (by decide)
      refine lv_iconst (v := (nI 2)) hx hb dX3_classOf_129 (by decide) ?_
      exact W.iret hx hb hr (fun t ht hW => ⟨⟨_, (), rfl, (by rw [b1]; decide), trivial⟩, hS.F ht⟩) hS.2.2 dX3_classOf_130 hlocks
    · refine lv_tableIn (tgt := 124) hx hb dX3_classOf_1 (by rw [b1]; decide) (by rw [b1]; decide) (by rw [b1]; rfl) (by decide) ?_
      have b1 : x = nI 114 := pn_swe b1 (by decide)
      refine lv_bipush (v := (nI 6)) hx hb dX3_classOf_124 (by decide) ?_
      exact W.iret hx hb hr (fun t ht hW => ⟨⟨_, (), rfl, (by rw [b1]; decide), trivial⟩, hS.F ht⟩) hS.2.2 dX3_classOf_126 hlocks
    · refine lv_tableIn (tgt := 129) hx hb dX3_classOf_1 (by rw [b1]; decide) (by rw [b1]; decide) (by rw [b1]; rfl) (by decide) ?_
      have b1 : x = nI 115 := pn_swe b1 (by decide)
      refine lv_iconst (v := (nI 2)) hx hb dX3_classOf_129 (by decide) ?_
      exact W.iret hx hb hr (fun t ht hW => ⟨⟨_, (), rfl, (by rw [b1]; decide), trivial⟩, hS.F ht⟩) hS.2.2 dX3_classOf_130 hlocks
    · refine lv_tableIn (tgt := 118) hx hb dX3_classOf_1 (by rw [b1]; decide) (by rw [b1]; decide) (by rw [b1]; rfl) (by decide) ?_
      have b1 : x = nI 116 := pn_swe b1 (by decide)
      refine lv_iconst (v := (nI 3)) hx hb dX3_classOf_118 (by decide) ?_
      exact W.iret hx hb hr (fun t ht hW => ⟨⟨_, (), rfl, (by rw [b1]; decide), trivial⟩, hS.F ht⟩) hS.2.2 dX3_classOf_119 hlocks
    · refine lv_tableIn (tgt := 127) hx hb dX3_classOf_1 (by rw [b1]; decide) (by rw [b1]; decide) (by rw [b1]; rfl) (by decide) ?_
      have b1 : x = nI 117 := pn_swe b1 (by decide)
      refine lv_iconst (v := (nI 0)) hx hb dX3_classOf_127 (by decide) ?_
      exact W.iret hx hb hr (fun t ht hW => ⟨⟨_, (), rfl, (by rw [b1]; decide), trivial⟩, hS.F ht⟩) hS.2.2 dX3_classOf_128 hlocks
    · refine lv_tableIn (tgt := 116) hx hb dX3_classOf_1 (by rw [b1]; decide) (by rw [b1]; decide) (by rw [b1]; rfl) (by decide) ?_
      have b1 : x = nI 118 := pn_swe b1 (by decide)
      refine lv_iconst (v := (nI 1)) hx hb dX3_classOf_116 (by decide) ?_
      exact W.iret hx hb hr (fun t ht hW => ⟨⟨_, (), rfl, (by rw [b1]; decide), trivial⟩, hS.F ht⟩) hS.2.2 dX3_classOf_117 hlocks
    · refine lv_tableIn (tgt := 127) hx hb dX3_classOf_1 (by rw [b1]; decide) (by rw [b1]; decide) (by rw [b1]; rfl) (by decide) ?_
      have b1 : x = nI 119 := pn_swe b1 (by decide)
      refine lv_iconst (v := (nI 0)) hx hb dX3_classOf_127 (by decide) ?_
      exact W.iret hx hb hr (fun t ht hW => ⟨⟨_, (), rfl, (by rw [b1]; decide), trivial⟩, hS.F ht⟩) hS.2.2 dX3_classOf_128 hlocks
    · refine lv_tableIn (tgt := 129) hx hb dX3_classOf_1 (by rw [b1]; decide) (by rw [b1]; decide) (by rw [b1]; rfl) (by decide) ?_
      have b1 : x = nI 120 := pn_swe b1 (by decide)
      refine lv_iconst (v := (nI 2)) hx hb dX3_classOf_129 (by decide) ?_
      exact W.iret hx hb hr (fun t ht hW => ⟨⟨_, (), rfl, (by rw [b1]; decide), trivial⟩, hS.F ht⟩) hS.2.2 dX3_classOf_130 hlocks
    · refine lv_tableIn (tgt := 127) hx hb dX3_classOf_1 (by rw [b1]; decide) (by rw [b1]; decide) (by rw [b1]; rfl) (by decide) ?_
      have b1 : x = nI 121 := pn_swe b1 (by decide)
      refine lv_iconst (v := (nI 0)) hx hb dX3_classOf_127 (by decide) ?_
      exact W.iret hx hb hr (fun t ht hW => ⟨⟨_, (), rfl, (by rw [b1]; decide), trivial⟩, hS.F ht⟩) hS.2.2 dX3_classOf_128 hlocks
