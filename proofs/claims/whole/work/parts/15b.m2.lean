theorem ih_X3_goThrough_X3 : ∀ w ∈ wsX30, w ∈ wsX3_goThrough := by decide +kernel
set_option maxHeartbeats 4000000 in
set_option maxRecDepth 100000 in
theorem c_X3_goThrough (l : Launch) (D : va_G) (cI cL cZ cO : ClassId) (m0 m1 m2 m3 m4 m5 m6 m7 m8 m9 ma mb : Nat) (St Im Kp Pd : Nat → Int32) (sd : Nat) (Ow Nb Fi : Nat → Int32) (fl : Nat) (Se : Nat → Int32) (sl : Nat) (Fs : Nat → Int32) (fc : Nat) (Ss : Nat → Int32) (sc : Nat) (Co : Nat → Int32) (K Y P S O : Nat → Int32) (N : Nat → Int64) (n F : Nat) (pd : Int64) (g : Nat) (hN : [m0, m1, m2, m3, m4, m5, m6, m7, m8, m9, ma, mb].Nodup) (hR : pn_rel St K Y P S O N n F) (hg : g ≤ n) : Met l yX3_goThrough wsX3_goThrough ({ frames := 0, cells := 0, slots := 0, locals := 0 }) (va_Pc [.ref m0, .int (nI g)] (pn_Pr D cI cL cZ cO [(m0, .inr (3, [.ref m1, .ref m2, .ref m3, .ref m4, .int (nI sd), .ref m5, .ref m6, .ref m7, .int (nI fl), .ref m8, .int (nI sl), .ref m9, .int (nI fc), .ref ma, .int (nI sc), .ref mb])), (m1, .inl (cI, 422, .inl St)), (m2, .inl (cI, 844, .inl Im)), (m3, .inl (cZ, 2, .inl Kp)), (m4, .inl (cI, 8, .inl Pd)), (m5, .inl (cI, 12, .inl Ow)), (m6, .inl (cI, 16, .inl Nb)), (m7, .inl (cI, 8, .inl Fi)), (m8, .inl (cI, 8, .inl Se)), (m9, .inl (cI, 4, .inl Fs)), (ma, .inl (cI, 4, .inl Ss)), (mb, .inl (cI, 81, .inl Co))])) (va_Qv (fun (_ : Unit) => True) (fun (_ : Unit) t => va_P D vwCl [(m0, .inr (3, [.ref m1, .ref m2, .ref m3, .ref m4, .int (nI sd), .ref m5, .ref m6, .ref m7, .int (nI fl), .ref m8, .int (nI sl), .ref m9, .int (nI fc), .ref ma, .int (nI sc), .ref mb])), (m1, .inl (cI, 422, .inl St)), (m2, .inl (cI, 844, .inl Im)), (m3, .inl (cZ, 2, .inl Kp)), (m4, .inl (cI, 8, .inl Pd)), (m5, .inl (cI, 12, .inl (fun t => pn_own S O t g))), (m6, .inl (cI, 16, .inl (fun q => pn_nb K P O q g))), (m7, .inl (cI, 8, .inl Fi)), (m8, .inl (cI, 8, .inl Se)), (m9, .inl (cI, 4, .inl Fs)), (ma, .inl (cI, 4, .inl Ss)), (mb, .inl (cI, 81, .inl Co))] t.heap) (pn_In [m0, m1, m2, m3, m4, m5, m6, m7, m8, m9, ma, mb])) 0 0 (pn_In [m0, m1, m2, m3, m4, m5, m6, m7, m8, m9, ma, mb]) := by
  refine pn_mk (by decide) rfl (Nat.le_of_ble_eq_true rfl) ?_
  intro p e s m below meth c ls hx hb hr hml hown hts hlocks hK hP hl
  have hown : s.vm.findClass RX3 = some m.cls := hown
  have hS : va_S (pn_In [m0, m1, m2, m3, m4, m5, m6, m7, m8, m9, ma, mb]) s.heap s.heap [] := va_S.rf
  have hl : lv_has ls 4 [(0, .ref m0), (1, .int (nI g))] := hl
  have hn30 := hR.n30
  have hF1 := hR.F1
  have hF16 := hR.F16
  refine lv_iconst (v := (nI 0)) hx hb dX3_goThrough_0 (by decide) ?_
  refine lv_istore_n (lv' := [(2, .int (nI 0)), (0, .ref m0), (1, .int (nI g))]) hx hb dX3_goThrough_1 rfl hl (by decide) rfl (fun ls hl => ?_)
  have lp2_1 : ∀ (fu : Nat) (k : Nat) (Oa : Nat → Int32), 12 - k < fu → (k ≤ 12) → (∀ t, t < k → Oa t = nI 0) → ∀ (H : Heap) (locs : List Loc) (ls : Array Slot), va_P D vwCl [(m0, .inr (3, [.ref m1, .ref m2, .ref m3, .ref m4, .int (nI sd), .ref m5, .ref m6, .ref m7, .int (nI fl), .ref m8, .int (nI sl), .ref m9, .int (nI fc), .ref ma, .int (nI sc), .ref mb])), (m1, .inl (cI, 422, .inl St)), (m2, .inl (cI, 844, .inl Im)), (m3, .inl (cZ, 2, .inl Kp)), (m4, .inl (cI, 8, .inl Pd)), (m5, .inl (cI, 12, .inl Oa)), (m6, .inl (cI, 16, .inl Nb)), (m7, .inl (cI, 8, .inl Fi)), (m8, .inl (cI, 8, .inl Se)), (m9, .inl (cI, 4, .inl Fs)), (ma, .inl (cI, 4, .inl Ss)), (mb, .inl (cI, 81, .inl Co))] H → va_S (pn_In [m0, m1, m2, m3, m4, m5, m6, m7, m8, m9, ma, mb]) s.heap H locs → lv_has ls 4 [(0, .ref m0), (1, .int (nI g)), (2, .int (nI k))] → W p l e ({ frames := 0, cells := 0, slots := 0, locals := 0 }) s m (List.toArray [.ref m0, .int (nI g)]) below meth c H locs 0 0 (MQ below (va_Qv (fun (_ : Unit) => True) (fun (_ : Unit) t => va_P D vwCl [(m0, .inr (3, [.ref m1, .ref m2, .ref m3, .ref m4, .int (nI sd), .ref m5, .ref m6, .ref m7, .int (nI fl), .ref m8, .int (nI sl), .ref m9, .int (nI fc), .ref ma, .int (nI sc), .ref mb])), (m1, .inl (cI, 422, .inl St)), (m2, .inl (cI, 844, .inl Im)), (m3, .inl (cZ, 2, .inl Kp)), (m4, .inl (cI, 8, .inl Pd)), (m5, .inl (cI, 12, .inl (fun t => pn_own S O t g))), (m6, .inl (cI, 16, .inl (fun q => pn_nb K P O q g))), (m7, .inl (cI, 8, .inl Fi)), (m8, .inl (cI, 8, .inl Se)), (m9, .inl (cI, 4, .inl Fs)), (ma, .inl (cI, 4, .inl Ss)), (mb, .inl (cI, 81, .inl Co))] t.heap) (pn_In [m0, m1, m2, m3, m4, m5, m6, m7, m8, m9, ma, mb])) (List.toArray [.ref m0, .int (nI g)]) s 0 0 (pn_In [m0, m1, m2, m3, m4, m5, m6, m7, m8, m9, ma, mb])) (F0 m 2 ls []) := by
    intro fu
    induction fu with
    | zero => intro k Oa hfu; exact absurd hfu (Nat.not_lt_zero _)
    | succ fu ih2_1 =>
      intro k Oa hfu hk e1 H locs ls hP hS hl
      refine lv_iload_n hx hb dX3_goThrough_2 rfl (lv_at hl 2 rfl) ?_
      refine lv_bipush (v := (nI 12)) hx hb dX3_goThrough_3 (by decide) ?_
      refine lv_icmp_ge (tgt := 21) hx hb dX3_goThrough_5 (by decide) (fun b5 => ?_) (fun b5 => ?_)
      · have b5 : 12 ≤ k := (pn_le (by omega) (by omega)).mp (show nI 12 ≤ nI k from b5)
        refine lv_iconst (v := (nI 0)) hx hb dX3_goThrough_21 (by decide) ?_
        refine lv_istore_n (lv' := [(2, .int (nI 0)), (0, .ref m0), (1, .int (nI g))]) hx hb dX3_goThrough_22 rfl hl (by decide) rfl (fun ls hl => ?_)
        have lp23_3 : ∀ (fu : Nat) (j : Nat) (Na : Nat → Int32), 16 - j < fu → (j ≤ 16) → (∀ q, q < j → Na q = (-6)) → ∀ (H : Heap) (locs : List Loc) (ls : Array Slot), va_P D vwCl [(m0, .inr (3, [.ref m1, .ref m2, .ref m3, .ref m4, .int (nI sd), .ref m5, .ref m6, .ref m7, .int (nI fl), .ref m8, .int (nI sl), .ref m9, .int (nI fc), .ref ma, .int (nI sc), .ref mb])), (m1, .inl (cI, 422, .inl St)), (m2, .inl (cI, 844, .inl Im)), (m3, .inl (cZ, 2, .inl Kp)), (m4, .inl (cI, 8, .inl Pd)), (m5, .inl (cI, 12, .inl Oa)), (m6, .inl (cI, 16, .inl Na)), (m7, .inl (cI, 8, .inl Fi)), (m8, .inl (cI, 8, .inl Se)), (m9, .inl (cI, 4, .inl Fs)), (ma, .inl (cI, 4, .inl Ss)), (mb, .inl (cI, 81, .inl Co))] H → va_S (pn_In [m0, m1, m2, m3, m4, m5, m6, m7, m8, m9, ma, mb]) s.heap H locs → lv_has ls 4 [(0, .ref m0), (1, .int (nI g)), (2, .int (nI j))] → W p l e ({ frames := 0, cells := 0, slots := 0, locals := 0 }) s m (List.toArray [.ref m0, .int (nI g)]) below meth c H locs 0 0 (MQ below (va_Qv (fun (_ : Unit) => True) (fun (_ : Unit) t => va_P D vwCl [(m0, .inr (3, [.ref m1, .ref m2, .ref m3, .ref m4, .int (nI sd), .ref m5, .ref m6, .ref m7, .int (nI fl), .ref m8, .int (nI sl), .ref m9, .int (nI fc), .ref ma, .int (nI sc), .ref mb])), (m1, .inl (cI, 422, .inl St)), (m2, .inl (cI, 844, .inl Im)), (m3, .inl (cZ, 2, .inl Kp)), (m4, .inl (cI, 8, .inl Pd)), (m5, .inl (cI, 12, .inl (fun t => pn_own S O t g))), (m6, .inl (cI, 16, .inl (fun q => pn_nb K P O q g))), (m7, .inl (cI, 8, .inl Fi)), (m8, .inl (cI, 8, .inl Se)), (m9, .inl (cI, 4, .inl Fs)), (ma, .inl (cI, 4, .inl Ss)), (mb, .inl (cI, 81, .inl Co))] t.heap) (pn_In [m0, m1, m2, m3, m4, m5, m6, m7, m8, m9, ma, mb])) (List.toArray [.ref m0, .int (nI g)]) s 0 0 (pn_In [m0, m1, m2, m3, m4, m5, m6, m7, m8, m9, ma, mb])) (F0 m 23 ls []) := by
          intro fu
          induction fu with
          | zero => intro j Na hfu; exact absurd hfu (Nat.not_lt_zero _)
          | succ fu ih23_3 =>
            intro j Na hfu hj e2 H locs ls hP hS hl
            refine lv_iload_n hx hb dX3_goThrough_23 rfl (lv_at hl 2 rfl) ?_
            refine lv_bipush (v := (nI 16)) hx hb dX3_goThrough_24 (by decide) ?_
            refine lv_icmp_ge (tgt := 43) hx hb dX3_goThrough_26 (by decide) (fun b26 => ?_) (fun b26 => ?_)
            · have b26 : 16 ≤ j := (pn_le (by omega) (by omega)).mp (show nI 16 ≤ nI j from b26)
              refine lv_iconst (v := (nI 0)) hx hb dX3_goThrough_43 (by decide) ?_
              refine lv_istore_n (lv' := [(2, .int (nI 0)), (0, .ref m0), (1, .int (nI g))]) hx hb dX3_goThrough_44 rfl hl (by decide) rfl (fun ls hl => ?_)
              have lp45_5 : ∀ (fu : Nat) (ei : Nat) (Ob : Nat → Int32) (Nc : Nat → Int32), g - ei < fu → (ei ≤ g) → (∀ t, t < 12 → Ob t = pn_own S O t ei) → (∀ q, q < 16 → Nc q = pn_nb K P O q ei) → ∀ (H : Heap) (locs : List Loc) (ls : Array Slot), va_P D vwCl [(m0, .inr (3, [.ref m1, .ref m2, .ref m3, .ref m4, .int (nI sd), .ref m5, .ref m6, .ref m7, .int (nI fl), .ref m8, .int (nI sl), .ref m9, .int (nI fc), .ref ma, .int (nI sc), .ref mb])), (m1, .inl (cI, 422, .inl St)), (m2, .inl (cI, 844, .inl Im)), (m3, .inl (cZ, 2, .inl Kp)), (m4, .inl (cI, 8, .inl Pd)), (m5, .inl (cI, 12, .inl Ob)), (m6, .inl (cI, 16, .inl Nc)), (m7, .inl (cI, 8, .inl Fi)), (m8, .inl (cI, 8, .inl Se)), (m9, .inl (cI, 4, .inl Fs)), (ma, .inl (cI, 4, .inl Ss)), (mb, .inl (cI, 81, .inl Co))] H → va_S (pn_In [m0, m1, m2, m3, m4, m5, m6, m7, m8, m9, ma, mb]) s.heap H locs → lv_has ls 4 [(0, .ref m0), (1, .int (nI g)), (2, .int (nI ei))] → W p l e ({ frames := 0, cells := 0, slots := 0, locals := 0 }) s m (List.toArray [.ref m0, .int (nI g)]) below meth c H locs 0 0 (MQ below (va_Qv (fun (_ : Unit) => True) (fun (_ : Unit) t => va_P D vwCl [(m0, .inr (3, [.ref m1, .ref m2, .ref m3, .ref m4, .int (nI sd), .ref m5, .ref m6, .ref m7, .int (nI fl), .ref m8, .int (nI sl), .ref m9, .int (nI fc), .ref ma, .int (nI sc), .ref mb])), (m1, .inl (cI, 422, .inl St)), (m2, .inl (cI, 844, .inl Im)), (m3, .inl (cZ, 2, .inl Kp)), (m4, .inl (cI, 8, .inl Pd)), (m5, .inl (cI, 12, .inl (fun t => pn_own S O t g))), (m6, .inl (cI, 16, .inl (fun q => pn_nb K P O q g))), (m7, .inl (cI, 8, .inl Fi)), (m8, .inl (cI, 8, .inl Se)), (m9, .inl (cI, 4, .inl Fs)), (ma, .inl (cI, 4, .inl Ss)), (mb, .inl (cI, 81, .inl Co))] t.heap) (pn_In [m0, m1, m2, m3, m4, m5, m6, m7, m8, m9, ma, mb])) (List.toArray [.ref m0, .int (nI g)]) s 0 0 (pn_In [m0, m1, m2, m3, m4, m5, m6, m7, m8, m9, ma, mb])) (F0 m 45 ls []) := by
                intro fu
                induction fu with
                | zero => intro ei Ob Nc hfu; exact absurd hfu (Nat.not_lt_zero _)
                | succ fu ih45_5 =>
                  intro ei Ob Nc hfu he e4 e5 H locs ls hP hS hl
                  refine lv_iload_n hx hb dX3_goThrough_45 rfl (lv_at hl 2 rfl) ?_
                  refine lv_iload_n hx hb dX3_goThrough_46 rfl (lv_at hl 1 rfl) ?_
                  refine lv_icmp_ge (tgt := 167) hx hb dX3_goThrough_47 (by decide) (fun b47 => ?_) (fun b47 => ?_)
                  · have b47 : g ≤ ei := (pn_le (by omega) (by omega)).mp (show nI g ≤ nI ei from b47)
                    rw [show ei = g by omega] at e4 e5
                    have hP := pn_cgI (q := 5) (g := (fun t => pn_own S O t g)) hP rfl e4
                    have hP := pn_cgI (q := 6) (g := (fun q => pn_nb K P O q g)) hP rfl e5
                    have hP : va_P D vwCl [(m0, .inr (3, [.ref m1, .ref m2, .ref m3, .ref m4, .int (nI sd), .ref m5, .ref m6, .ref m7, .int (nI fl), .ref m8, .int (nI sl), .ref m9, .int (nI fc), .ref ma, .int (nI sc), .ref mb])), (m1, .inl (cI, 422, .inl St)), (m2, .inl (cI, 844, .inl Im)), (m3, .inl (cZ, 2, .inl Kp)), (m4, .inl (cI, 8, .inl Pd)), (m5, .inl (cI, 12, .inl (fun t => pn_own S O t g))), (m6, .inl (cI, 16, .inl (fun q => pn_nb K P O q g))), (m7, .inl (cI, 8, .inl Fi)), (m8, .inl (cI, 8, .inl Se)), (m9, .inl (cI, 4, .inl Fs)), (ma, .inl (cI, 4, .inl Ss)), (mb, .inl (cI, 81, .inl Co))] H := hP
                    exact W.vret hx hb hr (fun t ht hW => ⟨⟨(), rfl, trivial, pn_atH ht hP⟩, hS.F ht⟩) hS.2.2 dX3_goThrough_167 hlocks
                  · have b47 : ¬ g ≤ ei := fun h => (show ¬ nI g ≤ nI ei from b47) ((pn_le (by omega) (by omega)).mpr h)
                    refine lv_aload_n hx hb dX3_goThrough_50 rfl (lv_at hl 0 rfl) ?_
                    refine va_get (D := D) (ci := 3) (v := .ref m1) (C := RX3) (T := TX3) (N := 16) hx hb hts ih_X3_goThrough_X3 hown hK.1 hP 0 rfl rfl 0 (by decide) (hts (.fieldLink RX3 7 "ParishNamesModel" "state" "[I") (by decide +kernel)) (fun _ h9 => h9) rfl dX3_goThrough_51 ?_
                    refine lv_iconst (v := (nI 0)) hx hb dX3_goThrough_54 (by decide) ?_
                    refine lv_iload_n hx hb dX3_goThrough_55 rfl (lv_at hl 2 rfl) ?_
                    refine pn_iadd hx hb dX3_goThrough_56 ?_
                    refine pn_top (y := (nI ei)) (congrArg nI (Nat.zero_add _)) ?_
                    refine pn_iald hx hb hK.1 hP 1 0 rfl rfl (i := ei) (by omega) (Nat.le_of_ble_eq_true rfl) dX3_goThrough_57 ?_
                    refine pn_top (y := (K ei)) (hR.K0 (by omega)) ?_
                    refine lv_if_ne (tgt := 79) hx hb dX3_goThrough_58 (by decide) (fun b58 => ?_) (fun b58 => ?_)
                    · obtain ⟨hs1, hs2, oe, hoe, eoe⟩ := hR.S0 (i := ei) (by omega) b58
                      refine lv_iconst (v := (nI 0)) hx hb dX3_goThrough_79 (by decide) ?_
                      refine lv_istore_n (lv' := [(3, .int (nI 0)), (0, .ref m0), (1, .int (nI g)), (2, .int (nI ei))]) hx hb dX3_goThrough_80 rfl hl (by decide) rfl (fun ls hl => ?_)
                      have lp81_8 : ∀ (fu : Nat) (t : Nat) (Oc : Nat → Int32), 12 - t < fu → (t ≤ 12) → (∀ x, x < t → Oc x = pn_own S O x (ei + 1)) → (∀ x, t ≤ x → x < 12 → Oc x = pn_own S O x ei) → ∀ (H : Heap) (locs : List Loc) (ls : Array Slot), va_P D vwCl [(m0, .inr (3, [.ref m1, .ref m2, .ref m3, .ref m4, .int (nI sd), .ref m5, .ref m6, .ref m7, .int (nI fl), .ref m8, .int (nI sl), .ref m9, .int (nI fc), .ref ma, .int (nI sc), .ref mb])), (m1, .inl (cI, 422, .inl St)), (m2, .inl (cI, 844, .inl Im)), (m3, .inl (cZ, 2, .inl Kp)), (m4, .inl (cI, 8, .inl Pd)), (m5, .inl (cI, 12, .inl Oc)), (m6, .inl (cI, 16, .inl Nc)), (m7, .inl (cI, 8, .inl Fi)), (m8, .inl (cI, 8, .inl Se)), (m9, .inl (cI, 4, .inl Fs)), (ma, .inl (cI, 4, .inl Ss)), (mb, .inl (cI, 81, .inl Co))] H → va_S (pn_In [m0, m1, m2, m3, m4, m5, m6, m7, m8, m9, ma, mb]) s.heap H locs → lv_has ls 4 [(0, .ref m0), (1, .int (nI g)), (2, .int (nI ei)), (3, .int (nI t))] → W p l e ({ frames := 0, cells := 0, slots := 0, locals := 0 }) s m (List.toArray [.ref m0, .int (nI g)]) below meth c H locs 0 0 (MQ below (va_Qv (fun (_ : Unit) => True) (fun (_ : Unit) t => va_P D vwCl [(m0, .inr (3, [.ref m1, .ref m2, .ref m3, .ref m4, .int (nI sd), .ref m5, .ref m6, .ref m7, .int (nI fl), .ref m8, .int (nI sl), .ref m9, .int (nI fc), .ref ma, .int (nI sc), .ref mb])), (m1, .inl (cI, 422, .inl St)), (m2, .inl (cI, 844, .inl Im)), (m3, .inl (cZ, 2, .inl Kp)), (m4, .inl (cI, 8, .inl Pd)), (m5, .inl (cI, 12, .inl (fun t => pn_own S O t g))), (m6, .inl (cI, 16, .inl (fun q => pn_nb K P O q g))), (m7, .inl (cI, 8, .inl Fi)), (m8, .inl (cI, 8, .inl Se)), (m9, .inl (cI, 4, .inl Fs)), (ma, .inl (cI, 4, .inl Ss)), (mb, .inl (cI, 81, .inl Co))] t.heap) (pn_In [m0, m1, m2, m3, m4, m5, m6, m7, m8, m9, ma, mb])) (List.toArray [.ref m0, .int (nI g)]) s 0 0 (pn_In [m0, m1, m2, m3, m4, m5, m6, m7, m8, m9, ma, mb])) (F0 m 81 ls []) := by
                        intro fu
                        induction fu with
                        | zero => intro t Oc hfu; exact absurd hfu (Nat.not_lt_zero _)
                        | succ fu ih81_8 =>
                          intro t Oc hfu ht e6 e7 H locs ls hP hS hl
                          refine lv_iload_n hx hb dX3_goThrough_81 rfl (lv_at hl 3 rfl) ?_
                          refine lv_bipush (v := (nI 12)) hx hb dX3_goThrough_82 (by decide) ?_
                          refine lv_icmp_ge (tgt := 134) hx hb dX3_goThrough_84 (by decide) (fun b84 => ?_) (fun b84 => ?_)
                          · have b84 : 12 ≤ t := (pn_le (by omega) (by omega)).mp (show nI 12 ≤ nI t from b84)
                            refine lv_aload_n hx hb dX3_goThrough_134 rfl (lv_at hl 0 rfl) ?_
                            refine va_get (D := D) (ci := 3) (v := .ref m1) (C := RX3) (T := TX3) (N := 16) hx hb hts ih_X3_goThrough_X3 hown hK.1 hP 0 rfl rfl 0 (by decide) (hts (.fieldLink RX3 7 "ParishNamesModel" "state" "[I") (by decide +kernel)) (fun _ h9 => h9) rfl dX3_goThrough_135 ?_
                            refine lv_iconst (v := (nI 0)) hx hb dX3_goThrough_138 (by decide) ?_
                            refine lv_iload_n hx hb dX3_goThrough_139 rfl (lv_at hl 2 rfl) ?_
                            refine pn_iadd hx hb dX3_goThrough_140 ?_
                            refine pn_top (y := (nI ei)) (congrArg nI (Nat.zero_add _)) ?_
                            refine pn_iald hx hb hK.1 hP 1 0 rfl rfl (i := ei) (by omega) (Nat.le_of_ble_eq_true rfl) dX3_goThrough_141 ?_
                            refine pn_top (y := (K ei)) (hR.K0 (by omega)) ?_
                            refine lv_iconst (v := (nI 1)) hx hb dX3_goThrough_142 (by decide) ?_
                            refine lv_icmp_ne (tgt := 161) hx hb dX3_goThrough_143 (by decide) (fun b143 => ?_) (fun b143 => ?_)
                            · refine lv_iinc (v := (nI (ei + 1))) (lv' := [(2, .int (nI (ei + 1))), (0, .ref m0), (1, .int (nI g)), (3, .int (nI t))]) hx hb dX3_goThrough_161 hl (k := 2) rfl (nI_add ei 1) (by decide) rfl (fun ls hl => ?_)
                              refine lv_goto (tgt := 45) hx hb dX3_goThrough_164 (by decide) ?_
                              exact ih45_5 (ei + 1) Oc Nc (by omega) (by first | omega | assumption | grind | simp_all) (by first | exact pn_ow0 e4 hs0.1 | exact (fun t h => e6 t (by omega))) (by first | exact pn_nb0 e5 b58 epe | exact pn_nb1 e5 b58 b143 eoe | exact pn_nb2 e5 b58 b143) _ _ _ hP hS (lv_sub hl [1, 2, 0] rfl)
                            · refine lv_aload_n hx hb dX3_goThrough_146 rfl (lv_at hl 0 rfl) ?_
                              refine va_get (D := D) (ci := 3) (v := .ref m6) (C := RX3) (T := TX3) (N := 16) hx hb hts ih_X3_goThrough_X3 hown hK.1 hP 0 rfl rfl 6 (by decide) (hts (.fieldLink RX3 26 "ParishNamesModel" "namedBy" "[I") (by decide +kernel)) (fun _ h9 => h9) rfl dX3_goThrough_147 ?_
                              refine lv_aload_n hx hb dX3_goThrough_150 rfl (lv_at hl 0 rfl) ?_
                              refine va_get (D := D) (ci := 3) (v := .ref m1) (C := RX3) (T := TX3) (N := 16) hx hb hts ih_X3_goThrough_X3 hown hK.1 hP 0 rfl rfl 0 (by decide) (hts (.fieldLink RX3 7 "ParishNamesModel" "state" "[I") (by decide +kernel)) (fun _ h9 => h9) rfl dX3_goThrough_151 ?_
                              refine lv_bipush (v := (nI 120)) hx hb dX3_goThrough_154 (by decide) ?_
                              refine lv_iload_n hx hb dX3_goThrough_156 rfl (lv_at hl 2 rfl) ?_
                              refine pn_iadd hx hb dX3_goThrough_157 ?_
                              refine pn_iald hx hb hK.1 hP 1 0 rfl rfl (i := (120 + ei)) (by omega) (Nat.le_of_ble_eq_true rfl) dX3_goThrough_158 ?_
                              refine pn_top (y := (nI oe)) (hs2.trans eoe) ?_
                              refine lv_iload_n hx hb dX3_goThrough_159 rfl (lv_at hl 2 rfl) ?_
                              refine pn_iast hx hb hK.1 hP (pn_D hN rfl) hS 6 0 rfl rfl (i := oe) (by omega) (Nat.le_of_ble_eq_true rfl) dX3_goThrough_160 (fun H locs hP hS => ?_)
                              have hP : va_P D vwCl [(m0, .inr (3, [.ref m1, .ref m2, .ref m3, .ref m4, .int (nI sd), .ref m5, .ref m6, .ref m7, .int (nI fl), .ref m8, .int (nI sl), .ref m9, .int (nI fc), .ref ma, .int (nI sc), .ref mb])), (m1, .inl (cI, 422, .inl St)), (m2, .inl (cI, 844, .inl Im)), (m3, .inl (cZ, 2, .inl Kp)), (m4, .inl (cI, 8, .inl Pd)), (m5, .inl (cI, 12, .inl Oc)), (m6, .inl (cI, 16, .inl (upd Nc oe (nI ei)))), (m7, .inl (cI, 8, .inl Fi)), (m8, .inl (cI, 8, .inl Se)), (m9, .inl (cI, 4, .inl Fs)), (ma, .inl (cI, 4, .inl Ss)), (mb, .inl (cI, 81, .inl Co))] H := hP
                              refine lv_iinc (v := (nI (ei + 1))) (lv' := [(2, .int (nI (ei + 1))), (0, .ref m0), (1, .int (nI g)), (3, .int (nI t))]) hx hb dX3_goThrough_161 hl (k := 2) rfl (nI_add ei 1) (by decide) rfl (fun ls hl => ?_)
                              refine lv_goto (tgt := 45) hx hb dX3_goThrough_164 (by decide) ?_
                              exact ih45_5 (ei + 1) Oc (upd Nc oe (nI ei)) (by omega) (by first | omega | assumption | grind | simp_all) (by first | exact pn_ow0 e4 hs0.1 | exact (fun t h => e6 t (by omega))) (by first | exact pn_nb0 e5 b58 epe | exact pn_nb1 e5 b58 b143 eoe | exact pn_nb2 e5 b58 b143) _ _ _ hP hS (lv_sub hl [1, 2, 0] rfl)
                          · have b84 : ¬ 12 ≤ t := fun h => (show ¬ nI 12 ≤ nI t from b84) ((pn_le (by omega) (by omega)).mpr h)
                            refine lv_aload_n hx hb dX3_goThrough_87 rfl (lv_at hl 0 rfl) ?_
                            refine va_get (D := D) (ci := 3) (v := .ref m5) (C := RX3) (T := TX3) (N := 16) hx hb hts ih_X3_goThrough_X3 hown hK.1 hP 0 rfl rfl 5 (by decide) (hts (.fieldLink RX3 23 "ParishNamesModel" "owner" "[I") (by decide +kernel)) (fun _ h9 => h9) rfl dX3_goThrough_88 ?_
                            refine lv_iload_n hx hb dX3_goThrough_91 rfl (lv_at hl 3 rfl) ?_
                            refine lv_aload_n hx hb dX3_goThrough_92 rfl (lv_at hl 0 rfl) ?_
                            refine va_get (D := D) (ci := 3) (v := .ref m1) (C := RX3) (T := TX3) (N := 16) hx hb hts ih_X3_goThrough_X3 hown hK.1 hP 0 rfl rfl 0 (by decide) (hts (.fieldLink RX3 7 "ParishNamesModel" "state" "[I") (by decide +kernel)) (fun _ h9 => h9) rfl dX3_goThrough_93 ?_
                            refine lv_bipush (v := (nI 90)) hx hb dX3_goThrough_96 (by decide) ?_
                            refine lv_iload_n hx hb dX3_goThrough_98 rfl (lv_at hl 2 rfl) ?_
                            refine pn_iadd hx hb dX3_goThrough_99 ?_
                            refine pn_iald hx hb hK.1 hP 1 0 rfl rfl (i := (90 + ei)) (by omega) (Nat.le_of_ble_eq_true rfl) dX3_goThrough_100 ?_
                            refine pn_top (y := (S ei)) hs1 ?_
                            refine lv_iload_n hx hb dX3_goThrough_101 rfl (lv_at hl 3 rfl) ?_
                            refine lv_ishr hx hb dX3_goThrough_102 ?_
                            refine lv_iconst (v := (nI 1)) hx hb dX3_goThrough_103 (by decide) ?_
                            refine lv_iand hx hb dX3_goThrough_104 ?_
                            refine lv_iconst (v := (nI 1)) hx hb dX3_goThrough_105 (by decide) ?_
                            refine lv_icmp_ne (tgt := 121) hx hb dX3_goThrough_106 (by decide) (fun b106 => ?_) (fun b106 => ?_)
                            · refine lv_aload_n hx hb dX3_goThrough_121 rfl (lv_at hl 0 rfl) ?_
                              refine va_get (D := D) (ci := 3) (v := .ref m5) (C := RX3) (T := TX3) (N := 16) hx hb hts ih_X3_goThrough_X3 hown hK.1 hP 0 rfl rfl 5 (by decide) (hts (.fieldLink RX3 23 "ParishNamesModel" "owner" "[I") (by decide +kernel)) (fun _ h9 => h9) rfl dX3_goThrough_122 ?_
                              refine lv_iload_n hx hb dX3_goThrough_125 rfl (lv_at hl 3 rfl) ?_
                              refine pn_iald hx hb hK.1 hP 5 0 rfl rfl (i := t) (by omega) (Nat.le_of_ble_eq_true rfl) dX3_goThrough_126 ?_
                              refine pn_top (y := (pn_own S O t ei)) (e7 t (Nat.le_refl _) (by omega)) ?_
                              refine pn_iast hx hb hK.1 hP (pn_D hN rfl) hS 5 0 rfl rfl (i := t) (by omega) (Nat.le_of_ble_eq_true rfl) dX3_goThrough_127 (fun H locs hP hS => ?_)
                              have hP : va_P D vwCl [(m0, .inr (3, [.ref m1, .ref m2, .ref m3, .ref m4, .int (nI sd), .ref m5, .ref m6, .ref m7, .int (nI fl), .ref m8, .int (nI sl), .ref m9, .int (nI fc), .ref ma, .int (nI sc), .ref mb])), (m1, .inl (cI, 422, .inl St)), (m2, .inl (cI, 844, .inl Im)), (m3, .inl (cZ, 2, .inl Kp)), (m4, .inl (cI, 8, .inl Pd)), (m5, .inl (cI, 12, .inl (upd Oc t (pn_own S O t ei)))), (m6, .inl (cI, 16, .inl Nc)), (m7, .inl (cI, 8, .inl Fi)), (m8, .inl (cI, 8, .inl Se)), (m9, .inl (cI, 4, .inl Fs)), (ma, .inl (cI, 4, .inl Ss)), (mb, .inl (cI, 81, .inl Co))] H := hP
                              refine lv_iinc (v := (nI (t + 1))) (lv' := [(3, .int (nI (t + 1))), (0, .ref m0), (1, .int (nI g)), (2, .int (nI ei))]) hx hb dX3_goThrough_128 hl (k := 3) rfl (nI_add t 1) (by decide) rfl (fun ls hl => ?_)
                              refine lv_goto (tgt := 81) hx hb dX3_goThrough_131 (by decide) ?_
                              exact ih81_8 (t + 1) (upd Oc t (pn_own S O t ei)) (by omega) (by first | omega | assumption | grind | simp_all) (by first | exact pn_owt e6 b106 | exact pn_own' e6 b106) (fun x h1 h2 => by rw [pk_un (by omega)]; exact e7 x (by omega) h2) _ _ _ hP hS (lv_sub hl [1, 2, 3, 0] rfl)
                            · refine lv_aload_n hx hb dX3_goThrough_109 rfl (lv_at hl 0 rfl) ?_
                              refine va_get (D := D) (ci := 3) (v := .ref m1) (C := RX3) (T := TX3) (N := 16) hx hb hts ih_X3_goThrough_X3 hown hK.1 hP 0 rfl rfl 0 (by decide) (hts (.fieldLink RX3 7 "ParishNamesModel" "state" "[I") (by decide +kernel)) (fun _ h9 => h9) rfl dX3_goThrough_110 ?_
                              refine lv_bipush (v := (nI 120)) hx hb dX3_goThrough_113 (by decide) ?_
                              refine lv_iload_n hx hb dX3_goThrough_115 rfl (lv_at hl 2 rfl) ?_
                              refine pn_iadd hx hb dX3_goThrough_116 ?_
                              refine pn_iald hx hb hK.1 hP 1 0 rfl rfl (i := (120 + ei)) (by omega) (Nat.le_of_ble_eq_true rfl) dX3_goThrough_117 ?_
                              refine pn_top (y := (O ei)) hs2 ?_
                              refine lv_goto (tgt := 127) hx hb dX3_goThrough_118 (by decide) ?_
                              refine pn_top (y := (O ei)) rfl ?_
                              refine pn_iast hx hb hK.1 hP (pn_D hN rfl) hS 5 0 rfl rfl (i := t) (by omega) (Nat.le_of_ble_eq_true rfl) dX3_goThrough_127 (fun H locs hP hS => ?_)
                              have hP : va_P D vwCl [(m0, .inr (3, [.ref m1, .ref m2, .ref m3, .ref m4, .int (nI sd), .ref m5, .ref m6, .ref m7, .int (nI fl), .ref m8, .int (nI sl), .ref m9, .int (nI fc), .ref ma, .int (nI sc), .ref mb])), (m1, .inl (cI, 422, .inl St)), (m2, .inl (cI, 844, .inl Im)), (m3, .inl (cZ, 2, .inl Kp)), (m4, .inl (cI, 8, .inl Pd)), (m5, .inl (cI, 12, .inl (upd Oc t (O ei)))), (m6, .inl (cI, 16, .inl Nc)), (m7, .inl (cI, 8, .inl Fi)), (m8, .inl (cI, 8, .inl Se)), (m9, .inl (cI, 4, .inl Fs)), (ma, .inl (cI, 4, .inl Ss)), (mb, .inl (cI, 81, .inl Co))] H := hP
                              refine lv_iinc (v := (nI (t + 1))) (lv' := [(3, .int (nI (t + 1))), (0, .ref m0), (1, .int (nI g)), (2, .int (nI ei))]) hx hb dX3_goThrough_128 hl (k := 3) rfl (nI_add t 1) (by decide) rfl (fun ls hl => ?_)
                              refine lv_goto (tgt := 81) hx hb dX3_goThrough_131 (by decide) ?_
                              exact ih81_8 (t + 1) (upd Oc t (O ei)) (by omega) (by first | omega | assumption | grind | simp_all) (by first | exact pn_owt e6 b106 | exact pn_own' e6 b106) (fun x h1 h2 => by rw [pk_un (by omega)]; exact e7 x (by omega) h2) _ _ _ hP hS (lv_sub hl [1, 2, 3, 0] rfl)
                      exact lp81_8 ((12 - 0) + 1) 0 Ob (Nat.lt_succ_self _) (by first | omega | assumption | grind | simp_all) (fun t h => absurd h (Nat.not_lt_zero _)) (fun x _ h => e4 x h) _ _ _ hP hS (lv_sub hl [1, 2, 3, 0] rfl)
                    · obtain ⟨pe, hpe, epe⟩ := hR.P1 (i := ei) (by omega)
                      have hs0 := hR.S1 (i := ei) (by omega) b58
                      refine lv_aload_n hx hb dX3_goThrough_61 rfl (lv_at hl 0 rfl) ?_
                      refine va_get (D := D) (ci := 3) (v := .ref m6) (C := RX3) (T := TX3) (N := 16) hx hb hts ih_X3_goThrough_X3 hown hK.1 hP 0 rfl rfl 6 (by decide) (hts (.fieldLink RX3 26 "ParishNamesModel" "namedBy" "[I") (by decide +kernel)) (fun _ h9 => h9) rfl dX3_goThrough_62 ?_
                      refine lv_aload_n hx hb dX3_goThrough_65 rfl (lv_at hl 0 rfl) ?_
                      refine va_get (D := D) (ci := 3) (v := .ref m1) (C := RX3) (T := TX3) (N := 16) hx hb hts ih_X3_goThrough_X3 hown hK.1 hP 0 rfl rfl 0 (by decide) (hts (.fieldLink RX3 7 "ParishNamesModel" "state" "[I") (by decide +kernel)) (fun _ h9 => h9) rfl dX3_goThrough_66 ?_
                      refine lv_bipush (v := (nI 60)) hx hb dX3_goThrough_69 (by decide) ?_
                      refine lv_iload_n hx hb dX3_goThrough_71 rfl (lv_at hl 2 rfl) ?_
                      refine pn_iadd hx hb dX3_goThrough_72 ?_
                      refine pn_iald hx hb hK.1 hP 1 0 rfl rfl (i := (60 + ei)) (by omega) (Nat.le_of_ble_eq_true rfl) dX3_goThrough_73 ?_
                      refine pn_top (y := (nI pe)) ((hR.P0 (by omega)).trans epe) ?_
                      refine lv_iload_n hx hb dX3_goThrough_74 rfl (lv_at hl 2 rfl) ?_
                      refine pn_iast hx hb hK.1 hP (pn_D hN rfl) hS 6 0 rfl rfl (i := pe) (by omega) (Nat.le_of_ble_eq_true rfl) dX3_goThrough_75 (fun H locs hP hS => ?_)
                      have hP : va_P D vwCl [(m0, .inr (3, [.ref m1, .ref m2, .ref m3, .ref m4, .int (nI sd), .ref m5, .ref m6, .ref m7, .int (nI fl), .ref m8, .int (nI sl), .ref m9, .int (nI fc), .ref ma, .int (nI sc), .ref mb])), (m1, .inl (cI, 422, .inl St)), (m2, .inl (cI, 844, .inl Im)), (m3, .inl (cZ, 2, .inl Kp)), (m4, .inl (cI, 8, .inl Pd)), (m5, .inl (cI, 12, .inl Ob)), (m6, .inl (cI, 16, .inl (upd Nc pe (nI ei)))), (m7, .inl (cI, 8, .inl Fi)), (m8, .inl (cI, 8, .inl Se)), (m9, .inl (cI, 4, .inl Fs)), (ma, .inl (cI, 4, .inl Ss)), (mb, .inl (cI, 81, .inl Co))] H := hP
                      refine lv_goto (tgt := 161) hx hb dX3_goThrough_76 (by decide) ?_
                      refine lv_iinc (v := (nI (ei + 1))) (lv' := [(2, .int (nI (ei + 1))), (0, .ref m0), (1, .int (nI g))]) hx hb dX3_goThrough_161 hl (k := 2) rfl (nI_add ei 1) (by decide) rfl (fun ls hl => ?_)
                      refine lv_goto (tgt := 45) hx hb dX3_goThrough_164 (by decide) ?_
                      exact ih45_5 (ei + 1) Ob (upd Nc pe (nI ei)) (by omega) (by first | omega | assumption | grind | simp_all) (by first | exact pn_ow0 e4 hs0.1 | exact (fun t h => e6 t (by omega))) (by first | exact pn_nb0 e5 b58 epe | exact pn_nb1 e5 b58 b143 eoe | exact pn_nb2 e5 b58 b143) _ _ _ hP hS (lv_sub hl [1, 2, 0] rfl)
              exact lp45_5 ((g - 0) + 1) 0 Oa Na (Nat.lt_succ_self _) (by first | omega | assumption | grind | simp_all) (fun t h => e1 t (by omega)) (fun q h => e2 q (by omega)) _ _ _ hP hS (lv_sub hl [1, 2, 0] rfl)
            · have b26 : ¬ 16 ≤ j := fun h => (show ¬ nI 16 ≤ nI j from b26) ((pn_le (by omega) (by omega)).mpr h)
              refine lv_aload_n hx hb dX3_goThrough_29 rfl (lv_at hl 0 rfl) ?_
              refine va_get (D := D) (ci := 3) (v := .ref m6) (C := RX3) (T := TX3) (N := 16) hx hb hts ih_X3_goThrough_X3 hown hK.1 hP 0 rfl rfl 6 (by decide) (hts (.fieldLink RX3 26 "ParishNamesModel" "namedBy" "[I") (by decide +kernel)) (fun _ h9 => h9) rfl dX3_goThrough_30 ?_
              refine lv_iload_n hx hb dX3_goThrough_33 rfl (lv_at hl 2 rfl) ?_
              refine lv_bipush (v := (-6)) hx hb dX3_goThrough_34 (by decide) ?_
              refine pn_iast hx hb hK.1 hP (pn_D hN rfl) hS 6 0 rfl rfl (i := j) (by omega) (Nat.le_of_ble_eq_true rfl) dX3_goThrough_36 (fun H locs hP hS => ?_)
              have hP : va_P D vwCl [(m0, .inr (3, [.ref m1, .ref m2, .ref m3, .ref m4, .int (nI sd), .ref m5, .ref m6, .ref m7, .int (nI fl), .ref m8, .int (nI sl), .ref m9, .int (nI fc), .ref ma, .int (nI sc), .ref mb])), (m1, .inl (cI, 422, .inl St)), (m2, .inl (cI, 844, .inl Im)), (m3, .inl (cZ, 2, .inl Kp)), (m4, .inl (cI, 8, .inl Pd)), (m5, .inl (cI, 12, .inl Oa)), (m6, .inl (cI, 16, .inl (upd Na j (-6)))), (m7, .inl (cI, 8, .inl Fi)), (m8, .inl (cI, 8, .inl Se)), (m9, .inl (cI, 4, .inl Fs)), (ma, .inl (cI, 4, .inl Ss)), (mb, .inl (cI, 81, .inl Co))] H := hP
              refine lv_iinc (v := (nI (j + 1))) (lv' := [(2, .int (nI (j + 1))), (0, .ref m0), (1, .int (nI g))]) hx hb dX3_goThrough_37 hl (k := 2) rfl (nI_add j 1) (by decide) rfl (fun ls hl => ?_)
              refine lv_goto (tgt := 23) hx hb dX3_goThrough_40 (by decide) ?_
              exact ih23_3 (j + 1) (upd Na j (-6)) (by omega) (by first | omega | assumption | grind | simp_all) (pn_upc e2) _ _ _ hP hS (lv_sub hl [1, 2, 0] rfl)
        exact lp23_3 ((16 - 0) + 1) 0 Nb (Nat.lt_succ_self _) (by first | omega | assumption | grind | simp_all) (fun t h => absurd h (Nat.not_lt_zero _)) _ _ _ hP hS (lv_sub hl [1, 2, 0] rfl)
      · have b5 : ¬ 12 ≤ k := fun h => (show ¬ nI 12 ≤ nI k from b5) ((pn_le (by omega) (by omega)).mpr h)
        refine lv_aload_n hx hb dX3_goThrough_8 rfl (lv_at hl 0 rfl) ?_
        refine va_get (D := D) (ci := 3) (v := .ref m5) (C := RX3) (T := TX3) (N := 16) hx hb hts ih_X3_goThrough_X3 hown hK.1 hP 0 rfl rfl 5 (by decide) (hts (.fieldLink RX3 23 "ParishNamesModel" "owner" "[I") (by decide +kernel)) (fun _ h9 => h9) rfl dX3_goThrough_9 ?_
        refine lv_iload_n hx hb dX3_goThrough_12 rfl (lv_at hl 2 rfl) ?_
        refine lv_iconst (v := (nI 0)) hx hb dX3_goThrough_13 (by decide) ?_
        refine pn_iast hx hb hK.1 hP (pn_D hN rfl) hS 5 0 rfl rfl (i := k) (by omega) (Nat.le_of_ble_eq_true rfl) dX3_goThrough_14 (fun H locs hP hS => ?_)
        have hP : va_P D vwCl [(m0, .inr (3, [.ref m1, .ref m2, .ref m3, .ref m4, .int (nI sd), .ref m5, .ref m6, .ref m7, .int (nI fl), .ref m8, .int (nI sl), .ref m9, .int (nI fc), .ref ma, .int (nI sc), .ref mb])), (m1, .inl (cI, 422, .inl St)), (m2, .inl (cI, 844, .inl Im)), (m3, .inl (cZ, 2, .inl Kp)), (m4, .inl (cI, 8, .inl Pd)), (m5, .inl (cI, 12, .inl (upd Oa k (nI 0)))), (m6, .inl (cI, 16, .inl Nb)), (m7, .inl (cI, 8, .inl Fi)), (m8, .inl (cI, 8, .inl Se)), (m9, .inl (cI, 4, .inl Fs)), (ma, .inl (cI, 4, .inl Ss)), (mb, .inl (cI, 81, .inl Co))] H := hP
        refine lv_iinc (v := (nI (k + 1))) (lv' := [(2, .int (nI (k + 1))), (0, .ref m0), (1, .int (nI g))]) hx hb dX3_goThrough_15 hl (k := 2) rfl (nI_add k 1) (by decide) rfl (fun ls hl => ?_)
        refine lv_goto (tgt := 2) hx hb dX3_goThrough_18 (by decide) ?_
        exact ih2_1 (k + 1) (upd Oa k (nI 0)) (by omega) (by first | omega | assumption | grind | simp_all) (pn_upc e1) _ _ _ hP hS (lv_sub hl [1, 2, 0] rfl)
  exact lp2_1 ((12 - 0) + 1) 0 Ow (Nat.lt_succ_self _) (by first | omega | assumption | grind | simp_all) (fun t h => absurd h (Nat.not_lt_zero _)) _ _ _ hP hS (lv_sub hl [1, 2, 0] rfl)
