theorem ih_X3_offNow_X3 : ∀ w ∈ wsX30, w ∈ wsX3_offNow := by decide +kernel
set_option maxHeartbeats 4000000 in
set_option maxRecDepth 100000 in
theorem c_X3_offNow (l : Launch) (D : va_G) (cI cL cZ cO : ClassId) (m0 m1 m2 m3 m4 m5 m6 m7 m8 m9 ma mb : Nat) (St Im Kp Pd : Nat → Int32) (sd : Nat) (Ow Nb Fi : Nat → Int32) (fl : Nat) (Se : Nat → Int32) (sl : Nat) (Fs : Nat → Int32) (fc : Nat) (Ss : Nat → Int32) (sc : Nat) (Co : Nat → Int32) (K Y P S O : Nat → Int32) (N : Nat → Int64) (n F : Nat) (pd : Int64) (X : Int64) (Z : Int64) (hN : [m0, m1, m2, m3, m4, m5, m6, m7, m8, m9, ma, mb].Nodup) (hfi : ∀ j, j < pn_len X → Fi j = pn_let X j) (hfl : fl = pn_len X) (hse : ∀ j, j < pn_len Z → Se j = pn_let Z j) (hsl : sl = pn_len Z) : Met l yX3_offNow wsX3_offNow ({ frames := 1, cells := 0, slots := 0, locals := 23 }) (va_Pc [.ref m0] (pn_Pr D cI cL cZ cO [(m0, .inr (3, [.ref m1, .ref m2, .ref m3, .ref m4, .int (nI sd), .ref m5, .ref m6, .ref m7, .int (nI fl), .ref m8, .int (nI sl), .ref m9, .int (nI fc), .ref ma, .int (nI sc), .ref mb])), (m1, .inl (cI, 422, .inl St)), (m2, .inl (cI, 844, .inl Im)), (m3, .inl (cZ, 2, .inl Kp)), (m4, .inl (cI, 8, .inl Pd)), (m5, .inl (cI, 12, .inl Ow)), (m6, .inl (cI, 16, .inl Nb)), (m7, .inl (cI, 8, .inl Fi)), (m8, .inl (cI, 8, .inl Se)), (m9, .inl (cI, 4, .inl Fs)), (ma, .inl (cI, 4, .inl Ss)), (mb, .inl (cI, 81, .inl Co))])) (va_Qi (fun r (u : Nat → Int32) => r = (nI (pn_lev (pn_let X) (pn_let Z) (pn_len X) (pn_len Z)))) (fun (u : Nat → Int32) t => va_P D vwCl [(m0, .inr (3, [.ref m1, .ref m2, .ref m3, .ref m4, .int (nI sd), .ref m5, .ref m6, .ref m7, .int (nI fl), .ref m8, .int (nI sl), .ref m9, .int (nI fc), .ref ma, .int (nI sc), .ref mb])), (m1, .inl (cI, 422, .inl St)), (m2, .inl (cI, 844, .inl Im)), (m3, .inl (cZ, 2, .inl Kp)), (m4, .inl (cI, 8, .inl Pd)), (m5, .inl (cI, 12, .inl Ow)), (m6, .inl (cI, 16, .inl Nb)), (m7, .inl (cI, 8, .inl Fi)), (m8, .inl (cI, 8, .inl Se)), (m9, .inl (cI, 4, .inl Fs)), (ma, .inl (cI, 4, .inl Ss)), (mb, .inl (cI, 81, .inl u))] t.heap) (pn_In [m0, m1, m2, m3, m4, m5, m6, m7, m8, m9, ma, mb])) 0 0 (pn_In [m0, m1, m2, m3, m4, m5, m6, m7, m8, m9, ma, mb]) := by
  refine pn_mk (by decide) rfl (Nat.le_of_ble_eq_true rfl) ?_
  intro p e s m below meth c ls hx hb hr hml hown hts hlocks hK hP hl
  have hown : s.vm.findClass RX3 = some m.cls := hown
  have hS : va_S (pn_In [m0, m1, m2, m3, m4, m5, m6, m7, m8, m9, ma, mb]) s.heap s.heap [] := va_S.rf
  have hl : lv_has ls 5 [(0, .ref m0)] := hl
  have h8a := pn_len8 X
  have h8b := pn_len8 Z
  refine lv_iconst (v := (nI 0)) hx hb dX3_offNow_0 (by decide) ?_
  refine lv_istore_n (lv' := [(1, .int (nI 0)), (0, .ref m0)]) hx hb dX3_offNow_1 rfl hl (by decide) rfl (fun ls hl => ?_)
  have lp2_1 : ∀ (fu : Nat) (i : Nat) (Ca : Nat → Int32), fl + 1 - i < fu → (i ≤ fl + 1) → (∀ a b, a < i → b ≤ sl → Ca (9 * a + b) = nI (pn_lev (pn_let X) (pn_let Z) a b)) → ∀ (H : Heap) (locs : List Loc) (ls : Array Slot), va_P D vwCl [(m0, .inr (3, [.ref m1, .ref m2, .ref m3, .ref m4, .int (nI sd), .ref m5, .ref m6, .ref m7, .int (nI fl), .ref m8, .int (nI sl), .ref m9, .int (nI fc), .ref ma, .int (nI sc), .ref mb])), (m1, .inl (cI, 422, .inl St)), (m2, .inl (cI, 844, .inl Im)), (m3, .inl (cZ, 2, .inl Kp)), (m4, .inl (cI, 8, .inl Pd)), (m5, .inl (cI, 12, .inl Ow)), (m6, .inl (cI, 16, .inl Nb)), (m7, .inl (cI, 8, .inl Fi)), (m8, .inl (cI, 8, .inl Se)), (m9, .inl (cI, 4, .inl Fs)), (ma, .inl (cI, 4, .inl Ss)), (mb, .inl (cI, 81, .inl Ca))] H → va_S (pn_In [m0, m1, m2, m3, m4, m5, m6, m7, m8, m9, ma, mb]) s.heap H locs → lv_has ls 5 [(0, .ref m0), (1, .int (nI i))] → W p l e ({ frames := 1, cells := 0, slots := 0, locals := 23 }) s m (List.toArray [.ref m0]) below meth c H locs 0 0 (MQ below (va_Qi (fun r (u : Nat → Int32) => r = (nI (pn_lev (pn_let X) (pn_let Z) (pn_len X) (pn_len Z)))) (fun (u : Nat → Int32) t => va_P D vwCl [(m0, .inr (3, [.ref m1, .ref m2, .ref m3, .ref m4, .int (nI sd), .ref m5, .ref m6, .ref m7, .int (nI fl), .ref m8, .int (nI sl), .ref m9, .int (nI fc), .ref ma, .int (nI sc), .ref mb])), (m1, .inl (cI, 422, .inl St)), (m2, .inl (cI, 844, .inl Im)), (m3, .inl (cZ, 2, .inl Kp)), (m4, .inl (cI, 8, .inl Pd)), (m5, .inl (cI, 12, .inl Ow)), (m6, .inl (cI, 16, .inl Nb)), (m7, .inl (cI, 8, .inl Fi)), (m8, .inl (cI, 8, .inl Se)), (m9, .inl (cI, 4, .inl Fs)), (ma, .inl (cI, 4, .inl Ss)), (mb, .inl (cI, 81, .inl u))] t.heap) (pn_In [m0, m1, m2, m3, m4, m5, m6, m7, m8, m9, ma, mb])) (List.toArray [.ref m0]) s 0 0 (pn_In [m0, m1, m2, m3, m4, m5, m6, m7, m8, m9, ma, mb])) (F0 m 2 ls []) := by
    intro fu
    induction fu with
    | zero => intro i Ca hfu; exact absurd hfu (Nat.not_lt_zero _)
    | succ fu ih2_1 =>
      intro i Ca hfu hi e1 H locs ls hP hS hl
      refine lv_iload_n hx hb dX3_offNow_2 rfl (lv_at hl 1 rfl) ?_
      refine lv_aload_n hx hb dX3_offNow_3 rfl (lv_at hl 0 rfl) ?_
      refine va_get (D := D) (ci := 3) (v := .int (nI fl)) (C := RX3) (T := TX3) (N := 16) hx hb hts ih_X3_offNow_X3 hown hK.1 hP 0 rfl rfl 8 (by decide) (hts (.fieldLink RX3 101 "ParishNamesModel" "firstLong" "I") (by decide +kernel)) (fun _ h9 => h9) rfl dX3_offNow_4 ?_
      refine lv_icmp_gt (tgt := 127) hx hb dX3_offNow_7 (by decide) (fun b7 => ?_) (fun b7 => ?_)
      · have b7 : fl < i := (pn_lt (by omega) (by omega)).mp (show nI fl < nI i from b7)
        refine lv_aload_n hx hb dX3_offNow_127 rfl (lv_at hl 0 rfl) ?_
        refine va_get (D := D) (ci := 3) (v := .ref mb) (C := RX3) (T := TX3) (N := 16) hx hb hts ih_X3_offNow_X3 hown hK.1 hP 0 rfl rfl 15 (by decide) (hts (.fieldLink RX3 41 "ParishNamesModel" "costs" "[I") (by decide +kernel)) (fun _ h9 => h9) rfl dX3_offNow_128 ?_
        refine lv_bipush (v := (nI 9)) hx hb dX3_offNow_131 (by decide) ?_
        refine lv_aload_n hx hb dX3_offNow_133 rfl (lv_at hl 0 rfl) ?_
        refine va_get (D := D) (ci := 3) (v := .int (nI fl)) (C := RX3) (T := TX3) (N := 16) hx hb hts ih_X3_offNow_X3 hown hK.1 hP 0 rfl rfl 8 (by decide) (hts (.fieldLink RX3 101 "ParishNamesModel" "firstLong" "I") (by decide +kernel)) (fun _ h9 => h9) rfl dX3_offNow_134 ?_
        refine pn_imul hx hb dX3_offNow_137 ?_
        refine lv_aload_n hx hb dX3_offNow_138 rfl (lv_at hl 0 rfl) ?_
        refine va_get (D := D) (ci := 3) (v := .int (nI sl)) (C := RX3) (T := TX3) (N := 16) hx hb hts ih_X3_offNow_X3 hown hK.1 hP 0 rfl rfl 10 (by decide) (hts (.fieldLink RX3 111 "ParishNamesModel" "secondLong" "I") (by decide +kernel)) (fun _ h9 => h9) rfl dX3_offNow_139 ?_
        refine pn_iadd hx hb dX3_offNow_142 ?_
        refine pn_iald hx hb hK.1 hP 11 0 rfl rfl (i := ((9 * fl) + sl)) (by omega) (Nat.le_of_ble_eq_true rfl) dX3_offNow_143 ?_
        exact W.iret hx hb hr (fun t ht hW => ⟨⟨_, Ca, rfl, (by rw [e1 fl sl (by omega) (Nat.le_refl _), hfl, hsl]), pn_atH ht hP⟩, hS.F ht⟩) hS.2.2 dX3_offNow_144 hlocks
      · have b7 : ¬ fl < i := fun h => (show ¬ nI fl < nI i from b7) ((pn_lt (by omega) (by omega)).mpr h)
        refine lv_iconst (v := (nI 0)) hx hb dX3_offNow_10 (by decide) ?_
        refine lv_istore_n (lv' := [(2, .int (nI 0)), (0, .ref m0), (1, .int (nI i))]) hx hb dX3_offNow_11 rfl hl (by decide) rfl (fun ls hl => ?_)
        have lp12_3 : ∀ (fu : Nat) (j : Nat) (Cb : Nat → Int32), sl + 1 - j < fu → (j ≤ sl + 1) → (∀ a b, a < i → b ≤ sl → Cb (9 * a + b) = nI (pn_lev (pn_let X) (pn_let Z) a b)) → (∀ b, b < j → Cb (9 * i + b) = nI (pn_lev (pn_let X) (pn_let Z) i b)) → ∀ (H : Heap) (locs : List Loc) (ls : Array Slot), va_P D vwCl [(m0, .inr (3, [.ref m1, .ref m2, .ref m3, .ref m4, .int (nI sd), .ref m5, .ref m6, .ref m7, .int (nI fl), .ref m8, .int (nI sl), .ref m9, .int (nI fc), .ref ma, .int (nI sc), .ref mb])), (m1, .inl (cI, 422, .inl St)), (m2, .inl (cI, 844, .inl Im)), (m3, .inl (cZ, 2, .inl Kp)), (m4, .inl (cI, 8, .inl Pd)), (m5, .inl (cI, 12, .inl Ow)), (m6, .inl (cI, 16, .inl Nb)), (m7, .inl (cI, 8, .inl Fi)), (m8, .inl (cI, 8, .inl Se)), (m9, .inl (cI, 4, .inl Fs)), (ma, .inl (cI, 4, .inl Ss)), (mb, .inl (cI, 81, .inl Cb))] H → va_S (pn_In [m0, m1, m2, m3, m4, m5, m6, m7, m8, m9, ma, mb]) s.heap H locs → lv_has ls 5 [(0, .ref m0), (1, .int (nI i)), (2, .int (nI j))] → W p l e ({ frames := 1, cells := 0, slots := 0, locals := 23 }) s m (List.toArray [.ref m0]) below meth c H locs 0 0 (MQ below (va_Qi (fun r (u : Nat → Int32) => r = (nI (pn_lev (pn_let X) (pn_let Z) (pn_len X) (pn_len Z)))) (fun (u : Nat → Int32) t => va_P D vwCl [(m0, .inr (3, [.ref m1, .ref m2, .ref m3, .ref m4, .int (nI sd), .ref m5, .ref m6, .ref m7, .int (nI fl), .ref m8, .int (nI sl), .ref m9, .int (nI fc), .ref ma, .int (nI sc), .ref mb])), (m1, .inl (cI, 422, .inl St)), (m2, .inl (cI, 844, .inl Im)), (m3, .inl (cZ, 2, .inl Kp)), (m4, .inl (cI, 8, .inl Pd)), (m5, .inl (cI, 12, .inl Ow)), (m6, .inl (cI, 16, .inl Nb)), (m7, .inl (cI, 8, .inl Fi)), (m8, .inl (cI, 8, .inl Se)), (m9, .inl (cI, 4, .inl Fs)), (ma, .inl (cI, 4, .inl Ss)), (mb, .inl (cI, 81, .inl u))] t.heap) (pn_In [m0, m1, m2, m3, m4, m5, m6, m7, m8, m9, ma, mb])) (List.toArray [.ref m0]) s 0 0 (pn_In [m0, m1, m2, m3, m4, m5, m6, m7, m8, m9, ma, mb])) (F0 m 12 ls []) := by
          intro fu
          induction fu with
          | zero => intro j Cb hfu; exact absurd hfu (Nat.not_lt_zero _)
          | succ fu ih12_3 =>
            intro j Cb hfu hj e2 e3 H locs ls hP hS hl
            refine lv_iload_n hx hb dX3_offNow_12 rfl (lv_at hl 2 rfl) ?_
            refine lv_aload_n hx hb dX3_offNow_13 rfl (lv_at hl 0 rfl) ?_
            refine va_get (D := D) (ci := 3) (v := .int (nI sl)) (C := RX3) (T := TX3) (N := 16) hx hb hts ih_X3_offNow_X3 hown hK.1 hP 0 rfl rfl 10 (by decide) (hts (.fieldLink RX3 111 "ParishNamesModel" "secondLong" "I") (by decide +kernel)) (fun _ h9 => h9) rfl dX3_offNow_14 ?_
            refine lv_icmp_gt (tgt := 121) hx hb dX3_offNow_17 (by decide) (fun b17 => ?_) (fun b17 => ?_)
            · have b17 : sl < j := (pn_lt (by omega) (by omega)).mp (show nI sl < nI j from b17)
              refine lv_iinc (v := (nI (i + 1))) (lv' := [(1, .int (nI (i + 1))), (0, .ref m0), (2, .int (nI j))]) hx hb dX3_offNow_121 hl (k := 1) rfl (nI_add i 1) (by decide) rfl (fun ls hl => ?_)
              refine lv_goto (tgt := 2) hx hb dX3_offNow_124 (by decide) ?_
              exact ih2_1 (i + 1) Cb (by omega) (by first | omega | assumption | grind | simp_all) (fun a b ha hb => by rcases (show a < i ∨ a = i by omega) with q | rfl; exact e2 a b q hb; exact e3 b (by omega)) _ _ _ hP hS (lv_sub hl [1, 0] rfl)
            · have b17 : ¬ sl < j := fun h => (show ¬ nI sl < nI j from b17) ((pn_lt (by omega) (by omega)).mpr h)
              refine lv_bipush (v := (nI 9)) hx hb dX3_offNow_20 (by decide) ?_
              refine lv_iload_n hx hb dX3_offNow_22 rfl (lv_at hl 1 rfl) ?_
              refine pn_imul hx hb dX3_offNow_23 ?_
              refine lv_iload_n hx hb dX3_offNow_24 rfl (lv_at hl 2 rfl) ?_
              refine pn_iadd hx hb dX3_offNow_25 ?_
              refine lv_istore_n (lv' := [(3, .int (nI ((9 * i) + j))), (0, .ref m0), (1, .int (nI i)), (2, .int (nI j))]) hx hb dX3_offNow_26 rfl hl (by decide) rfl (fun ls hl => ?_)
              refine lv_iload_n hx hb dX3_offNow_27 rfl (lv_at hl 2 rfl) ?_
              refine lv_if_eq (tgt := 35) hx hb dX3_offNow_28 (by decide) (fun b28 => ?_) (fun b28 => ?_)
              · have b28 : i = 0 := (pn_eq (by omega) (by omega)).mp (show nI i = nI 0 from b28)
                refine lv_aload_n hx hb dX3_offNow_35 rfl (lv_at hl 1 rfl) ?_
                refine va_get (D := D) (ci := 3) (v := .ref mb) (C := RX3) (T := TX3) (N := 16) hx hb hts ih_X3_offNow_X3 hown hK.1 hP 0 rfl rfl 15 (by decide) (hts (.fieldLink RX3 41 "ParishNamesModel" "costs" "[I") (by decide +kernel)) (fun _ h9 => h9) rfl dX3_offNow_36 ?_
                refine lv_iload_n hx hb dX3_offNow_39 rfl (lv_at hl 0 rfl) ?_
                refine lv_iload_n hx hb dX3_offNow_40 rfl (lv_at hl 2 rfl) ?_
                refine lv_iload_n hx hb dX3_offNow_41 rfl (lv_at hl 3 rfl) ?_
                refine pn_iadd hx hb dX3_offNow_42 ?_
                refine pn_iast hx hb hK.1 hP (pn_D hN rfl) hS 11 0 rfl rfl (i := ((9 * i) + j)) (by omega) (Nat.le_of_ble_eq_true rfl) dX3_offNow_43 (fun H locs hP hS => ?_)
                have hP : va_P D vwCl [(m0, .inr (3, [.ref m1, .ref m2, .ref m3, .ref m4, .int (nI sd), .ref m5, .ref m6, .ref m7, .int (nI fl), .ref m8, .int (nI sl), .ref m9, .int (nI fc), .ref ma, .int (nI sc), .ref mb])), (m1, .inl (cI, 422, .inl St)), (m2, .inl (cI, 844, .inl Im)), (m3, .inl (cZ, 2, .inl Kp)), (m4, .inl (cI, 8, .inl Pd)), (m5, .inl (cI, 12, .inl Ow)), (m6, .inl (cI, 16, .inl Nb)), (m7, .inl (cI, 8, .inl Fi)), (m8, .inl (cI, 8, .inl Se)), (m9, .inl (cI, 4, .inl Fs)), (ma, .inl (cI, 4, .inl Ss)), (mb, .inl (cI, 81, .inl (upd Cb ((9 * i) + j) (nI (i + j)))))] H := hP
                refine lv_goto (tgt := 115) hx hb dX3_offNow_44 (by decide) ?_
                refine lv_iinc (v := (nI (j + 1))) (lv' := [(2, .int (nI (j + 1))), (3, .int (nI ((9 * i) + j))), (0, .ref m0), (1, .int (nI i))]) hx hb dX3_offNow_115 hl (k := 3) rfl (nI_add j 1) (by decide) rfl (fun ls hl => ?_)
                refine lv_goto (tgt := 12) hx hb dX3_offNow_118 (by decide) ?_
                exact ih12_3 (j + 1) (upd Cb ((9 * i) + j) (nI (i + j))) (by omega) (by first | omega | assumption | grind | simp_all) (pn_cost2 (by omega) e2) (by first | exact pn_cost e3 (pn_lev_z (Or.inl b28)) | exact pn_cost e3 (pn_lev_z (Or.inr b32)) | exact pn_cost e3 (pn_lev_m b28 b32 (Or.inl ⟨b63, rfl⟩)) | exact pn_cost e3 (pn_lev_m b28 b32 (Or.inr ⟨b63, rfl⟩))) _ _ _ hP hS (lv_sub hl [2, 3, 0] rfl)
              · have b28 : ¬ i = 0 := fun h => (show ¬ nI i = nI 0 from b28) ((pn_eq (by omega) (by omega)).mpr h)
                refine lv_iload_n hx hb dX3_offNow_31 rfl (lv_at hl 3 rfl) ?_
                refine lv_if_ne (tgt := 47) hx hb dX3_offNow_32 (by decide) (fun b32 => ?_) (fun b32 => ?_)
                · have b32 : ¬ j = 0 := fun h => (show ¬ nI j = nI 0 from b32) ((pn_eq (by omega) (by omega)).mpr h)
                  have l1 := pn_lev_le (pn_let X) (pn_let Z) (i - 1) j
                  have l2 := pn_lev_le (pn_let X) (pn_let Z) i (j - 1)
                  have l3 := pn_lev_le (pn_let X) (pn_let Z) (i - 1) (j - 1)
                  refine lv_aload_n hx hb dX3_offNow_47 rfl (lv_at hl 1 rfl) ?_
                  refine va_get (D := D) (ci := 3) (v := .ref m7) (C := RX3) (T := TX3) (N := 16) hx hb hts ih_X3_offNow_X3 hown hK.1 hP 0 rfl rfl 7 (by decide) (hts (.fieldLink RX3 29 "ParishNamesModel" "first" "[I") (by decide +kernel)) (fun _ h9 => h9) rfl dX3_offNow_48 ?_
                  refine lv_iload_n hx hb dX3_offNow_51 rfl (lv_at hl 2 rfl) ?_
                  refine lv_iconst (v := (nI 1)) hx hb dX3_offNow_52 (by decide) ?_
                  refine pn_isub hx hb (by omega) dX3_offNow_53 ?_
                  refine pn_iald hx hb hK.1 hP 7 0 rfl rfl (i := (i - 1)) (by omega) (Nat.le_of_ble_eq_true rfl) dX3_offNow_54 ?_
                  refine pn_top (y := (pn_let X (i - 1))) (hfi _ (by omega)) ?_
                  refine lv_aload_n hx hb dX3_offNow_55 rfl (lv_at hl 1 rfl) ?_
                  refine va_get (D := D) (ci := 3) (v := .ref m8) (C := RX3) (T := TX3) (N := 16) hx hb hts ih_X3_offNow_X3 hown hK.1 hP 0 rfl rfl 9 (by decide) (hts (.fieldLink RX3 32 "ParishNamesModel" "second" "[I") (by decide +kernel)) (fun _ h9 => h9) rfl dX3_offNow_56 ?_
                  refine lv_iload_n hx hb dX3_offNow_59 rfl (lv_at hl 3 rfl) ?_
                  refine lv_iconst (v := (nI 1)) hx hb dX3_offNow_60 (by decide) ?_
                  refine pn_isub hx hb (by omega) dX3_offNow_61 ?_
                  refine pn_iald hx hb hK.1 hP 8 0 rfl rfl (i := (j - 1)) (by omega) (Nat.le_of_ble_eq_true rfl) dX3_offNow_62 ?_
                  refine pn_top (y := (pn_let Z (j - 1))) (hse _ (by omega)) ?_
                  refine lv_icmp_ne (tgt := 70) hx hb dX3_offNow_63 (by decide) (fun b63 => ?_) (fun b63 => ?_)
                  · refine lv_iconst (v := (nI 1)) hx hb dX3_offNow_70 (by decide) ?_
                    refine lv_istore (lv' := [(4, .int (nI 1)), (3, .int (nI ((9 * i) + j))), (0, .ref m0), (1, .int (nI i)), (2, .int (nI j))]) hx hb dX3_offNow_71 hl (by decide) rfl (fun ls hl => ?_)
                    refine lv_aload_n hx hb dX3_offNow_73 rfl (lv_at hl 2 rfl) ?_
                    refine va_get (D := D) (ci := 3) (v := .ref mb) (C := RX3) (T := TX3) (N := 16) hx hb hts ih_X3_offNow_X3 hown hK.1 hP 0 rfl rfl 15 (by decide) (hts (.fieldLink RX3 41 "ParishNamesModel" "costs" "[I") (by decide +kernel)) (fun _ h9 => h9) rfl dX3_offNow_74 ?_
                    refine lv_iload_n hx hb dX3_offNow_77 rfl (lv_at hl 1 rfl) ?_
                    refine lv_aload_n hx hb dX3_offNow_78 rfl (lv_at hl 2 rfl) ?_
                    refine va_get (D := D) (ci := 3) (v := .ref mb) (C := RX3) (T := TX3) (N := 16) hx hb hts ih_X3_offNow_X3 hown hK.1 hP 0 rfl rfl 15 (by decide) (hts (.fieldLink RX3 41 "ParishNamesModel" "costs" "[I") (by decide +kernel)) (fun _ h9 => h9) rfl dX3_offNow_79 ?_
                    refine lv_iload_n hx hb dX3_offNow_82 rfl (lv_at hl 1 rfl) ?_
                    refine lv_bipush (v := (nI 9)) hx hb dX3_offNow_83 (by decide) ?_
                    refine pn_isub hx hb (by omega) dX3_offNow_85 ?_
                    refine pn_iald hx hb hK.1 hP 11 0 rfl rfl (i := (((9 * i) + j) - 9)) (by omega) (Nat.le_of_ble_eq_true rfl) dX3_offNow_86 ?_
                    refine pn_top (y := (nI (pn_lev (pn_let X) (pn_let Z) (i - 1) j))) (by rw [show 9 * i + j - 9 = 9 * (i - 1) + j by omega]; exact e2 _ _ (by omega) (by omega)) ?_
                    refine lv_iconst (v := (nI 1)) hx hb dX3_offNow_87 (by decide) ?_
                    refine pn_iadd hx hb dX3_offNow_88 ?_
                    refine lv_aload_n hx hb dX3_offNow_89 rfl (lv_at hl 2 rfl) ?_
                    refine va_get (D := D) (ci := 3) (v := .ref mb) (C := RX3) (T := TX3) (N := 16) hx hb hts ih_X3_offNow_X3 hown hK.1 hP 0 rfl rfl 15 (by decide) (hts (.fieldLink RX3 41 "ParishNamesModel" "costs" "[I") (by decide +kernel)) (fun _ h9 => h9) rfl dX3_offNow_90 ?_
                    refine lv_iload_n hx hb dX3_offNow_93 rfl (lv_at hl 1 rfl) ?_
                    refine lv_iconst (v := (nI 1)) hx hb dX3_offNow_94 (by decide) ?_
                    refine pn_isub hx hb (by omega) dX3_offNow_95 ?_
                    refine pn_iald hx hb hK.1 hP 11 0 rfl rfl (i := (((9 * i) + j) - 1)) (by omega) (Nat.le_of_ble_eq_true rfl) dX3_offNow_96 ?_
                    refine pn_top (y := (nI (pn_lev (pn_let X) (pn_let Z) i (j - 1)))) (by rw [show 9 * i + j - 1 = 9 * i + (j - 1) by omega]; exact e3 _ (by omega)) ?_
                    refine lv_iconst (v := (nI 1)) hx hb dX3_offNow_97 (by decide) ?_
                    refine pn_iadd hx hb dX3_offNow_98 ?_
                    refine lv_aload_n hx hb dX3_offNow_99 rfl (lv_at hl 2 rfl) ?_
                    refine va_get (D := D) (ci := 3) (v := .ref mb) (C := RX3) (T := TX3) (N := 16) hx hb hts ih_X3_offNow_X3 hown hK.1 hP 0 rfl rfl 15 (by decide) (hts (.fieldLink RX3 41 "ParishNamesModel" "costs" "[I") (by decide +kernel)) (fun _ h9 => h9) rfl dX3_offNow_100 ?_
                    refine lv_iload_n hx hb dX3_offNow_103 rfl (lv_at hl 1 rfl) ?_
                    refine lv_bipush (v := (nI 10)) hx hb dX3_offNow_104 (by decide) ?_
                    refine pn_isub hx hb (by omega) dX3_offNow_106 ?_
                    refine pn_iald hx hb hK.1 hP 11 0 rfl rfl (i := (((9 * i) + j) - 10)) (by omega) (Nat.le_of_ble_eq_true rfl) dX3_offNow_107 ?_
                    refine pn_top (y := (nI (pn_lev (pn_let X) (pn_let Z) (i - 1) (j - 1)))) (by rw [show 9 * i + j - 10 = 9 * (i - 1) + (j - 1) by omega]; exact e2 _ _ (by omega) (by omega)) ?_
                    refine lv_iload hx hb dX3_offNow_108 (lv_at hl 0 rfl) ?_
                    refine pn_iadd hx hb dX3_offNow_110 ?_
                    refine pn_roi (w := [(m0, .inr (3, [.ref m1, .ref m2, .ref m3, .ref m4, .int (nI sd), .ref m5, .ref m6, .ref m7, .int (nI fl), .ref m8, .int (nI sl), .ref m9, .int (nI fc), .ref ma, .int (nI sc), .ref mb])), (m1, .inl (cI, 422, .inl St)), (m2, .inl (cI, 844, .inl Im)), (m3, .inl (cZ, 2, .inl Kp)), (m4, .inl (cI, 8, .inl Pd)), (m5, .inl (cI, 12, .inl Ow)), (m6, .inl (cI, 16, .inl Nb)), (m7, .inl (cI, 8, .inl Fi)), (m8, .inl (cI, 8, .inl Se)), (m9, .inl (cI, 4, .inl Fs)), (ma, .inl (cI, 4, .inl Ss)), (mb, .inl (cI, 81, .inl Cb))]) hP hS (va_runS (As := [.int (nI ((pn_lev (pn_let X) (pn_let Z) (i - 1) j) + 1)), .int (nI ((pn_lev (pn_let X) (pn_let Z) i (j - 1)) + 1)), .int (nI ((pn_lev (pn_let X) (pn_let Z) (i - 1) (j - 1)) + 1))]) (rest := [.int (nI ((9 * i) + j)), .ref mb]) ⟨hx, hb, hml, hown, hts⟩ (c_X3_least l D cI cL cZ cO ((pn_lev (pn_let X) (pn_let Z) (i - 1) j) + 1) ((pn_lev (pn_let X) (pn_let Z) i (j - 1)) + 1) ((pn_lev (pn_let X) (pn_let Z) (i - 1) (j - 1)) + 1) (by first | omega | assumption | grind | simp_all) (by first | omega | assumption | grind | simp_all) (by first | omega | assumption | grind | simp_all)) (va_cwS 3 hts gX3_offNow_X3_least rfl rfl rfl (by decide +kernel) ⟨Nat.le_of_ble_eq_true rfl, Nat.le_of_ble_eq_true rfl⟩) (pn_ps (WS := []) (fun k q h => by simp at h) hK) rfl rfl hl.1 rfl (lv_room (Nat.le_of_ble_eq_true rfl)) dX3_offNow_111 ⟨Nat.le_of_ble_eq_true rfl, Nat.le_of_ble_eq_true rfl⟩) (fun H locs hP hS => ?_)
                    refine pn_iast hx hb hK.1 hP (pn_D hN rfl) hS 11 0 rfl rfl (i := ((9 * i) + j)) (by omega) (Nat.le_of_ble_eq_true rfl) dX3_offNow_114 (fun H locs hP hS => ?_)
                    have hP : va_P D vwCl [(m0, .inr (3, [.ref m1, .ref m2, .ref m3, .ref m4, .int (nI sd), .ref m5, .ref m6, .ref m7, .int (nI fl), .ref m8, .int (nI sl), .ref m9, .int (nI fc), .ref ma, .int (nI sc), .ref mb])), (m1, .inl (cI, 422, .inl St)), (m2, .inl (cI, 844, .inl Im)), (m3, .inl (cZ, 2, .inl Kp)), (m4, .inl (cI, 8, .inl Pd)), (m5, .inl (cI, 12, .inl Ow)), (m6, .inl (cI, 16, .inl Nb)), (m7, .inl (cI, 8, .inl Fi)), (m8, .inl (cI, 8, .inl Se)), (m9, .inl (cI, 4, .inl Fs)), (ma, .inl (cI, 4, .inl Ss)), (mb, .inl (cI, 81, .inl (upd Cb ((9 * i) + j) (nI (min (min ((pn_lev (pn_let X) (pn_let Z) (i - 1) j) + 1) ((pn_lev (pn_let X) (pn_let Z) i (j - 1)) + 1)) ((pn_lev (pn_let X) (pn_let Z) (i - 1) (j - 1)) + 1))))))] H := hP
                    refine lv_iinc (v := (nI (j + 1))) (lv' := [(2, .int (nI (j + 1))), (4, .int (nI 1)), (3, .int (nI ((9 * i) + j))), (0, .ref m0), (1, .int (nI i))]) hx hb dX3_offNow_115 hl (k := 4) rfl (nI_add j 1) (by decide) rfl (fun ls hl => ?_)
                    refine lv_goto (tgt := 12) hx hb dX3_offNow_118 (by decide) ?_
                    exact ih12_3 (j + 1) (upd Cb ((9 * i) + j) (nI (min (min ((pn_lev (pn_let X) (pn_let Z) (i - 1) j) + 1) ((pn_lev (pn_let X) (pn_let Z) i (j - 1)) + 1)) ((pn_lev (pn_let X) (pn_let Z) (i - 1) (j - 1)) + 1)))) (by omega) (by first | omega | assumption | grind | simp_all) (pn_cost2 (by omega) e2) (by first | exact pn_cost e3 (pn_lev_z (Or.inl b28)) | exact pn_cost e3 (pn_lev_z (Or.inr b32)) | exact pn_cost e3 (pn_lev_m b28 b32 (Or.inl ⟨b63, rfl⟩)) | exact pn_cost e3 (pn_lev_m b28 b32 (Or.inr ⟨b63, rfl⟩))) _ _ _ hP hS (lv_sub hl [3, 4, 0] rfl)
                  · refine lv_iconst (v := (nI 0)) hx hb dX3_offNow_66 (by decide) ?_
                    refine lv_goto (tgt := 71) hx hb dX3_offNow_67 (by decide) ?_
                    refine lv_istore (lv' := [(4, .int (nI 0)), (3, .int (nI ((9 * i) + j))), (0, .ref m0), (1, .int (nI i)), (2, .int (nI j))]) hx hb dX3_offNow_71 hl (by decide) rfl (fun ls hl => ?_)
                    refine lv_aload_n hx hb dX3_offNow_73 rfl (lv_at hl 2 rfl) ?_
                    refine va_get (D := D) (ci := 3) (v := .ref mb) (C := RX3) (T := TX3) (N := 16) hx hb hts ih_X3_offNow_X3 hown hK.1 hP 0 rfl rfl 15 (by decide) (hts (.fieldLink RX3 41 "ParishNamesModel" "costs" "[I") (by decide +kernel)) (fun _ h9 => h9) rfl dX3_offNow_74 ?_
                    refine lv_iload_n hx hb dX3_offNow_77 rfl (lv_at hl 1 rfl) ?_
                    refine lv_aload_n hx hb dX3_offNow_78 rfl (lv_at hl 2 rfl) ?_
                    refine va_get (D := D) (ci := 3) (v := .ref mb) (C := RX3) (T := TX3) (N := 16) hx hb hts ih_X3_offNow_X3 hown hK.1 hP 0 rfl rfl 15 (by decide) (hts (.fieldLink RX3 41 "ParishNamesModel" "costs" "[I") (by decide +kernel)) (fun _ h9 => h9) rfl dX3_offNow_79 ?_
                    refine lv_iload_n hx hb dX3_offNow_82 rfl (lv_at hl 1 rfl) ?_
                    refine lv_bipush (v := (nI 9)) hx hb dX3_offNow_83 (by decide) ?_
                    refine pn_isub hx hb (by omega) dX3_offNow_85 ?_
                    refine pn_iald hx hb hK.1 hP 11 0 rfl rfl (i := (((9 * i) + j) - 9)) (by omega) (Nat.le_of_ble_eq_true rfl) dX3_offNow_86 ?_
                    refine pn_top (y := (nI (pn_lev (pn_let X) (pn_let Z) (i - 1) j))) (by rw [show 9 * i + j - 9 = 9 * (i - 1) + j by omega]; exact e2 _ _ (by omega) (by omega)) ?_
                    refine lv_iconst (v := (nI 1)) hx hb dX3_offNow_87 (by decide) ?_
                    refine pn_iadd hx hb dX3_offNow_88 ?_
                    refine lv_aload_n hx hb dX3_offNow_89 rfl (lv_at hl 2 rfl) ?_
                    refine va_get (D := D) (ci := 3) (v := .ref mb) (C := RX3) (T := TX3) (N := 16) hx hb hts ih_X3_offNow_X3 hown hK.1 hP 0 rfl rfl 15 (by decide) (hts (.fieldLink RX3 41 "ParishNamesModel" "costs" "[I") (by decide +kernel)) (fun _ h9 => h9) rfl dX3_offNow_90 ?_
                    refine lv_iload_n hx hb dX3_offNow_93 rfl (lv_at hl 1 rfl) ?_
                    refine lv_iconst (v := (nI 1)) hx hb dX3_offNow_94 (by decide) ?_
                    refine pn_isub hx hb (by omega) dX3_offNow_95 ?_
                    refine pn_iald hx hb hK.1 hP 11 0 rfl rfl (i := (((9 * i) + j) - 1)) (by omega) (Nat.le_of_ble_eq_true rfl) dX3_offNow_96 ?_
                    refine pn_top (y := (nI (pn_lev (pn_let X) (pn_let Z) i (j - 1)))) (by rw [show 9 * i + j - 1 = 9 * i + (j - 1) by omega]; exact e3 _ (by omega)) ?_
                    refine lv_iconst (v := (nI 1)) hx hb dX3_offNow_97 (by decide) ?_
                    refine pn_iadd hx hb dX3_offNow_98 ?_
                    refine lv_aload_n hx hb dX3_offNow_99 rfl (lv_at hl 2 rfl) ?_
                    refine va_get (D := D) (ci := 3) (v := .ref mb) (C := RX3) (T := TX3) (N := 16) hx hb hts ih_X3_offNow_X3 hown hK.1 hP 0 rfl rfl 15 (by decide) (hts (.fieldLink RX3 41 "ParishNamesModel" "costs" "[I") (by decide +kernel)) (fun _ h9 => h9) rfl dX3_offNow_100 ?_
                    refine lv_iload_n hx hb dX3_offNow_103 rfl (lv_at hl 1 rfl) ?_
                    refine lv_bipush (v := (nI 10)) hx hb dX3_offNow_104 (by decide) ?_
                    refine pn_isub hx hb (by omega) dX3_offNow_106 ?_
                    refine pn_iald hx hb hK.1 hP 11 0 rfl rfl (i := (((9 * i) + j) - 10)) (by omega) (Nat.le_of_ble_eq_true rfl) dX3_offNow_107 ?_
                    refine pn_top (y := (nI (pn_lev (pn_let X) (pn_let Z) (i - 1) (j - 1)))) (by rw [show 9 * i + j - 10 = 9 * (i - 1) + (j - 1) by omega]; exact e2 _ _ (by omega) (by omega)) ?_
                    refine lv_iload hx hb dX3_offNow_108 (lv_at hl 0 rfl) ?_
                    refine pn_iadd hx hb dX3_offNow_110 ?_
                    refine pn_roi (w := [(m0, .inr (3, [.ref m1, .ref m2, .ref m3, .ref m4, .int (nI sd), .ref m5, .ref m6, .ref m7, .int (nI fl), .ref m8, .int (nI sl), .ref m9, .int (nI fc), .ref ma, .int (nI sc), .ref mb])), (m1, .inl (cI, 422, .inl St)), (m2, .inl (cI, 844, .inl Im)), (m3, .inl (cZ, 2, .inl Kp)), (m4, .inl (cI, 8, .inl Pd)), (m5, .inl (cI, 12, .inl Ow)), (m6, .inl (cI, 16, .inl Nb)), (m7, .inl (cI, 8, .inl Fi)), (m8, .inl (cI, 8, .inl Se)), (m9, .inl (cI, 4, .inl Fs)), (ma, .inl (cI, 4, .inl Ss)), (mb, .inl (cI, 81, .inl Cb))]) hP hS (va_runS (As := [.int (nI ((pn_lev (pn_let X) (pn_let Z) (i - 1) j) + 1)), .int (nI ((pn_lev (pn_let X) (pn_let Z) i (j - 1)) + 1)), .int (nI ((pn_lev (pn_let X) (pn_let Z) (i - 1) (j - 1)) + 0))]) (rest := [.int (nI ((9 * i) + j)), .ref mb]) ⟨hx, hb, hml, hown, hts⟩ (c_X3_least l D cI cL cZ cO ((pn_lev (pn_let X) (pn_let Z) (i - 1) j) + 1) ((pn_lev (pn_let X) (pn_let Z) i (j - 1)) + 1) ((pn_lev (pn_let X) (pn_let Z) (i - 1) (j - 1)) + 0) (by first | omega | assumption | grind | simp_all) (by first | omega | assumption | grind | simp_all) (by first | omega | assumption | grind | simp_all)) (va_cwS 3 hts gX3_offNow_X3_least rfl rfl rfl (by decide +kernel) ⟨Nat.le_of_ble_eq_true rfl, Nat.le_of_ble_eq_true rfl⟩) (pn_ps (WS := []) (fun k q h => by simp at h) hK) rfl rfl hl.1 rfl (lv_room (Nat.le_of_ble_eq_true rfl)) dX3_offNow_111 ⟨Nat.le_of_ble_eq_true rfl, Nat.le_of_ble_eq_true rfl⟩) (fun H locs hP hS => ?_)
                    refine pn_iast hx hb hK.1 hP (pn_D hN rfl) hS 11 0 rfl rfl (i := ((9 * i) + j)) (by omega) (Nat.le_of_ble_eq_true rfl) dX3_offNow_114 (fun H locs hP hS => ?_)
                    have hP : va_P D vwCl [(m0, .inr (3, [.ref m1, .ref m2, .ref m3, .ref m4, .int (nI sd), .ref m5, .ref m6, .ref m7, .int (nI fl), .ref m8, .int (nI sl), .ref m9, .int (nI fc), .ref ma, .int (nI sc), .ref mb])), (m1, .inl (cI, 422, .inl St)), (m2, .inl (cI, 844, .inl Im)), (m3, .inl (cZ, 2, .inl Kp)), (m4, .inl (cI, 8, .inl Pd)), (m5, .inl (cI, 12, .inl Ow)), (m6, .inl (cI, 16, .inl Nb)), (m7, .inl (cI, 8, .inl Fi)), (m8, .inl (cI, 8, .inl Se)), (m9, .inl (cI, 4, .inl Fs)), (ma, .inl (cI, 4, .inl Ss)), (mb, .inl (cI, 81, .inl (upd Cb ((9 * i) + j) (nI (min (min ((pn_lev (pn_let X) (pn_let Z) (i - 1) j) + 1) ((pn_lev (pn_let X) (pn_let Z) i (j - 1)) + 1)) ((pn_lev (pn_let X) (pn_let Z) (i - 1) (j - 1)) + 0))))))] H := hP
                    refine lv_iinc (v := (nI (j + 1))) (lv' := [(2, .int (nI (j + 1))), (4, .int (nI 0)), (3, .int (nI ((9 * i) + j))), (0, .ref m0), (1, .int (nI i))]) hx hb dX3_offNow_115 hl (k := 4) rfl (nI_add j 1) (by decide) rfl (fun ls hl => ?_)
                    refine lv_goto (tgt := 12) hx hb dX3_offNow_118 (by decide) ?_
                    exact ih12_3 (j + 1) (upd Cb ((9 * i) + j) (nI (min (min ((pn_lev (pn_let X) (pn_let Z) (i - 1) j) + 1) ((pn_lev (pn_let X) (pn_let Z) i (j - 1)) + 1)) ((pn_lev (pn_let X) (pn_let Z) (i - 1) (j - 1)) + 0)))) (by omega) (by first | omega | assumption | grind | simp_all) (pn_cost2 (by omega) e2) (by first | exact pn_cost e3 (pn_lev_z (Or.inl b28)) | exact pn_cost e3 (pn_lev_z (Or.inr b32)) | exact pn_cost e3 (pn_lev_m b28 b32 (Or.inl ⟨b63, rfl⟩)) | exact pn_cost e3 (pn_lev_m b28 b32 (Or.inr ⟨b63, rfl⟩))) _ _ _ hP hS (lv_sub hl [3, 4, 0] rfl)
                · have b32 : j = 0 := (pn_eq (by omega) (by omega)).mp (show nI j = nI 0 from b32)
                  refine lv_aload_n hx hb dX3_offNow_35 rfl (lv_at hl 1 rfl) ?_
                  refine va_get (D := D) (ci := 3) (v := .ref mb) (C := RX3) (T := TX3) (N := 16) hx hb hts ih_X3_offNow_X3 hown hK.1 hP 0 rfl rfl 15 (by decide) (hts (.fieldLink RX3 41 "ParishNamesModel" "costs" "[I") (by decide +kernel)) (fun _ h9 => h9) rfl dX3_offNow_36 ?_
                  refine lv_iload_n hx hb dX3_offNow_39 rfl (lv_at hl 0 rfl) ?_
                  refine lv_iload_n hx hb dX3_offNow_40 rfl (lv_at hl 2 rfl) ?_
                  refine lv_iload_n hx hb dX3_offNow_41 rfl (lv_at hl 3 rfl) ?_
                  refine pn_iadd hx hb dX3_offNow_42 ?_
                  refine pn_iast hx hb hK.1 hP (pn_D hN rfl) hS 11 0 rfl rfl (i := ((9 * i) + j)) (by omega) (Nat.le_of_ble_eq_true rfl) dX3_offNow_43 (fun H locs hP hS => ?_)
                  have hP : va_P D vwCl [(m0, .inr (3, [.ref m1, .ref m2, .ref m3, .ref m4, .int (nI sd), .ref m5, .ref m6, .ref m7, .int (nI fl), .ref m8, .int (nI sl), .ref m9, .int (nI fc), .ref ma, .int (nI sc), .ref mb])), (m1, .inl (cI, 422, .inl St)), (m2, .inl (cI, 844, .inl Im)), (m3, .inl (cZ, 2, .inl Kp)), (m4, .inl (cI, 8, .inl Pd)), (m5, .inl (cI, 12, .inl Ow)), (m6, .inl (cI, 16, .inl Nb)), (m7, .inl (cI, 8, .inl Fi)), (m8, .inl (cI, 8, .inl Se)), (m9, .inl (cI, 4, .inl Fs)), (ma, .inl (cI, 4, .inl Ss)), (mb, .inl (cI, 81, .inl (upd Cb ((9 * i) + j) (nI (i + j)))))] H := hP
                  refine lv_goto (tgt := 115) hx hb dX3_offNow_44 (by decide) ?_
                  refine lv_iinc (v := (nI (j + 1))) (lv' := [(2, .int (nI (j + 1))), (3, .int (nI ((9 * i) + j))), (0, .ref m0), (1, .int (nI i))]) hx hb dX3_offNow_115 hl (k := 3) rfl (nI_add j 1) (by decide) rfl (fun ls hl => ?_)
                  refine lv_goto (tgt := 12) hx hb dX3_offNow_118 (by decide) ?_
                  exact ih12_3 (j + 1) (upd Cb ((9 * i) + j) (nI (i + j))) (by omega) (by first | omega | assumption | grind | simp_all) (pn_cost2 (by omega) e2) (by first | exact pn_cost e3 (pn_lev_z (Or.inl b28)) | exact pn_cost e3 (pn_lev_z (Or.inr b32)) | exact pn_cost e3 (pn_lev_m b28 b32 (Or.inl ⟨b63, rfl⟩)) | exact pn_cost e3 (pn_lev_m b28 b32 (Or.inr ⟨b63, rfl⟩))) _ _ _ hP hS (lv_sub hl [2, 3, 0] rfl)
        exact lp12_3 ((sl + 1 - 0) + 1) 0 Ca (Nat.lt_succ_self _) (by first | omega | assumption | grind | simp_all) e1 (fun b h => absurd h (Nat.not_lt_zero _)) _ _ _ hP hS (lv_sub hl [1, 2, 0] rfl)
  exact lp2_1 ((fl + 1 - 0) + 1) 0 Co (Nat.lt_succ_self _) (by first | omega | assumption | grind | simp_all) (fun a b h => absurd h (Nat.not_lt_zero _)) _ _ _ hP hS (lv_sub hl [1, 0] rfl)
