theorem ih_X3_areSame_X3 : ∀ w ∈ wsX30, w ∈ wsX3_areSame := by decide +kernel
set_option maxHeartbeats 4000000 in
set_option maxRecDepth 100000 in
theorem c_X3_areSame (l : Launch) (D : va_G) (cI cL cZ cO : ClassId) (m0 m1 m2 m3 m4 m5 m6 m7 m8 m9 ma mb : Nat) (St Im Kp Pd : Nat → Int32) (sd : Nat) (Ow Nb Fi : Nat → Int32) (fl : Nat) (Se : Nat → Int32) (sl : Nat) (Fs : Nat → Int32) (fc : Nat) (Ss : Nat → Int32) (sc : Nat) (Co : Nat → Int32) (K Y P S O : Nat → Int32) (N : Nat → Int64) (n F : Nat) (pd : Int64) (X : Int64) (Z : Int64) (hfi : ∀ j, j < pn_len X → Fi j = pn_let X j) (hfl : fl = pn_len X) (hse : ∀ j, j < pn_len Z → Se j = pn_let Z j) (hsl : sl = pn_len Z) (hwX : pn_wn X) (hwZ : pn_wn Z) : Met l yX3_areSame wsX3_areSame ({ frames := 0, cells := 0, slots := 0, locals := 0 }) (va_Pc [.ref m0] (pn_Pr D cI cL cZ cO [(m0, .inr (3, [.ref m1, .ref m2, .ref m3, .ref m4, .int (nI sd), .ref m5, .ref m6, .ref m7, .int (nI fl), .ref m8, .int (nI sl), .ref m9, .int (nI fc), .ref ma, .int (nI sc), .ref mb])), (m1, .inl (cI, 422, .inl St)), (m2, .inl (cI, 844, .inl Im)), (m3, .inl (cZ, 2, .inl Kp)), (m4, .inl (cI, 8, .inl Pd)), (m5, .inl (cI, 12, .inl Ow)), (m6, .inl (cI, 16, .inl Nb)), (m7, .inl (cI, 8, .inl Fi)), (m8, .inl (cI, 8, .inl Se)), (m9, .inl (cI, 4, .inl Fs)), (ma, .inl (cI, 4, .inl Ss)), (mb, .inl (cI, 81, .inl Co))])) (va_Qi (fun r (_ : Unit) => r = (pn_b (X = Z))) (fun _ _ => True) pn_No) 0 0 pn_No := by
  refine pn_mk (by decide) rfl (Nat.le_of_ble_eq_true rfl) ?_
  intro p e s m below meth c ls hx hb hr hml hown hts hlocks hK hP hl
  have hown : s.vm.findClass RX3 = some m.cls := hown
  have hS : va_S pn_No s.heap s.heap [] := va_S.rf
  have hl : lv_has ls 3 [(0, .ref m0)] := hl
  have h8a := pn_len8 X
  have h8b := pn_len8 Z
  have h4a := pn_lsd4 (pn_snd X)
  have h4b := pn_lsd4 (pn_snd Z)
  refine lv_aload_n hx hb dX3_areSame_0 rfl (lv_at hl 0 rfl) ?_
  refine va_get (D := D) (ci := 3) (v := .int (nI fl)) (C := RX3) (T := TX3) (N := 16) hx hb hts ih_X3_areSame_X3 hown hK.1 hP 0 rfl rfl 8 (by decide) (hts (.fieldLink RX3 101 "ParishNamesModel" "firstLong" "I") (by decide +kernel)) (fun _ h9 => h9) rfl dX3_areSame_1 ?_
  refine lv_aload_n hx hb dX3_areSame_4 rfl (lv_at hl 0 rfl) ?_
  refine va_get (D := D) (ci := 3) (v := .int (nI sl)) (C := RX3) (T := TX3) (N := 16) hx hb hts ih_X3_areSame_X3 hown hK.1 hP 0 rfl rfl 10 (by decide) (hts (.fieldLink RX3 111 "ParishNamesModel" "secondLong" "I") (by decide +kernel)) (fun _ h9 => h9) rfl dX3_areSame_5 ?_
  refine lv_icmp_ne (tgt := 15) hx hb dX3_areSame_8 (by decide) (fun b8 => ?_) (fun b8 => ?_)
  · have b8 : ¬ fl = sl := fun h => (show ¬ nI fl = nI sl from b8) ((pn_eq (by omega) (by omega)).mpr h)
    refine lv_iconst (v := (nI 0)) hx hb dX3_areSame_15 (by decide) ?_
    refine lv_istore_n (lv' := [(1, .int (nI 0)), (0, .ref m0)]) hx hb dX3_areSame_16 rfl hl (by decide) rfl (fun ls hl => ?_)
    refine lv_iconst (v := (nI 0)) hx hb dX3_areSame_17 (by decide) ?_
    refine lv_istore_n (lv' := [(2, .int (nI 0)), (1, .int (nI 0)), (0, .ref m0)]) hx hb dX3_areSame_18 rfl hl (by decide) rfl (fun ls hl => ?_)
    have lp19_2 : ∀ (fu : Nat) (sm : Nat) (k : Nat), fl - k < fu → (k ≤ fl) → (sm ≤ 1) → (sm = 0 → ¬ X = Z) → (sm = 1 → fl = sl ∧ ∀ j, j < k → (pn_let X j) = (pn_let Z j)) → ∀ (H : Heap) (locs : List Loc) (ls : Array Slot), va_P D vwCl [(m0, .inr (3, [.ref m1, .ref m2, .ref m3, .ref m4, .int (nI sd), .ref m5, .ref m6, .ref m7, .int (nI fl), .ref m8, .int (nI sl), .ref m9, .int (nI fc), .ref ma, .int (nI sc), .ref mb])), (m1, .inl (cI, 422, .inl St)), (m2, .inl (cI, 844, .inl Im)), (m3, .inl (cZ, 2, .inl Kp)), (m4, .inl (cI, 8, .inl Pd)), (m5, .inl (cI, 12, .inl Ow)), (m6, .inl (cI, 16, .inl Nb)), (m7, .inl (cI, 8, .inl Fi)), (m8, .inl (cI, 8, .inl Se)), (m9, .inl (cI, 4, .inl Fs)), (ma, .inl (cI, 4, .inl Ss)), (mb, .inl (cI, 81, .inl Co))] H → va_S pn_No s.heap H locs → lv_has ls 3 [(0, .ref m0), (1, .int (nI sm)), (2, .int (nI k))] → W p l e ({ frames := 0, cells := 0, slots := 0, locals := 0 }) s m (List.toArray [.ref m0]) below meth c H locs 0 0 (MQ below (va_Qi (fun r (_ : Unit) => r = (pn_b (X = Z))) (fun _ _ => True) pn_No) (List.toArray [.ref m0]) s 0 0 pn_No) (F0 m 19 ls []) := by
      intro fu
      induction fu with
      | zero => intro sm k hfu; exact absurd hfu (Nat.not_lt_zero _)
      | succ fu ih19_2 =>
        intro sm k hfu hk hs1 e0 e1 H locs ls hP hS hl
        refine lv_iload_n hx hb dX3_areSame_19 rfl (lv_at hl 2 rfl) ?_
        refine lv_aload_n hx hb dX3_areSame_20 rfl (lv_at hl 0 rfl) ?_
        refine va_get (D := D) (ci := 3) (v := .int (nI fl)) (C := RX3) (T := TX3) (N := 16) hx hb hts ih_X3_areSame_X3 hown hK.1 hP 0 rfl rfl 8 (by decide) (hts (.fieldLink RX3 101 "ParishNamesModel" "firstLong" "I") (by decide +kernel)) (fun _ h9 => h9) rfl dX3_areSame_21 ?_
        refine lv_icmp_ge (tgt := 58) hx hb dX3_areSame_24 (by decide) (fun b24 => ?_) (fun b24 => ?_)
        · have b24 : fl ≤ k := (pn_le (by omega) (by omega)).mp (show nI fl ≤ nI k from b24)
          rcases (show sm = 0 ∨ sm = 1 by omega) with rfl | rfl
          · refine lv_iload_n hx hb dX3_areSame_58 rfl (lv_at hl 1 rfl) ?_
            exact W.zret hx hb hr (by decide) (fun t ht hW => ⟨⟨_, (), rfl, (by first | exact pn_bf (e0 rfl) | exact pn_bt (pn_eqN hwX hwZ (by rw [← hfl, ← hsl]; exact (e1 rfl).1) (fun j hj => (e1 rfl).2 j (by omega)))), trivial⟩, hS.F ht⟩) hS.2.2 dX3_areSame_59 hlocks
          · refine lv_iload_n hx hb dX3_areSame_58 rfl (lv_at hl 1 rfl) ?_
            exact W.zret hx hb hr (by decide) (fun t ht hW => ⟨⟨_, (), rfl, (by first | exact pn_bf (e0 rfl) | exact pn_bt (pn_eqN hwX hwZ (by rw [← hfl, ← hsl]; exact (e1 rfl).1) (fun j hj => (e1 rfl).2 j (by omega)))), trivial⟩, hS.F ht⟩) hS.2.2 dX3_areSame_59 hlocks
        · have b24 : ¬ fl ≤ k := fun h => (show ¬ nI fl ≤ nI k from b24) ((pn_le (by omega) (by omega)).mpr h)
          refine lv_iload_n hx hb dX3_areSame_27 rfl (lv_at hl 1 rfl) ?_
          refine lv_if_eq (tgt := 58) hx hb dX3_areSame_28 (by decide) (fun b28 => ?_) (fun b28 => ?_)
          · have b28 : sm = 0 := (pn_eq (by omega) (by omega)).mp (show nI sm = nI 0 from b28)
            rcases (show sm = 0 ∨ sm = 1 by omega) with rfl | rfl
            · refine lv_iload_n hx hb dX3_areSame_58 rfl (lv_at hl 1 rfl) ?_
              exact W.zret hx hb hr (by decide) (fun t ht hW => ⟨⟨_, (), rfl, (by first | exact pn_bf (e0 rfl) | exact pn_bt (pn_eqN hwX hwZ (by rw [← hfl, ← hsl]; exact (e1 rfl).1) (fun j hj => (e1 rfl).2 j (by omega)))), trivial⟩, hS.F ht⟩) hS.2.2 dX3_areSame_59 hlocks
            · refine lv_iload_n hx hb dX3_areSame_58 rfl (lv_at hl 1 rfl) ?_
              exact W.zret hx hb hr (by decide) (fun t ht hW => ⟨⟨_, (), rfl, (by first | exact pn_bf (e0 rfl) | exact pn_bt (pn_eqN hwX hwZ (by rw [← hfl, ← hsl]; exact (e1 rfl).1) (fun j hj => (e1 rfl).2 j (by omega)))), trivial⟩, hS.F ht⟩) hS.2.2 dX3_areSame_59 hlocks
          · have b28 : ¬ sm = 0 := fun h => (show ¬ nI sm = nI 0 from b28) ((pn_eq (by omega) (by omega)).mpr h)
            refine lv_aload_n hx hb dX3_areSame_31 rfl (lv_at hl 0 rfl) ?_
            refine va_get (D := D) (ci := 3) (v := .ref m7) (C := RX3) (T := TX3) (N := 16) hx hb hts ih_X3_areSame_X3 hown hK.1 hP 0 rfl rfl 7 (by decide) (hts (.fieldLink RX3 29 "ParishNamesModel" "first" "[I") (by decide +kernel)) (fun _ h9 => h9) rfl dX3_areSame_32 ?_
            refine lv_iload_n hx hb dX3_areSame_35 rfl (lv_at hl 2 rfl) ?_
            refine pn_iald hx hb hK.1 hP 7 0 rfl rfl (i := k) (by omega) (Nat.le_of_ble_eq_true rfl) dX3_areSame_36 ?_
            refine pn_top (y := (pn_let X k)) (hfi k (by omega)) ?_
            refine lv_aload_n hx hb dX3_areSame_37 rfl (lv_at hl 0 rfl) ?_
            refine va_get (D := D) (ci := 3) (v := .ref m8) (C := RX3) (T := TX3) (N := 16) hx hb hts ih_X3_areSame_X3 hown hK.1 hP 0 rfl rfl 9 (by decide) (hts (.fieldLink RX3 32 "ParishNamesModel" "second" "[I") (by decide +kernel)) (fun _ h9 => h9) rfl dX3_areSame_38 ?_
            refine lv_iload_n hx hb dX3_areSame_41 rfl (lv_at hl 2 rfl) ?_
            refine pn_iald hx hb hK.1 hP 8 0 rfl rfl (i := k) (by have q := (e1 (by omega)).1; omega) (Nat.le_of_ble_eq_true rfl) dX3_areSame_42 ?_
            refine pn_top (y := (pn_let Z k)) (hse k (by have q := (e1 (by omega)).1; omega)) ?_
            refine lv_icmp_ne (tgt := 50) hx hb dX3_areSame_43 (by decide) (fun b43 => ?_) (fun b43 => ?_)
            · refine lv_iconst (v := (nI 0)) hx hb dX3_areSame_50 (by decide) ?_
              refine lv_istore_n (lv' := [(1, .int (nI 0)), (0, .ref m0), (2, .int (nI k))]) hx hb dX3_areSame_51 rfl hl (by decide) rfl (fun ls hl => ?_)
              refine lv_iinc (v := (nI (k + 1))) (lv' := [(2, .int (nI (k + 1))), (1, .int (nI 0)), (0, .ref m0)]) hx hb dX3_areSame_52 hl (k := 2) rfl (nI_add k 1) (by decide) rfl (fun ls hl => ?_)
              refine lv_goto (tgt := 19) hx hb dX3_areSame_55 (by decide) ?_
              exact ih19_2 0 (k + 1) (by omega) (by first | omega | assumption | grind | simp_all) (by omega) (by first | exact fun q => absurd q (by decide) | exact fun _ q => b43 (by rw [q])) (by first | exact fun q => absurd q (by decide) | exact fun _ => ⟨(e1 (by omega)).1, lt_s (e1 (by omega)).2 b43⟩) _ _ _ hP hS (lv_sub hl [2, 1, 0] rfl)
            · refine lv_iconst (v := (nI 1)) hx hb dX3_areSame_46 (by decide) ?_
              refine lv_goto (tgt := 51) hx hb dX3_areSame_47 (by decide) ?_
              refine lv_istore_n (lv' := [(1, .int (nI 1)), (0, .ref m0), (2, .int (nI k))]) hx hb dX3_areSame_51 rfl hl (by decide) rfl (fun ls hl => ?_)
              refine lv_iinc (v := (nI (k + 1))) (lv' := [(2, .int (nI (k + 1))), (1, .int (nI 1)), (0, .ref m0)]) hx hb dX3_areSame_52 hl (k := 2) rfl (nI_add k 1) (by decide) rfl (fun ls hl => ?_)
              refine lv_goto (tgt := 19) hx hb dX3_areSame_55 (by decide) ?_
              exact ih19_2 1 (k + 1) (by omega) (by first | omega | assumption | grind | simp_all) (by omega) (by first | exact fun q => absurd q (by decide) | exact fun _ q => b43 (by rw [q])) (by first | exact fun q => absurd q (by decide) | exact fun _ => ⟨(e1 (by omega)).1, lt_s (e1 (by omega)).2 b43⟩) _ _ _ hP hS (lv_sub hl [2, 1, 0] rfl)
    exact lp19_2 ((fl - 0) + 1) 0 0 (Nat.lt_succ_self _) (by first | omega | assumption | grind | simp_all) (by first | omega | assumption | grind | simp_all) (fun _ q => b8 (by rw [hfl, hsl, q])) (fun q => absurd q (by decide)) _ _ _ hP hS (lv_sub hl [2, 1, 0] rfl)
  · have b8 : fl = sl := (pn_eq (by omega) (by omega)).mp (show nI fl = nI sl from b8)
    refine lv_iconst (v := (nI 1)) hx hb dX3_areSame_11 (by decide) ?_
    refine lv_goto (tgt := 16) hx hb dX3_areSame_12 (by decide) ?_
    refine lv_istore_n (lv' := [(1, .int (nI 1)), (0, .ref m0)]) hx hb dX3_areSame_16 rfl hl (by decide) rfl (fun ls hl => ?_)
    refine lv_iconst (v := (nI 0)) hx hb dX3_areSame_17 (by decide) ?_
    refine lv_istore_n (lv' := [(2, .int (nI 0)), (1, .int (nI 1)), (0, .ref m0)]) hx hb dX3_areSame_18 rfl hl (by decide) rfl (fun ls hl => ?_)
    have lp19_6 : ∀ (fu : Nat) (sm : Nat) (k : Nat), fl - k < fu → (k ≤ fl) → (sm ≤ 1) → (sm = 0 → ¬ X = Z) → (sm = 1 → fl = sl ∧ ∀ j, j < k → (pn_let X j) = (pn_let Z j)) → ∀ (H : Heap) (locs : List Loc) (ls : Array Slot), va_P D vwCl [(m0, .inr (3, [.ref m1, .ref m2, .ref m3, .ref m4, .int (nI sd), .ref m5, .ref m6, .ref m7, .int (nI fl), .ref m8, .int (nI sl), .ref m9, .int (nI fc), .ref ma, .int (nI sc), .ref mb])), (m1, .inl (cI, 422, .inl St)), (m2, .inl (cI, 844, .inl Im)), (m3, .inl (cZ, 2, .inl Kp)), (m4, .inl (cI, 8, .inl Pd)), (m5, .inl (cI, 12, .inl Ow)), (m6, .inl (cI, 16, .inl Nb)), (m7, .inl (cI, 8, .inl Fi)), (m8, .inl (cI, 8, .inl Se)), (m9, .inl (cI, 4, .inl Fs)), (ma, .inl (cI, 4, .inl Ss)), (mb, .inl (cI, 81, .inl Co))] H → va_S pn_No s.heap H locs → lv_has ls 3 [(0, .ref m0), (1, .int (nI sm)), (2, .int (nI k))] → W p l e ({ frames := 0, cells := 0, slots := 0, locals := 0 }) s m (List.toArray [.ref m0]) below meth c H locs 0 0 (MQ below (va_Qi (fun r (_ : Unit) => r = (pn_b (X = Z))) (fun _ _ => True) pn_No) (List.toArray [.ref m0]) s 0 0 pn_No) (F0 m 19 ls []) := by
      intro fu
      induction fu with
      | zero => intro sm k hfu; exact absurd hfu (Nat.not_lt_zero _)
      | succ fu ih19_6 =>
        intro sm k hfu hk hs1 e0 e1 H locs ls hP hS hl
        refine lv_iload_n hx hb dX3_areSame_19 rfl (lv_at hl 2 rfl) ?_
        refine lv_aload_n hx hb dX3_areSame_20 rfl (lv_at hl 0 rfl) ?_
        refine va_get (D := D) (ci := 3) (v := .int (nI fl)) (C := RX3) (T := TX3) (N := 16) hx hb hts ih_X3_areSame_X3 hown hK.1 hP 0 rfl rfl 8 (by decide) (hts (.fieldLink RX3 101 "ParishNamesModel" "firstLong" "I") (by decide +kernel)) (fun _ h9 => h9) rfl dX3_areSame_21 ?_
        refine lv_icmp_ge (tgt := 58) hx hb dX3_areSame_24 (by decide) (fun b24 => ?_) (fun b24 => ?_)
        · have b24 : fl ≤ k := (pn_le (by omega) (by omega)).mp (show nI fl ≤ nI k from b24)
          rcases (show sm = 0 ∨ sm = 1 by omega) with rfl | rfl
          · refine lv_iload_n hx hb dX3_areSame_58 rfl (lv_at hl 1 rfl) ?_
            exact W.zret hx hb hr (by decide) (fun t ht hW => ⟨⟨_, (), rfl, (by first | exact pn_bf (e0 rfl) | exact pn_bt (pn_eqN hwX hwZ (by rw [← hfl, ← hsl]; exact (e1 rfl).1) (fun j hj => (e1 rfl).2 j (by omega)))), trivial⟩, hS.F ht⟩) hS.2.2 dX3_areSame_59 hlocks
          · refine lv_iload_n hx hb dX3_areSame_58 rfl (lv_at hl 1 rfl) ?_
            exact W.zret hx hb hr (by decide) (fun t ht hW => ⟨⟨_, (), rfl, (by first | exact pn_bf (e0 rfl) | exact pn_bt (pn_eqN hwX hwZ (by rw [← hfl, ← hsl]; exact (e1 rfl).1) (fun j hj => (e1 rfl).2 j (by omega)))), trivial⟩, hS.F ht⟩) hS.2.2 dX3_areSame_59 hlocks
        · have b24 : ¬ fl ≤ k := fun h => (show ¬ nI fl ≤ nI k from b24) ((pn_le (by omega) (by omega)).mpr h)
          refine lv_iload_n hx hb dX3_areSame_27 rfl (lv_at hl 1 rfl) ?_
          refine lv_if_eq (tgt := 58) hx hb dX3_areSame_28 (by decide) (fun b28 => ?_) (fun b28 => ?_)
          · have b28 : sm = 0 := (pn_eq (by omega) (by omega)).mp (show nI sm = nI 0 from b28)
            rcases (show sm = 0 ∨ sm = 1 by omega) with rfl | rfl
            · refine lv_iload_n hx hb dX3_areSame_58 rfl (lv_at hl 1 rfl) ?_
              exact W.zret hx hb hr (by decide) (fun t ht hW => ⟨⟨_, (), rfl, (by first | exact pn_bf (e0 rfl) | exact pn_bt (pn_eqN hwX hwZ (by rw [← hfl, ← hsl]; exact (e1 rfl).1) (fun j hj => (e1 rfl).2 j (by omega)))), trivial⟩, hS.F ht⟩) hS.2.2 dX3_areSame_59 hlocks
            · refine lv_iload_n hx hb dX3_areSame_58 rfl (lv_at hl 1 rfl) ?_
              exact W.zret hx hb hr (by decide) (fun t ht hW => ⟨⟨_, (), rfl, (by first | exact pn_bf (e0 rfl) | exact pn_bt (pn_eqN hwX hwZ (by rw [← hfl, ← hsl]; exact (e1 rfl).1) (fun j hj => (e1 rfl).2 j (by omega)))), trivial⟩, hS.F ht⟩) hS.2.2 dX3_areSame_59 hlocks
          · have b28 : ¬ sm = 0 := fun h => (show ¬ nI sm = nI 0 from b28) ((pn_eq (by omega) (by omega)).mpr h)
            refine lv_aload_n hx hb dX3_areSame_31 rfl (lv_at hl 0 rfl) ?_
            refine va_get (D := D) (ci := 3) (v := .ref m7) (C := RX3) (T := TX3) (N := 16) hx hb hts ih_X3_areSame_X3 hown hK.1 hP 0 rfl rfl 7 (by decide) (hts (.fieldLink RX3 29 "ParishNamesModel" "first" "[I") (by decide +kernel)) (fun _ h9 => h9) rfl dX3_areSame_32 ?_
            refine lv_iload_n hx hb dX3_areSame_35 rfl (lv_at hl 2 rfl) ?_
            refine pn_iald hx hb hK.1 hP 7 0 rfl rfl (i := k) (by omega) (Nat.le_of_ble_eq_true rfl) dX3_areSame_36 ?_
            refine pn_top (y := (pn_let X k)) (hfi k (by omega)) ?_
            refine lv_aload_n hx hb dX3_areSame_37 rfl (lv_at hl 0 rfl) ?_
            refine va_get (D := D) (ci := 3) (v := .ref m8) (C := RX3) (T := TX3) (N := 16) hx hb hts ih_X3_areSame_X3 hown hK.1 hP 0 rfl rfl 9 (by decide) (hts (.fieldLink RX3 32 "ParishNamesModel" "second" "[I") (by decide +kernel)) (fun _ h9 => h9) rfl dX3_areSame_38 ?_
            refine lv_iload_n hx hb dX3_areSame_41 rfl (lv_at hl 2 rfl) ?_
            refine pn_iald hx hb hK.1 hP 8 0 rfl rfl (i := k) (by have q := (e1 (by omega)).1; omega) (Nat.le_of_ble_eq_true rfl) dX3_areSame_42 ?_
            refine pn_top (y := (pn_let Z k)) (hse k (by have q := (e1 (by omega)).1; omega)) ?_
            refine lv_icmp_ne (tgt := 50) hx hb dX3_areSame_43 (by decide) (fun b43 => ?_) (fun b43 => ?_)
            · refine lv_iconst (v := (nI 0)) hx hb dX3_areSame_50 (by decide) ?_
              refine lv_istore_n (lv' := [(1, .int (nI 0)), (0, .ref m0), (2, .int (nI k))]) hx hb dX3_areSame_51 rfl hl (by decide) rfl (fun ls hl => ?_)
              refine lv_iinc (v := (nI (k + 1))) (lv' := [(2, .int (nI (k + 1))), (1, .int (nI 0)), (0, .ref m0)]) hx hb dX3_areSame_52 hl (k := 2) rfl (nI_add k 1) (by decide) rfl (fun ls hl => ?_)
              refine lv_goto (tgt := 19) hx hb dX3_areSame_55 (by decide) ?_
              exact ih19_6 0 (k + 1) (by omega) (by first | omega | assumption | grind | simp_all) (by omega) (by first | exact fun q => absurd q (by decide) | exact fun _ q => b43 (by rw [q])) (by first | exact fun q => absurd q (by decide) | exact fun _ => ⟨(e1 (by omega)).1, lt_s (e1 (by omega)).2 b43⟩) _ _ _ hP hS (lv_sub hl [2, 1, 0] rfl)
            · refine lv_iconst (v := (nI 1)) hx hb dX3_areSame_46 (by decide) ?_
              refine lv_goto (tgt := 51) hx hb dX3_areSame_47 (by decide) ?_
              refine lv_istore_n (lv' := [(1, .int (nI 1)), (0, .ref m0), (2, .int (nI k))]) hx hb dX3_areSame_51 rfl hl (by decide) rfl (fun ls hl => ?_)
              refine lv_iinc (v := (nI (k + 1))) (lv' := [(2, .int (nI (k + 1))), (1, .int (nI 1)), (0, .ref m0)]) hx hb dX3_areSame_52 hl (k := 2) rfl (nI_add k 1) (by decide) rfl (fun ls hl => ?_)
              refine lv_goto (tgt := 19) hx hb dX3_areSame_55 (by decide) ?_
              exact ih19_6 1 (k + 1) (by omega) (by first | omega | assumption | grind | simp_all) (by omega) (by first | exact fun q => absurd q (by decide) | exact fun _ q => b43 (by rw [q])) (by first | exact fun q => absurd q (by decide) | exact fun _ => ⟨(e1 (by omega)).1, lt_s (e1 (by omega)).2 b43⟩) _ _ _ hP hS (lv_sub hl [2, 1, 0] rfl)
    exact lp19_6 ((fl - 0) + 1) 1 0 (Nat.lt_succ_self _) (by first | omega | assumption | grind | simp_all) (by first | omega | assumption | grind | simp_all) (fun q => absurd q (by decide)) (fun _ => ⟨b8, fun j h => absurd h (Nat.not_lt_zero _)⟩) _ _ _ hP hS (lv_sub hl [2, 1, 0] rfl)

theorem ih_X3_soundSame_X3 : ∀ w ∈ wsX30, w ∈ wsX3_soundSame := by decide +kernel
set_option maxHeartbeats 4000000 in
set_option maxRecDepth 100000 in
theorem c_X3_soundSame (l : Launch) (D : va_G) (cI cL cZ cO : ClassId) (m0 m1 m2 m3 m4 m5 m6 m7 m8 m9 ma mb : Nat) (St Im Kp Pd : Nat → Int32) (sd : Nat) (Ow Nb Fi : Nat → Int32) (fl : Nat) (Se : Nat → Int32) (sl : Nat) (Fs : Nat → Int32) (fc : Nat) (Ss : Nat → Int32) (sc : Nat) (Co : Nat → Int32) (K Y P S O : Nat → Int32) (N : Nat → Int64) (n F : Nat) (pd : Int64) (X : Int64) (Z : Int64) (hfs : ∀ c, c < pn_lsd (pn_snd X) → Fs c = pn_cs (pn_snd X) c) (hfc : fc = pn_lsd (pn_snd X)) (hss : ∀ c, c < pn_lsd (pn_snd Z) → Ss c = pn_cs (pn_snd Z) c) (hsc : sc = pn_lsd (pn_snd Z)) (hwX : pn_wn X) (hwZ : pn_wn Z) : Met l yX3_soundSame wsX3_soundSame ({ frames := 0, cells := 0, slots := 0, locals := 0 }) (va_Pc [.ref m0] (pn_Pr D cI cL cZ cO [(m0, .inr (3, [.ref m1, .ref m2, .ref m3, .ref m4, .int (nI sd), .ref m5, .ref m6, .ref m7, .int (nI fl), .ref m8, .int (nI sl), .ref m9, .int (nI fc), .ref ma, .int (nI sc), .ref mb])), (m1, .inl (cI, 422, .inl St)), (m2, .inl (cI, 844, .inl Im)), (m3, .inl (cZ, 2, .inl Kp)), (m4, .inl (cI, 8, .inl Pd)), (m5, .inl (cI, 12, .inl Ow)), (m6, .inl (cI, 16, .inl Nb)), (m7, .inl (cI, 8, .inl Fi)), (m8, .inl (cI, 8, .inl Se)), (m9, .inl (cI, 4, .inl Fs)), (ma, .inl (cI, 4, .inl Ss)), (mb, .inl (cI, 81, .inl Co))])) (va_Qi (fun r (_ : Unit) => r = (pn_b (pn_snd X = pn_snd Z))) (fun _ _ => True) pn_No) 0 0 pn_No := by
  refine pn_mk (by decide) rfl (Nat.le_of_ble_eq_true rfl) ?_
  intro p e s m below meth c ls hx hb hr hml hown hts hlocks hK hP hl
  have hown : s.vm.findClass RX3 = some m.cls := hown
  have hS : va_S pn_No s.heap s.heap [] := va_S.rf
  have hl : lv_has ls 3 [(0, .ref m0)] := hl
  have h8a := pn_len8 X
  have h8b := pn_len8 Z
  have h4a := pn_lsd4 (pn_snd X)
  have h4b := pn_lsd4 (pn_snd Z)
  refine lv_aload_n hx hb dX3_soundSame_0 rfl (lv_at hl 0 rfl) ?_
  refine va_get (D := D) (ci := 3) (v := .int (nI fc)) (C := RX3) (T := TX3) (N := 16) hx hb hts ih_X3_soundSame_X3 hown hK.1 hP 0 rfl rfl 12 (by decide) (hts (.fieldLink RX3 108 "ParishNamesModel" "firstClasses" "I") (by decide +kernel)) (fun _ h9 => h9) rfl dX3_soundSame_1 ?_
  refine lv_aload_n hx hb dX3_soundSame_4 rfl (lv_at hl 0 rfl) ?_
  refine va_get (D := D) (ci := 3) (v := .int (nI sc)) (C := RX3) (T := TX3) (N := 16) hx hb hts ih_X3_soundSame_X3 hown hK.1 hP 0 rfl rfl 14 (by decide) (hts (.fieldLink RX3 114 "ParishNamesModel" "secondClasses" "I") (by decide +kernel)) (fun _ h9 => h9) rfl dX3_soundSame_5 ?_
  refine lv_icmp_ne (tgt := 15) hx hb dX3_soundSame_8 (by decide) (fun b8 => ?_) (fun b8 => ?_)
  · have b8 : ¬ fc = sc := fun h => (show ¬ nI fc = nI sc from b8) ((pn_eq (by omega) (by omega)).mpr h)
    refine lv_iconst (v := (nI 0)) hx hb dX3_soundSame_15 (by decide) ?_
    refine lv_istore_n (lv' := [(1, .int (nI 0)), (0, .ref m0)]) hx hb dX3_soundSame_16 rfl hl (by decide) rfl (fun ls hl => ?_)
    refine lv_iconst (v := (nI 0)) hx hb dX3_soundSame_17 (by decide) ?_
    refine lv_istore_n (lv' := [(2, .int (nI 0)), (1, .int (nI 0)), (0, .ref m0)]) hx hb dX3_soundSame_18 rfl hl (by decide) rfl (fun ls hl => ?_)
    have lp19_2 : ∀ (fu : Nat) (sm : Nat) (k : Nat), fc - k < fu → (k ≤ fc) → (sm ≤ 1) → (sm = 0 → ¬ pn_snd X = pn_snd Z) → (sm = 1 → fc = sc ∧ ∀ j, j < k → (pn_cs (pn_snd X) j) = (pn_cs (pn_snd Z) j)) → ∀ (H : Heap) (locs : List Loc) (ls : Array Slot), va_P D vwCl [(m0, .inr (3, [.ref m1, .ref m2, .ref m3, .ref m4, .int (nI sd), .ref m5, .ref m6, .ref m7, .int (nI fl), .ref m8, .int (nI sl), .ref m9, .int (nI fc), .ref ma, .int (nI sc), .ref mb])), (m1, .inl (cI, 422, .inl St)), (m2, .inl (cI, 844, .inl Im)), (m3, .inl (cZ, 2, .inl Kp)), (m4, .inl (cI, 8, .inl Pd)), (m5, .inl (cI, 12, .inl Ow)), (m6, .inl (cI, 16, .inl Nb)), (m7, .inl (cI, 8, .inl Fi)), (m8, .inl (cI, 8, .inl Se)), (m9, .inl (cI, 4, .inl Fs)), (ma, .inl (cI, 4, .inl Ss)), (mb, .inl (cI, 81, .inl Co))] H → va_S pn_No s.heap H locs → lv_has ls 3 [(0, .ref m0), (1, .int (nI sm)), (2, .int (nI k))] → W p l e ({ frames := 0, cells := 0, slots := 0, locals := 0 }) s m (List.toArray [.ref m0]) below meth c H locs 0 0 (MQ below (va_Qi (fun r (_ : Unit) => r = (pn_b (pn_snd X = pn_snd Z))) (fun _ _ => True) pn_No) (List.toArray [.ref m0]) s 0 0 pn_No) (F0 m 19 ls []) := by
      intro fu
      induction fu with
      | zero => intro sm k hfu; exact absurd hfu (Nat.not_lt_zero _)
      | succ fu ih19_2 =>
        intro sm k hfu hk hs1 e0 e1 H locs ls hP hS hl
        refine lv_iload_n hx hb dX3_soundSame_19 rfl (lv_at hl 2 rfl) ?_
        refine lv_aload_n hx hb dX3_soundSame_20 rfl (lv_at hl 0 rfl) ?_
        refine va_get (D := D) (ci := 3) (v := .int (nI fc)) (C := RX3) (T := TX3) (N := 16) hx hb hts ih_X3_soundSame_X3 hown hK.1 hP 0 rfl rfl 12 (by decide) (hts (.fieldLink RX3 108 "ParishNamesModel" "firstClasses" "I") (by decide +kernel)) (fun _ h9 => h9) rfl dX3_soundSame_21 ?_
        refine lv_icmp_ge (tgt := 58) hx hb dX3_soundSame_24 (by decide) (fun b24 => ?_) (fun b24 => ?_)
        · have b24 : fc ≤ k := (pn_le (by omega) (by omega)).mp (show nI fc ≤ nI k from b24)
          rcases (show sm = 0 ∨ sm = 1 by omega) with rfl | rfl
          · refine lv_iload_n hx hb dX3_soundSame_58 rfl (lv_at hl 1 rfl) ?_
            exact W.zret hx hb hr (by decide) (fun t ht hW => ⟨⟨_, (), rfl, (by first | exact pn_bf (e0 rfl) | exact pn_bt (pn_eqS hwX hwZ (by rw [← hfc, ← hsc]; exact (e1 rfl).1) (fun j hj => (e1 rfl).2 j (by omega)))), trivial⟩, hS.F ht⟩) hS.2.2 dX3_soundSame_59 hlocks
          · refine lv_iload_n hx hb dX3_soundSame_58 rfl (lv_at hl 1 rfl) ?_
            exact W.zret hx hb hr (by decide) (fun t ht hW => ⟨⟨_, (), rfl, (by first | exact pn_bf (e0 rfl) | exact pn_bt (pn_eqS hwX hwZ (by rw [← hfc, ← hsc]; exact (e1 rfl).1) (fun j hj => (e1 rfl).2 j (by omega)))), trivial⟩, hS.F ht⟩) hS.2.2 dX3_soundSame_59 hlocks
        · have b24 : ¬ fc ≤ k := fun h => (show ¬ nI fc ≤ nI k from b24) ((pn_le (by omega) (by omega)).mpr h)
          refine lv_iload_n hx hb dX3_soundSame_27 rfl (lv_at hl 1 rfl) ?_
          refine lv_if_eq (tgt := 58) hx hb dX3_soundSame_28 (by decide) (fun b28 => ?_) (fun b28 => ?_)
          · have b28 : sm = 0 := (pn_eq (by omega) (by omega)).mp (show nI sm = nI 0 from b28)
            rcases (show sm = 0 ∨ sm = 1 by omega) with rfl | rfl
            · refine lv_iload_n hx hb dX3_soundSame_58 rfl (lv_at hl 1 rfl) ?_
              exact W.zret hx hb hr (by decide) (fun t ht hW => ⟨⟨_, (), rfl, (by first | exact pn_bf (e0 rfl) | exact pn_bt (pn_eqS hwX hwZ (by rw [← hfc, ← hsc]; exact (e1 rfl).1) (fun j hj => (e1 rfl).2 j (by omega)))), trivial⟩, hS.F ht⟩) hS.2.2 dX3_soundSame_59 hlocks
            · refine lv_iload_n hx hb dX3_soundSame_58 rfl (lv_at hl 1 rfl) ?_
              exact W.zret hx hb hr (by decide) (fun t ht hW => ⟨⟨_, (), rfl, (by first | exact pn_bf (e0 rfl) | exact pn_bt (pn_eqS hwX hwZ (by rw [← hfc, ← hsc]; exact (e1 rfl).1) (fun j hj => (e1 rfl).2 j (by omega)))), trivial⟩, hS.F ht⟩) hS.2.2 dX3_soundSame_59 hlocks
          · have b28 : ¬ sm = 0 := fun h => (show ¬ nI sm = nI 0 from b28) ((pn_eq (by omega) (by omega)).mpr h)
            refine lv_aload_n hx hb dX3_soundSame_31 rfl (lv_at hl 0 rfl) ?_
            refine va_get (D := D) (ci := 3) (v := .ref m9) (C := RX3) (T := TX3) (N := 16) hx hb hts ih_X3_soundSame_X3 hown hK.1 hP 0 rfl rfl 11 (by decide) (hts (.fieldLink RX3 35 "ParishNamesModel" "firstSound" "[I") (by decide +kernel)) (fun _ h9 => h9) rfl dX3_soundSame_32 ?_
            refine lv_iload_n hx hb dX3_soundSame_35 rfl (lv_at hl 2 rfl) ?_
            refine pn_iald hx hb hK.1 hP 9 0 rfl rfl (i := k) (by omega) (Nat.le_of_ble_eq_true rfl) dX3_soundSame_36 ?_
            refine pn_top (y := (pn_cs (pn_snd X) k)) (hfs k (by omega)) ?_
            refine lv_aload_n hx hb dX3_soundSame_37 rfl (lv_at hl 0 rfl) ?_
            refine va_get (D := D) (ci := 3) (v := .ref ma) (C := RX3) (T := TX3) (N := 16) hx hb hts ih_X3_soundSame_X3 hown hK.1 hP 0 rfl rfl 13 (by decide) (hts (.fieldLink RX3 38 "ParishNamesModel" "secondSound" "[I") (by decide +kernel)) (fun _ h9 => h9) rfl dX3_soundSame_38 ?_
            refine lv_iload_n hx hb dX3_soundSame_41 rfl (lv_at hl 2 rfl) ?_
            refine pn_iald hx hb hK.1 hP 10 0 rfl rfl (i := k) (by have q := (e1 (by omega)).1; omega) (Nat.le_of_ble_eq_true rfl) dX3_soundSame_42 ?_
            refine pn_top (y := (pn_cs (pn_snd Z) k)) (hss k (by have q := (e1 (by omega)).1; omega)) ?_
            refine lv_icmp_ne (tgt := 50) hx hb dX3_soundSame_43 (by decide) (fun b43 => ?_) (fun b43 => ?_)
            · refine lv_iconst (v := (nI 0)) hx hb dX3_soundSame_50 (by decide) ?_
              refine lv_istore_n (lv' := [(1, .int (nI 0)), (0, .ref m0), (2, .int (nI k))]) hx hb dX3_soundSame_51 rfl hl (by decide) rfl (fun ls hl => ?_)
              refine lv_iinc (v := (nI (k + 1))) (lv' := [(2, .int (nI (k + 1))), (1, .int (nI 0)), (0, .ref m0)]) hx hb dX3_soundSame_52 hl (k := 2) rfl (nI_add k 1) (by decide) rfl (fun ls hl => ?_)
              refine lv_goto (tgt := 19) hx hb dX3_soundSame_55 (by decide) ?_
              exact ih19_2 0 (k + 1) (by omega) (by first | omega | assumption | grind | simp_all) (by omega) (by first | exact fun q => absurd q (by decide) | exact fun _ q => b43 (by rw [q])) (by first | exact fun q => absurd q (by decide) | exact fun _ => ⟨(e1 (by omega)).1, lt_s (e1 (by omega)).2 b43⟩) _ _ _ hP hS (lv_sub hl [2, 1, 0] rfl)
            · refine lv_iconst (v := (nI 1)) hx hb dX3_soundSame_46 (by decide) ?_
              refine lv_goto (tgt := 51) hx hb dX3_soundSame_47 (by decide) ?_
              refine lv_istore_n (lv' := [(1, .int (nI 1)), (0, .ref m0), (2, .int (nI k))]) hx hb dX3_soundSame_51 rfl hl (by decide) rfl (fun ls hl => ?_)
              refine lv_iinc (v := (nI (k + 1))) (lv' := [(2, .int (nI (k + 1))), (1, .int (nI 1)), (0, .ref m0)]) hx hb dX3_soundSame_52 hl (k := 2) rfl (nI_add k 1) (by decide) rfl (fun ls hl => ?_)
              refine lv_goto (tgt := 19) hx hb dX3_soundSame_55 (by decide) ?_
              exact ih19_2 1 (k + 1) (by omega) (by first | omega | assumption | grind | simp_all) (by omega) (by first | exact fun q => absurd q (by decide) | exact fun _ q => b43 (by rw [q])) (by first | exact fun q => absurd q (by decide) | exact fun _ => ⟨(e1 (by omega)).1, lt_s (e1 (by omega)).2 b43⟩) _ _ _ hP hS (lv_sub hl [2, 1, 0] rfl)
    exact lp19_2 ((fc - 0) + 1) 0 0 (Nat.lt_succ_self _) (by first | omega | assumption | grind | simp_all) (by first | omega | assumption | grind | simp_all) (fun _ q => b8 (by rw [hfc, hsc, q])) (fun q => absurd q (by decide)) _ _ _ hP hS (lv_sub hl [2, 1, 0] rfl)
  · have b8 : fc = sc := (pn_eq (by omega) (by omega)).mp (show nI fc = nI sc from b8)
    refine lv_iconst (v := (nI 1)) hx hb dX3_soundSame_11 (by decide) ?_
    refine lv_goto (tgt := 16) hx hb dX3_soundSame_12 (by decide) ?_
    refine lv_istore_n (lv' := [(1, .int (nI 1)), (0, .ref m0)]) hx hb dX3_soundSame_16 rfl hl (by decide) rfl (fun ls hl => ?_)
    refine lv_iconst (v := (nI 0)) hx hb dX3_soundSame_17 (by decide) ?_
    refine lv_istore_n (lv' := [(2, .int (nI 0)), (1, .int (nI 1)), (0, .ref m0)]) hx hb dX3_soundSame_18 rfl hl (by decide) rfl (fun ls hl => ?_)
    have lp19_6 : ∀ (fu : Nat) (sm : Nat) (k : Nat), fc - k < fu → (k ≤ fc) → (sm ≤ 1) → (sm = 0 → ¬ pn_snd X = pn_snd Z) → (sm = 1 → fc = sc ∧ ∀ j, j < k → (pn_cs (pn_snd X) j) = (pn_cs (pn_snd Z) j)) → ∀ (H : Heap) (locs : List Loc) (ls : Array Slot), va_P D vwCl [(m0, .inr (3, [.ref m1, .ref m2, .ref m3, .ref m4, .int (nI sd), .ref m5, .ref m6, .ref m7, .int (nI fl), .ref m8, .int (nI sl), .ref m9, .int (nI fc), .ref ma, .int (nI sc), .ref mb])), (m1, .inl (cI, 422, .inl St)), (m2, .inl (cI, 844, .inl Im)), (m3, .inl (cZ, 2, .inl Kp)), (m4, .inl (cI, 8, .inl Pd)), (m5, .inl (cI, 12, .inl Ow)), (m6, .inl (cI, 16, .inl Nb)), (m7, .inl (cI, 8, .inl Fi)), (m8, .inl (cI, 8, .inl Se)), (m9, .inl (cI, 4, .inl Fs)), (ma, .inl (cI, 4, .inl Ss)), (mb, .inl (cI, 81, .inl Co))] H → va_S pn_No s.heap H locs → lv_has ls 3 [(0, .ref m0), (1, .int (nI sm)), (2, .int (nI k))] → W p l e ({ frames := 0, cells := 0, slots := 0, locals := 0 }) s m (List.toArray [.ref m0]) below meth c H locs 0 0 (MQ below (va_Qi (fun r (_ : Unit) => r = (pn_b (pn_snd X = pn_snd Z))) (fun _ _ => True) pn_No) (List.toArray [.ref m0]) s 0 0 pn_No) (F0 m 19 ls []) := by
      intro fu
      induction fu with
      | zero => intro sm k hfu; exact absurd hfu (Nat.not_lt_zero _)
      | succ fu ih19_6 =>
        intro sm k hfu hk hs1 e0 e1 H locs ls hP hS hl
        refine lv_iload_n hx hb dX3_soundSame_19 rfl (lv_at hl 2 rfl) ?_
        refine lv_aload_n hx hb dX3_soundSame_20 rfl (lv_at hl 0 rfl) ?_
        refine va_get (D := D) (ci := 3) (v := .int (nI fc)) (C := RX3) (T := TX3) (N := 16) hx hb hts ih_X3_soundSame_X3 hown hK.1 hP 0 rfl rfl 12 (by decide) (hts (.fieldLink RX3 108 "ParishNamesModel" "firstClasses" "I") (by decide +kernel)) (fun _ h9 => h9) rfl dX3_soundSame_21 ?_
        refine lv_icmp_ge (tgt := 58) hx hb dX3_soundSame_24 (by decide) (fun b24 => ?_) (fun b24 => ?_)
        · have b24 : fc ≤ k := (pn_le (by omega) (by omega)).mp (show nI fc ≤ nI k from b24)
          rcases (show sm = 0 ∨ sm = 1 by omega) with rfl | rfl
          · refine lv_iload_n hx hb dX3_soundSame_58 rfl (lv_at hl 1 rfl) ?_
            exact W.zret hx hb hr (by decide) (fun t ht hW => ⟨⟨_, (), rfl, (by first | exact pn_bf (e0 rfl) | exact pn_bt (pn_eqS hwX hwZ (by rw [← hfc, ← hsc]; exact (e1 rfl).1) (fun j hj => (e1 rfl).2 j (by omega)))), trivial⟩, hS.F ht⟩) hS.2.2 dX3_soundSame_59 hlocks
          · refine lv_iload_n hx hb dX3_soundSame_58 rfl (lv_at hl 1 rfl) ?_
            exact W.zret hx hb hr (by decide) (fun t ht hW => ⟨⟨_, (), rfl, (by first | exact pn_bf (e0 rfl) | exact pn_bt (pn_eqS hwX hwZ (by rw [← hfc, ← hsc]; exact (e1 rfl).1) (fun j hj => (e1 rfl).2 j (by omega)))), trivial⟩, hS.F ht⟩) hS.2.2 dX3_soundSame_59 hlocks
        · have b24 : ¬ fc ≤ k := fun h => (show ¬ nI fc ≤ nI k from b24) ((pn_le (by omega) (by omega)).mpr h)
          refine lv_iload_n hx hb dX3_soundSame_27 rfl (lv_at hl 1 rfl) ?_
          refine lv_if_eq (tgt := 58) hx hb dX3_soundSame_28 (by decide) (fun b28 => ?_) (fun b28 => ?_)
          · have b28 : sm = 0 := (pn_eq (by omega) (by omega)).mp (show nI sm = nI 0 from b28)
            rcases (show sm = 0 ∨ sm = 1 by omega) with rfl | rfl
            · refine lv_iload_n hx hb dX3_soundSame_58 rfl (lv_at hl 1 rfl) ?_
              exact W.zret hx hb hr (by decide) (fun t ht hW => ⟨⟨_, (), rfl, (by first | exact pn_bf (e0 rfl) | exact pn_bt (pn_eqS hwX hwZ (by rw [← hfc, ← hsc]; exact (e1 rfl).1) (fun j hj => (e1 rfl).2 j (by omega)))), trivial⟩, hS.F ht⟩) hS.2.2 dX3_soundSame_59 hlocks
            · refine lv_iload_n hx hb dX3_soundSame_58 rfl (lv_at hl 1 rfl) ?_
              exact W.zret hx hb hr (by decide) (fun t ht hW => ⟨⟨_, (), rfl, (by first | exact pn_bf (e0 rfl) | exact pn_bt (pn_eqS hwX hwZ (by rw [← hfc, ← hsc]; exact (e1 rfl).1) (fun j hj => (e1 rfl).2 j (by omega)))), trivial⟩, hS.F ht⟩) hS.2.2 dX3_soundSame_59 hlocks
          · have b28 : ¬ sm = 0 := fun h => (show ¬ nI sm = nI 0 from b28) ((pn_eq (by omega) (by omega)).mpr h)
            refine lv_aload_n hx hb dX3_soundSame_31 rfl (lv_at hl 0 rfl) ?_
            refine va_get (D := D) (ci := 3) (v := .ref m9) (C := RX3) (T := TX3) (N := 16) hx hb hts ih_X3_soundSame_X3 hown hK.1 hP 0 rfl rfl 11 (by decide) (hts (.fieldLink RX3 35 "ParishNamesModel" "firstSound" "[I") (by decide +kernel)) (fun _ h9 => h9) rfl dX3_soundSame_32 ?_
            refine lv_iload_n hx hb dX3_soundSame_35 rfl (lv_at hl 2 rfl) ?_
            refine pn_iald hx hb hK.1 hP 9 0 rfl rfl (i := k) (by omega) (Nat.le_of_ble_eq_true rfl) dX3_soundSame_36 ?_
            refine pn_top (y := (pn_cs (pn_snd X) k)) (hfs k (by omega)) ?_
            refine lv_aload_n hx hb dX3_soundSame_37 rfl (lv_at hl 0 rfl) ?_
            refine va_get (D := D) (ci := 3) (v := .ref ma) (C := RX3) (T := TX3) (N := 16) hx hb hts ih_X3_soundSame_X3 hown hK.1 hP 0 rfl rfl 13 (by decide) (hts (.fieldLink RX3 38 "ParishNamesModel" "secondSound" "[I") (by decide +kernel)) (fun _ h9 => h9) rfl dX3_soundSame_38 ?_
            refine lv_iload_n hx hb dX3_soundSame_41 rfl (lv_at hl 2 rfl) ?_
            refine pn_iald hx hb hK.1 hP 10 0 rfl rfl (i := k) (by have q := (e1 (by omega)).1; omega) (Nat.le_of_ble_eq_true rfl) dX3_soundSame_42 ?_
            refine pn_top (y := (pn_cs (pn_snd Z) k)) (hss k (by have q := (e1 (by omega)).1; omega)) ?_
            refine lv_icmp_ne (tgt := 50) hx hb dX3_soundSame_43 (by decide) (fun b43 => ?_) (fun b43 => ?_)
            · refine lv_iconst (v := (nI 0)) hx hb dX3_soundSame_50 (by decide) ?_
              refine lv_istore_n (lv' := [(1, .int (nI 0)), (0, .ref m0), (2, .int (nI k))]) hx hb dX3_soundSame_51 rfl hl (by decide) rfl (fun ls hl => ?_)
              refine lv_iinc (v := (nI (k + 1))) (lv' := [(2, .int (nI (k + 1))), (1, .int (nI 0)), (0, .ref m0)]) hx hb dX3_soundSame_52 hl (k := 2) rfl (nI_add k 1) (by decide) rfl (fun ls hl => ?_)
              refine lv_goto (tgt := 19) hx hb dX3_soundSame_55 (by decide) ?_
              exact ih19_6 0 (k + 1) (by omega) (by first | omega | assumption | grind | simp_all) (by omega) (by first | exact fun q => absurd q (by decide) | exact fun _ q => b43 (by rw [q])) (by first | exact fun q => absurd q (by decide) | exact fun _ => ⟨(e1 (by omega)).1, lt_s (e1 (by omega)).2 b43⟩) _ _ _ hP hS (lv_sub hl [2, 1, 0] rfl)
            · refine lv_iconst (v := (nI 1)) hx hb dX3_soundSame_46 (by decide) ?_
              refine lv_goto (tgt := 51) hx hb dX3_soundSame_47 (by decide) ?_
              refine lv_istore_n (lv' := [(1, .int (nI 1)), (0, .ref m0), (2, .int (nI k))]) hx hb dX3_soundSame_51 rfl hl (by decide) rfl (fun ls hl => ?_)
              refine lv_iinc (v := (nI (k + 1))) (lv' := [(2, .int (nI (k + 1))), (1, .int (nI 1)), (0, .ref m0)]) hx hb dX3_soundSame_52 hl (k := 2) rfl (nI_add k 1) (by decide) rfl (fun ls hl => ?_)
              refine lv_goto (tgt := 19) hx hb dX3_soundSame_55 (by decide) ?_
              exact ih19_6 1 (k + 1) (by omega) (by first | omega | assumption | grind | simp_all) (by omega) (by first | exact fun q => absurd q (by decide) | exact fun _ q => b43 (by rw [q])) (by first | exact fun q => absurd q (by decide) | exact fun _ => ⟨(e1 (by omega)).1, lt_s (e1 (by omega)).2 b43⟩) _ _ _ hP hS (lv_sub hl [2, 1, 0] rfl)
    exact lp19_6 ((fc - 0) + 1) 1 0 (Nat.lt_succ_self _) (by first | omega | assumption | grind | simp_all) (by first | omega | assumption | grind | simp_all) (fun q => absurd q (by decide)) (fun _ => ⟨b8, fun j h => absurd h (Nat.not_lt_zero _)⟩) _ _ _ hP hS (lv_sub hl [2, 1, 0] rfl)

set_option maxHeartbeats 4000000 in
set_option maxRecDepth 100000 in
theorem c_X3_least (l : Launch) (D : va_G) (cI cL cZ cO : ClassId)  (xa : Nat) (xb : Nat) (xc : Nat) (ha : xa ≤ 100) (hb1 : xb ≤ 100) (hc : xc ≤ 100) : Met l yX3_least wsX3_least ({ frames := 0, cells := 0, slots := 0, locals := 0 }) (va_Pc [.int (nI xa), .int (nI xb), .int (nI xc)] (pn_Pr D cI cL cZ cO [])) (va_Qi (fun r (_ : Unit) => r = (nI (min (min xa xb) xc))) (fun _ _ => True) pn_No) 0 0 pn_No := by
  refine pn_mk (by decide) rfl (Nat.le_of_ble_eq_true rfl) ?_
  intro p e s m below meth c ls hx hb hr hml hown hts hlocks hK hP hl
  have hown : s.vm.findClass RX3 = some m.cls := hown
  have hS : va_S pn_No s.heap s.heap [] := va_S.rf
  have hl : lv_has ls 4 [(0, .int (nI xa)), (1, .int (nI xb)), (2, .int (nI xc))] := hl
  refine lv_iload_n hx hb dX3_least_0 rfl (lv_at hl 0 rfl) ?_
  refine lv_iload_n hx hb dX3_least_1 rfl (lv_at hl 1 rfl) ?_
  refine lv_icmp_ge (tgt := 9) hx hb dX3_least_2 (by decide) (fun b2 => ?_) (fun b2 => ?_)
  · have b2 : xb ≤ xa := (pn_le (by omega) (by omega)).mp (show nI xb ≤ nI xa from b2)
    refine lv_iload_n hx hb dX3_least_9 rfl (lv_at hl 1 rfl) ?_
    refine lv_istore_n (lv' := [(3, .int (nI xb)), (0, .int (nI xa)), (1, .int (nI xb)), (2, .int (nI xc))]) hx hb dX3_least_10 rfl hl (by decide) rfl (fun ls hl => ?_)
    refine lv_iload_n hx hb dX3_least_11 rfl (lv_at hl 0 rfl) ?_
    refine lv_iload_n hx hb dX3_least_12 rfl (lv_at hl 3 rfl) ?_
    refine lv_icmp_ge (tgt := 20) hx hb dX3_least_13 (by decide) (fun b13 => ?_) (fun b13 => ?_)
    · have b13 : xc ≤ xb := (pn_le (by omega) (by omega)).mp (show nI xc ≤ nI xb from b13)
      refine lv_iload_n hx hb dX3_least_20 rfl (lv_at hl 3 rfl) ?_
      exact W.iret hx hb hr (fun t ht hW => ⟨⟨_, (), rfl, (congrArg nI (by omega)), trivial⟩, hS.F ht⟩) hS.2.2 dX3_least_21 hlocks
    · have b13 : ¬ xc ≤ xb := fun h => (show ¬ nI xc ≤ nI xb from b13) ((pn_le (by omega) (by omega)).mpr h)
      refine lv_iload_n hx hb dX3_least_16 rfl (lv_at hl 0 rfl) ?_
      refine lv_goto (tgt := 21) hx hb dX3_least_17 (by decide) ?_
      exact W.iret hx hb hr (fun t ht hW => ⟨⟨_, (), rfl, (congrArg nI (by omega)), trivial⟩, hS.F ht⟩) hS.2.2 dX3_least_21 hlocks
  · have b2 : ¬ xb ≤ xa := fun h => (show ¬ nI xb ≤ nI xa from b2) ((pn_le (by omega) (by omega)).mpr h)
    refine lv_iload_n hx hb dX3_least_5 rfl (lv_at hl 0 rfl) ?_
    refine lv_goto (tgt := 10) hx hb dX3_least_6 (by decide) ?_
    refine lv_istore_n (lv' := [(3, .int (nI xa)), (0, .int (nI xa)), (1, .int (nI xb)), (2, .int (nI xc))]) hx hb dX3_least_10 rfl hl (by decide) rfl (fun ls hl => ?_)
    refine lv_iload_n hx hb dX3_least_11 rfl (lv_at hl 0 rfl) ?_
    refine lv_iload_n hx hb dX3_least_12 rfl (lv_at hl 3 rfl) ?_
    refine lv_icmp_ge (tgt := 20) hx hb dX3_least_13 (by decide) (fun b13 => ?_) (fun b13 => ?_)
    · have b13 : xc ≤ xa := (pn_le (by omega) (by omega)).mp (show nI xc ≤ nI xa from b13)
      refine lv_iload_n hx hb dX3_least_20 rfl (lv_at hl 3 rfl) ?_
      exact W.iret hx hb hr (fun t ht hW => ⟨⟨_, (), rfl, (congrArg nI (by omega)), trivial⟩, hS.F ht⟩) hS.2.2 dX3_least_21 hlocks
    · have b13 : ¬ xc ≤ xa := fun h => (show ¬ nI xc ≤ nI xa from b13) ((pn_le (by omega) (by omega)).mpr h)
      refine lv_iload_n hx hb dX3_least_16 rfl (lv_at hl 0 rfl) ?_
      refine lv_goto (tgt := 21) hx hb dX3_least_17 (by decide) ?_
      exact W.iret hx hb hr (fun t ht hW => ⟨⟨_, (), rfl, (congrArg nI (by omega)), trivial⟩, hS.F ht⟩) hS.2.2 dX3_least_21 hlocks
