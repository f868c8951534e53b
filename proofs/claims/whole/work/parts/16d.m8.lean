theorem ih_X3_toldOf_X3 : ∀ w ∈ wsX30, w ∈ wsX3_toldOf := by decide +kernel
set_option maxHeartbeats 4000000 in
set_option maxRecDepth 100000 in
theorem c_X3_toldOf (l : Launch) (D : va_G) (cI cL cZ cO : ClassId) (m0 m1 m2 m3 m4 m5 m6 m7 m8 m9 ma mb : Nat) (St Im Kp Pd : Nat → Int32) (sd : Nat) (Ow Nb Fi : Nat → Int32) (fl : Nat) (Se : Nat → Int32) (sl : Nat) (Fs : Nat → Int32) (fc : Nat) (Ss : Nat → Int32) (sc : Nat) (Co : Nat → Int32) (K Y P S O : Nat → Int32) (N : Nat → Int64) (n F : Nat) (pd : Int64) (pa : Int32) (hR : pn_rel St K Y P S O N n F) (hm6 : ¬ pa = (-6)) : Met l yX3_toldOf wsX3_toldOf ({ frames := 0, cells := 0, slots := 0, locals := 0 }) (va_Pc [.ref m0, .int pa] (pn_Pr D cI cL cZ cO [(m0, .inr (3, [.ref m1, .ref m2, .ref m3, .ref m4, .int (nI sd), .ref m5, .ref m6, .ref m7, .int (nI fl), .ref m8, .int (nI sl), .ref m9, .int (nI fc), .ref ma, .int (nI sc), .ref mb])), (m1, .inl (cI, 422, .inl St)), (m2, .inl (cI, 844, .inl Im)), (m3, .inl (cZ, 2, .inl Kp)), (m4, .inl (cI, 8, .inl Pd)), (m5, .inl (cI, 12, .inl Ow)), (m6, .inl (cI, 16, .inl Nb)), (m7, .inl (cI, 8, .inl Fi)), (m8, .inl (cI, 8, .inl Se)), (m9, .inl (cI, 4, .inl Fs)), (ma, .inl (cI, 4, .inl Ss)), (mb, .inl (cI, 81, .inl Co))])) (va_Qi (fun r (_ : Unit) => r = (nI (pn_cnt (fun i => P i = pa ∨ O i = pa) n))) (fun _ _ => True) pn_No) 0 0 pn_No := by
  refine pn_mk (by decide) rfl (Nat.le_of_ble_eq_true rfl) ?_
  intro p e s m below meth c ls hx hb hr hml hown hts hlocks hK hP hl
  have hown : s.vm.findClass RX3 = some m.cls := hown
  have hS : va_S pn_No s.heap s.heap [] := va_S.rf
  have hl : lv_has ls 4 [(0, .ref m0), (1, .int pa)] := hl
  have hn30 := hR.n30
  have hF1 := hR.F1
  have hF16 := hR.F16
  refine lv_iconst (v := (nI 0)) hx hb dX3_toldOf_0 (by decide) ?_
  refine lv_istore_n (lv' := [(2, .int (nI 0)), (0, .ref m0), (1, .int pa)]) hx hb dX3_toldOf_1 rfl hl (by decide) rfl (fun ls hl => ?_)
  refine lv_iconst (v := (nI 0)) hx hb dX3_toldOf_2 (by decide) ?_
  refine lv_istore_n (lv' := [(3, .int (nI 0)), (2, .int (nI 0)), (0, .ref m0), (1, .int pa)]) hx hb dX3_toldOf_3 rfl hl (by decide) rfl (fun ls hl => ?_)
  have lp4_1 : ∀ (fu : Nat) (f : Nat) (k : Nat), n - k < fu → (k ≤ n) → (f ≤ k) → (f = pn_cnt (fun i => P i = pa ∨ O i = pa) k) → ∀ (H : Heap) (locs : List Loc) (ls : Array Slot), va_P D vwCl [(m0, .inr (3, [.ref m1, .ref m2, .ref m3, .ref m4, .int (nI sd), .ref m5, .ref m6, .ref m7, .int (nI fl), .ref m8, .int (nI sl), .ref m9, .int (nI fc), .ref ma, .int (nI sc), .ref mb])), (m1, .inl (cI, 422, .inl St)), (m2, .inl (cI, 844, .inl Im)), (m3, .inl (cZ, 2, .inl Kp)), (m4, .inl (cI, 8, .inl Pd)), (m5, .inl (cI, 12, .inl Ow)), (m6, .inl (cI, 16, .inl Nb)), (m7, .inl (cI, 8, .inl Fi)), (m8, .inl (cI, 8, .inl Se)), (m9, .inl (cI, 4, .inl Fs)), (ma, .inl (cI, 4, .inl Ss)), (mb, .inl (cI, 81, .inl Co))] H → va_S pn_No s.heap H locs → lv_has ls 4 [(0, .ref m0), (1, .int pa), (2, .int (nI f)), (3, .int (nI k))] → W p l e ({ frames := 0, cells := 0, slots := 0, locals := 0 }) s m (List.toArray [.ref m0, .int pa]) below meth c H locs 0 0 (MQ below (va_Qi (fun r (_ : Unit) => r = (nI (pn_cnt (fun i => P i = pa ∨ O i = pa) n))) (fun _ _ => True) pn_No) (List.toArray [.ref m0, .int pa]) s 0 0 pn_No) (F0 m 4 ls []) := by
    intro fu
    induction fu with
    | zero => intro f k hfu; exact absurd hfu (Nat.not_lt_zero _)
    | succ fu ih4_1 =>
      intro f k hfu hk hf e1 H locs ls hP hS hl
      refine lv_iload_n hx hb dX3_toldOf_4 rfl (lv_at hl 3 rfl) ?_
      refine lv_aload_n hx hb dX3_toldOf_5 rfl (lv_at hl 0 rfl) ?_
      refine va_get (D := D) (ci := 3) (v := .ref m1) (C := RX3) (T := TX3) (N := 16) hx hb hts ih_X3_toldOf_X3 hown hK.1 hP 0 rfl rfl 0 (by decide) (hts (.fieldLink RX3 7 "ParishNamesModel" "state" "[I") (by decide +kernel)) (fun _ h9 => h9) rfl dX3_toldOf_6 ?_
      refine lv_sipush (v := (nI 420)) hx hb dX3_toldOf_9 (by decide) ?_
      refine pn_iald hx hb hK.1 hP 1 0 rfl rfl (i := 420) (by omega) (Nat.le_of_ble_eq_true rfl) dX3_toldOf_12 ?_
      refine pn_top (y := (nI n)) hR.n0 ?_
      refine lv_icmp_ge (tgt := 56) hx hb dX3_toldOf_13 (by decide) (fun b13 => ?_) (fun b13 => ?_)
      · have b13 : n ≤ k := (pn_le (by omega) (by omega)).mp (show nI n ≤ nI k from b13)
        refine lv_iload_n hx hb dX3_toldOf_56 rfl (lv_at hl 2 rfl) ?_
        exact W.iret hx hb hr (fun t ht hW => ⟨⟨_, (), rfl, (by rw [e1, show k = n by omega]), trivial⟩, hS.F ht⟩) hS.2.2 dX3_toldOf_57 hlocks
      · have b13 : ¬ n ≤ k := fun h => (show ¬ nI n ≤ nI k from b13) ((pn_le (by omega) (by omega)).mpr h)
        refine lv_iload_n hx hb dX3_toldOf_16 rfl (lv_at hl 2 rfl) ?_
        refine lv_aload_n hx hb dX3_toldOf_17 rfl (lv_at hl 0 rfl) ?_
        refine va_get (D := D) (ci := 3) (v := .ref m1) (C := RX3) (T := TX3) (N := 16) hx hb hts ih_X3_toldOf_X3 hown hK.1 hP 0 rfl rfl 0 (by decide) (hts (.fieldLink RX3 7 "ParishNamesModel" "state" "[I") (by decide +kernel)) (fun _ h9 => h9) rfl dX3_toldOf_18 ?_
        refine lv_bipush (v := (nI 60)) hx hb dX3_toldOf_21 (by decide) ?_
        refine lv_iload_n hx hb dX3_toldOf_23 rfl (lv_at hl 3 rfl) ?_
        refine pn_iadd hx hb dX3_toldOf_24 ?_
        refine pn_iald hx hb hK.1 hP 1 0 rfl rfl (i := (60 + k)) (by omega) (Nat.le_of_ble_eq_true rfl) dX3_toldOf_25 ?_
        refine pn_top (y := (P k)) (hR.P0 (by omega)) ?_
        refine lv_iload_n hx hb dX3_toldOf_26 rfl (lv_at hl 1 rfl) ?_
        refine lv_icmp_eq (tgt := 43) hx hb dX3_toldOf_27 (by decide) (fun b27 => ?_) (fun b27 => ?_)
        · refine lv_iconst (v := (nI 1)) hx hb dX3_toldOf_43 (by decide) ?_
          refine lv_goto (tgt := 48) hx hb dX3_toldOf_44 (by decide) ?_
          refine pn_iadd hx hb dX3_toldOf_48 ?_
          refine lv_istore_n (lv' := [(2, .int (nI (f + 1))), (0, .ref m0), (1, .int pa), (3, .int (nI k))]) hx hb dX3_toldOf_49 rfl hl (by decide) rfl (fun ls hl => ?_)
          refine lv_iinc (v := (nI (k + 1))) (lv' := [(3, .int (nI (k + 1))), (2, .int (nI (f + 1))), (0, .ref m0), (1, .int pa)]) hx hb dX3_toldOf_50 hl (k := 3) rfl (nI_add k 1) (by decide) rfl (fun ls hl => ?_)
          refine lv_goto (tgt := 4) hx hb dX3_toldOf_53 (by decide) ?_
          exact ih4_1 (f + 1) (k + 1) (by omega) (by first | omega | assumption | grind | simp_all) (by first | omega | assumption | grind | simp_all) (by first | exact pn_cntp e1 (Or.inl b27) | exact pn_cntp e1 (Or.inr b40) | exact pn_cntn e1 (fun q => q.elim b27 b40)) _ _ _ hP hS (lv_sub hl [2, 3, 1, 0] rfl)
        · refine lv_aload_n hx hb dX3_toldOf_30 rfl (lv_at hl 0 rfl) ?_
          refine va_get (D := D) (ci := 3) (v := .ref m1) (C := RX3) (T := TX3) (N := 16) hx hb hts ih_X3_toldOf_X3 hown hK.1 hP 0 rfl rfl 0 (by decide) (hts (.fieldLink RX3 7 "ParishNamesModel" "state" "[I") (by decide +kernel)) (fun _ h9 => h9) rfl dX3_toldOf_31 ?_
          refine lv_bipush (v := (nI 120)) hx hb dX3_toldOf_34 (by decide) ?_
          refine lv_iload_n hx hb dX3_toldOf_36 rfl (lv_at hl 3 rfl) ?_
          refine pn_iadd hx hb dX3_toldOf_37 ?_
          refine pn_iald hx hb hK.1 hP 1 0 rfl rfl (i := (120 + k)) (by omega) (Nat.le_of_ble_eq_true rfl) dX3_toldOf_38 ?_
          refine pn_top (y := (O k)) (pn_rel.O0 hR (by omega)) ?_
          refine lv_iload_n hx hb dX3_toldOf_39 rfl (lv_at hl 1 rfl) ?_
          refine lv_icmp_ne (tgt := 47) hx hb dX3_toldOf_40 (by decide) (fun b40 => ?_) (fun b40 => ?_)
          · refine lv_iconst (v := (nI 0)) hx hb dX3_toldOf_47 (by decide) ?_
            refine pn_iadd hx hb dX3_toldOf_48 ?_
            refine lv_istore_n (lv' := [(2, .int (nI (f + 0))), (0, .ref m0), (1, .int pa), (3, .int (nI k))]) hx hb dX3_toldOf_49 rfl hl (by decide) rfl (fun ls hl => ?_)
            refine lv_iinc (v := (nI (k + 1))) (lv' := [(3, .int (nI (k + 1))), (2, .int (nI (f + 0))), (0, .ref m0), (1, .int pa)]) hx hb dX3_toldOf_50 hl (k := 3) rfl (nI_add k 1) (by decide) rfl (fun ls hl => ?_)
            refine lv_goto (tgt := 4) hx hb dX3_toldOf_53 (by decide) ?_
            exact ih4_1 (f + 0) (k + 1) (by omega) (by first | omega | assumption | grind | simp_all) (by first | omega | assumption | grind | simp_all) (by first | exact pn_cntp e1 (Or.inl b27) | exact pn_cntp e1 (Or.inr b40) | exact pn_cntn e1 (fun q => q.elim b27 b40)) _ _ _ hP hS (lv_sub hl [2, 3, 1, 0] rfl)
          · refine lv_iconst (v := (nI 1)) hx hb dX3_toldOf_43 (by decide) ?_
            refine lv_goto (tgt := 48) hx hb dX3_toldOf_44 (by decide) ?_
            refine pn_iadd hx hb dX3_toldOf_48 ?_
            refine lv_istore_n (lv' := [(2, .int (nI (f + 1))), (0, .ref m0), (1, .int pa), (3, .int (nI k))]) hx hb dX3_toldOf_49 rfl hl (by decide) rfl (fun ls hl => ?_)
            refine lv_iinc (v := (nI (k + 1))) (lv' := [(3, .int (nI (k + 1))), (2, .int (nI (f + 1))), (0, .ref m0), (1, .int pa)]) hx hb dX3_toldOf_50 hl (k := 3) rfl (nI_add k 1) (by decide) rfl (fun ls hl => ?_)
            refine lv_goto (tgt := 4) hx hb dX3_toldOf_53 (by decide) ?_
            exact ih4_1 (f + 1) (k + 1) (by omega) (by first | omega | assumption | grind | simp_all) (by first | omega | assumption | grind | simp_all) (by first | exact pn_cntp e1 (Or.inl b27) | exact pn_cntp e1 (Or.inr b40) | exact pn_cntn e1 (fun q => q.elim b27 b40)) _ _ _ hP hS (lv_sub hl [2, 3, 1, 0] rfl)
  exact lp4_1 ((n - 0) + 1) 0 0 (Nat.lt_succ_self _) (by first | omega | assumption | grind | simp_all) (by first | omega | assumption | grind | simp_all) rfl _ _ _ hP hS (lv_sub hl [2, 3, 1, 0] rfl)

theorem ih_X3_ofKind_X3 : ∀ w ∈ wsX30, w ∈ wsX3_ofKind := by decide +kernel
set_option maxHeartbeats 4000000 in
set_option maxRecDepth 100000 in
theorem c_X3_ofKind (l : Launch) (D : va_G) (cI cL cZ cO : ClassId) (m0 m1 m2 m3 m4 m5 m6 m7 m8 m9 ma mb : Nat) (St Im Kp Pd : Nat → Int32) (sd : Nat) (Ow Nb Fi : Nat → Int32) (fl : Nat) (Se : Nat → Int32) (sl : Nat) (Fs : Nat → Int32) (fc : Nat) (Ss : Nat → Int32) (sc : Nat) (Co : Nat → Int32) (K Y P S O : Nat → Int32) (N : Nat → Int64) (n F : Nat) (pd : Int64) (kd : Int32) (hR : pn_rel St K Y P S O N n F) : Met l yX3_ofKind wsX3_ofKind ({ frames := 0, cells := 0, slots := 0, locals := 0 }) (va_Pc [.ref m0, .int kd] (pn_Pr D cI cL cZ cO [(m0, .inr (3, [.ref m1, .ref m2, .ref m3, .ref m4, .int (nI sd), .ref m5, .ref m6, .ref m7, .int (nI fl), .ref m8, .int (nI sl), .ref m9, .int (nI fc), .ref ma, .int (nI sc), .ref mb])), (m1, .inl (cI, 422, .inl St)), (m2, .inl (cI, 844, .inl Im)), (m3, .inl (cZ, 2, .inl Kp)), (m4, .inl (cI, 8, .inl Pd)), (m5, .inl (cI, 12, .inl Ow)), (m6, .inl (cI, 16, .inl Nb)), (m7, .inl (cI, 8, .inl Fi)), (m8, .inl (cI, 8, .inl Se)), (m9, .inl (cI, 4, .inl Fs)), (ma, .inl (cI, 4, .inl Ss)), (mb, .inl (cI, 81, .inl Co))])) (va_Qi (fun r (_ : Unit) => r = (nI (pn_cnt (fun i => K i = kd) n))) (fun _ _ => True) pn_No) 0 0 pn_No := by
  refine pn_mk (by decide) rfl (Nat.le_of_ble_eq_true rfl) ?_
  intro p e s m below meth c ls hx hb hr hml hown hts hlocks hK hP hl
  have hown : s.vm.findClass RX3 = some m.cls := hown
  have hS : va_S pn_No s.heap s.heap [] := va_S.rf
  have hl : lv_has ls 4 [(0, .ref m0), (1, .int kd)] := hl
  have hn30 := hR.n30
  have hF1 := hR.F1
  have hF16 := hR.F16
  refine lv_iconst (v := (nI 0)) hx hb dX3_ofKind_0 (by decide) ?_
  refine lv_istore_n (lv' := [(2, .int (nI 0)), (0, .ref m0), (1, .int kd)]) hx hb dX3_ofKind_1 rfl hl (by decide) rfl (fun ls hl => ?_)
  refine lv_iconst (v := (nI 0)) hx hb dX3_ofKind_2 (by decide) ?_
  refine lv_istore_n (lv' := [(3, .int (nI 0)), (2, .int (nI 0)), (0, .ref m0), (1, .int kd)]) hx hb dX3_ofKind_3 rfl hl (by decide) rfl (fun ls hl => ?_)
  have lp4_1 : ∀ (fu : Nat) (f : Nat) (k : Nat), n - k < fu → (k ≤ n) → (f ≤ k) → (f = pn_cnt (fun i => K i = kd) k) → ∀ (H : Heap) (locs : List Loc) (ls : Array Slot), va_P D vwCl [(m0, .inr (3, [.ref m1, .ref m2, .ref m3, .ref m4, .int (nI sd), .ref m5, .ref m6, .ref m7, .int (nI fl), .ref m8, .int (nI sl), .ref m9, .int (nI fc), .ref ma, .int (nI sc), .ref mb])), (m1, .inl (cI, 422, .inl St)), (m2, .inl (cI, 844, .inl Im)), (m3, .inl (cZ, 2, .inl Kp)), (m4, .inl (cI, 8, .inl Pd)), (m5, .inl (cI, 12, .inl Ow)), (m6, .inl (cI, 16, .inl Nb)), (m7, .inl (cI, 8, .inl Fi)), (m8, .inl (cI, 8, .inl Se)), (m9, .inl (cI, 4, .inl Fs)), (ma, .inl (cI, 4, .inl Ss)), (mb, .inl (cI, 81, .inl Co))] H → va_S pn_No s.heap H locs → lv_has ls 4 [(0, .ref m0), (1, .int kd), (2, .int (nI f)), (3, .int (nI k))] → W p l e ({ frames := 0, cells := 0, slots := 0, locals := 0 }) s m (List.toArray [.ref m0, .int kd]) below meth c H locs 0 0 (MQ below (va_Qi (fun r (_ : Unit) => r = (nI (pn_cnt (fun i => K i = kd) n))) (fun _ _ => True) pn_No) (List.toArray [.ref m0, .int kd]) s 0 0 pn_No) (F0 m 4 ls []) := by
    intro fu
    induction fu with
    | zero => intro f k hfu; exact absurd hfu (Nat.not_lt_zero _)
    | succ fu ih4_1 =>
      intro f k hfu hk hf e1 H locs ls hP hS hl
      refine lv_iload_n hx hb dX3_ofKind_4 rfl (lv_at hl 3 rfl) ?_
      refine lv_aload_n hx hb dX3_ofKind_5 rfl (lv_at hl 0 rfl) ?_
      refine va_get (D := D) (ci := 3) (v := .ref m1) (C := RX3) (T := TX3) (N := 16) hx hb hts ih_X3_ofKind_X3 hown hK.1 hP 0 rfl rfl 0 (by decide) (hts (.fieldLink RX3 7 "ParishNamesModel" "state" "[I") (by decide +kernel)) (fun _ h9 => h9) rfl dX3_ofKind_6 ?_
      refine lv_sipush (v := (nI 420)) hx hb dX3_ofKind_9 (by decide) ?_
      refine pn_iald hx hb hK.1 hP 1 0 rfl rfl (i := 420) (by omega) (Nat.le_of_ble_eq_true rfl) dX3_ofKind_12 ?_
      refine pn_top (y := (nI n)) hR.n0 ?_
      refine lv_icmp_ge (tgt := 42) hx hb dX3_ofKind_13 (by decide) (fun b13 => ?_) (fun b13 => ?_)
      · have b13 : n ≤ k := (pn_le (by omega) (by omega)).mp (show nI n ≤ nI k from b13)
        refine lv_iload_n hx hb dX3_ofKind_42 rfl (lv_at hl 2 rfl) ?_
        exact W.iret hx hb hr (fun t ht hW => ⟨⟨_, (), rfl, (by rw [e1, show k = n by omega]), trivial⟩, hS.F ht⟩) hS.2.2 dX3_ofKind_43 hlocks
      · have b13 : ¬ n ≤ k := fun h => (show ¬ nI n ≤ nI k from b13) ((pn_le (by omega) (by omega)).mpr h)
        refine lv_iload_n hx hb dX3_ofKind_16 rfl (lv_at hl 2 rfl) ?_
        refine lv_aload_n hx hb dX3_ofKind_17 rfl (lv_at hl 0 rfl) ?_
        refine va_get (D := D) (ci := 3) (v := .ref m1) (C := RX3) (T := TX3) (N := 16) hx hb hts ih_X3_ofKind_X3 hown hK.1 hP 0 rfl rfl 0 (by decide) (hts (.fieldLink RX3 7 "ParishNamesModel" "state" "[I") (by decide +kernel)) (fun _ h9 => h9) rfl dX3_ofKind_18 ?_
        refine lv_iconst (v := (nI 0)) hx hb dX3_ofKind_21 (by decide) ?_
        refine lv_iload_n hx hb dX3_ofKind_22 rfl (lv_at hl 3 rfl) ?_
        refine pn_iadd hx hb dX3_ofKind_23 ?_
        refine pn_top (y := (nI k)) (congrArg nI (Nat.zero_add _)) ?_
        refine pn_iald hx hb hK.1 hP 1 0 rfl rfl (i := k) (by omega) (Nat.le_of_ble_eq_true rfl) dX3_ofKind_24 ?_
        refine pn_top (y := (K k)) (hR.K0 (by omega)) ?_
        refine lv_iload_n hx hb dX3_ofKind_25 rfl (lv_at hl 1 rfl) ?_
        refine lv_icmp_ne (tgt := 33) hx hb dX3_ofKind_26 (by decide) (fun b26 => ?_) (fun b26 => ?_)
        · refine lv_iconst (v := (nI 0)) hx hb dX3_ofKind_33 (by decide) ?_
          refine pn_iadd hx hb dX3_ofKind_34 ?_
          refine lv_istore_n (lv' := [(2, .int (nI (f + 0))), (0, .ref m0), (1, .int kd), (3, .int (nI k))]) hx hb dX3_ofKind_35 rfl hl (by decide) rfl (fun ls hl => ?_)
          refine lv_iinc (v := (nI (k + 1))) (lv' := [(3, .int (nI (k + 1))), (2, .int (nI (f + 0))), (0, .ref m0), (1, .int kd)]) hx hb dX3_ofKind_36 hl (k := 3) rfl (nI_add k 1) (by decide) rfl (fun ls hl => ?_)
          refine lv_goto (tgt := 4) hx hb dX3_ofKind_39 (by decide) ?_
          exact ih4_1 (f + 0) (k + 1) (by omega) (by first | omega | assumption | grind | simp_all) (by first | omega | assumption | grind | simp_all) (by first | exact pn_cntp e1 b26 | exact pn_cntn e1 b26) _ _ _ hP hS (lv_sub hl [2, 3, 1, 0] rfl)
        · refine lv_iconst (v := (nI 1)) hx hb dX3_ofKind_29 (by decide) ?_
          refine lv_goto (tgt := 34) hx hb dX3_ofKind_30 (by decide) ?_
          refine pn_iadd hx hb dX3_ofKind_34 ?_
          refine lv_istore_n (lv' := [(2, .int (nI (f + 1))), (0, .ref m0), (1, .int kd), (3, .int (nI k))]) hx hb dX3_ofKind_35 rfl hl (by decide) rfl (fun ls hl => ?_)
          refine lv_iinc (v := (nI (k + 1))) (lv' := [(3, .int (nI (k + 1))), (2, .int (nI (f + 1))), (0, .ref m0), (1, .int kd)]) hx hb dX3_ofKind_36 hl (k := 3) rfl (nI_add k 1) (by decide) rfl (fun ls hl => ?_)
          refine lv_goto (tgt := 4) hx hb dX3_ofKind_39 (by decide) ?_
          exact ih4_1 (f + 1) (k + 1) (by omega) (by first | omega | assumption | grind | simp_all) (by first | omega | assumption | grind | simp_all) (by first | exact pn_cntp e1 b26 | exact pn_cntn e1 b26) _ _ _ hP hS (lv_sub hl [2, 3, 1, 0] rfl)
  exact lp4_1 ((n - 0) + 1) 0 0 (Nat.lt_succ_self _) (by first | omega | assumption | grind | simp_all) (by first | omega | assumption | grind | simp_all) rfl _ _ _ hP hS (lv_sub hl [2, 3, 1, 0] rfl)

theorem ih_X3_thereNow_X3 : ∀ w ∈ wsX30, w ∈ wsX3_thereNow := by decide +kernel
set_option maxHeartbeats 4000000 in
set_option maxRecDepth 100000 in
theorem c_X3_thereNow (l : Launch) (D : va_G) (cI cL cZ cO : ClassId) (m0 m1 m2 m3 m4 m5 m6 m7 m8 m9 ma mb : Nat) (St Im Kp Pd : Nat → Int32) (sd : Nat) (Ow Nb Fi : Nat → Int32) (fl : Nat) (Se : Nat → Int32) (sl : Nat) (Fs : Nat → Int32) (fc : Nat) (Ss : Nat → Int32) (sc : Nat) (Co : Nat → Int32) (K Y P S O : Nat → Int32) (N : Nat → Int64) (n F : Nat) (pd : Int64) (hN : [m0, m1, m2, m3, m4, m5, m6, m7, m8, m9, ma, mb].Nodup) (hR : pn_rel St K Y P S O N n F) : Met l yX3_thereNow wsX3_thereNow ({ frames := 2, cells := 0, slots := 0, locals := 43 }) (va_Pc [.ref m0] (pn_Pr D cI cL cZ cO [(m0, .inr (3, [.ref m1, .ref m2, .ref m3, .ref m4, .int (nI sd), .ref m5, .ref m6, .ref m7, .int (nI fl), .ref m8, .int (nI sl), .ref m9, .int (nI fc), .ref ma, .int (nI sc), .ref mb])), (m1, .inl (cI, 422, .inl St)), (m2, .inl (cI, 844, .inl Im)), (m3, .inl (cZ, 2, .inl Kp)), (m4, .inl (cI, 8, .inl Pd)), (m5, .inl (cI, 12, .inl Ow)), (m6, .inl (cI, 16, .inl Nb)), (m7, .inl (cI, 8, .inl Fi)), (m8, .inl (cI, 8, .inl Se)), (m9, .inl (cI, 4, .inl Fs)), (ma, .inl (cI, 4, .inl Ss)), (mb, .inl (cI, 81, .inl Co))])) (va_Qi (fun r (_ : Unit) => r = (nI (pn_cnt (fun i => ¬ pn_sit P S O (nI i) n = 0) F))) (fun (_ : Unit) t => va_P D vwCl [(m0, .inr (3, [.ref m1, .ref m2, .ref m3, .ref m4, .int (nI sd), .ref m5, .ref m6, .ref m7, .int (nI fl), .ref m8, .int (nI sl), .ref m9, .int (nI fc), .ref ma, .int (nI sc), .ref mb])), (m1, .inl (cI, 422, .inl St)), (m2, .inl (cI, 844, .inl Im)), (m3, .inl (cZ, 2, .inl Kp)), (m4, .inl (cI, 8, .inl Pd)), (m5, .inl (cI, 12, .inl (fun t => pn_own S O t n))), (m6, .inl (cI, 16, .inl (fun q => pn_nb K P O q n))), (m7, .inl (cI, 8, .inl Fi)), (m8, .inl (cI, 8, .inl Se)), (m9, .inl (cI, 4, .inl Fs)), (ma, .inl (cI, 4, .inl Ss)), (mb, .inl (cI, 81, .inl Co))] t.heap) (pn_In [m0, m1, m2, m3, m4, m5, m6, m7, m8, m9, ma, mb])) 0 0 (pn_In [m0, m1, m2, m3, m4, m5, m6, m7, m8, m9, ma, mb]) := by
  refine pn_mk (by decide) rfl (Nat.le_of_ble_eq_true rfl) ?_
  intro p e s m below meth c ls hx hb hr hml hown hts hlocks hK hP hl
  have hown : s.vm.findClass RX3 = some m.cls := hown
  have hS : va_S (pn_In [m0, m1, m2, m3, m4, m5, m6, m7, m8, m9, ma, mb]) s.heap s.heap [] := va_S.rf
  have hl : lv_has ls 3 [(0, .ref m0)] := hl
  have hn30 := hR.n30
  have hF1 := hR.F1
  have hF16 := hR.F16
  refine lv_aload_n hx hb dX3_thereNow_0 rfl (lv_at hl 0 rfl) ?_
  refine pn_wrv hS (fun q h => h) (va_runV (As := []) (rest := []) ⟨hx, hb, hml, hown, hts⟩ (c_X3_goToEnd l D cI cL cZ cO m0 m1 m2 m3 m4 m5 m6 m7 m8 m9 ma mb St Im Kp Pd sd Ow Nb Fi fl Se sl Fs fc Ss sc Co K Y P S O N n F pd hN hR) (cwV 0 hts gX3_thereNow_X3_goToEnd rfl rfl rfl (by decide +kernel) ⟨Nat.le_of_ble_eq_true rfl, Nat.le_of_ble_eq_true rfl⟩) (pn_pv hP hK (q0 := 0) rfl rfl) rfl rfl hl.1 rfl (lv_room (Nat.le_of_ble_eq_true rfl)) dX3_thereNow_1 ⟨Nat.le_of_ble_eq_true rfl, Nat.le_of_ble_eq_true rfl⟩) (fun u_1 H1 locs hp_1 hP1 hk1 hS => ?_)
  have hP : va_P D vwCl [(m0, .inr (3, [.ref m1, .ref m2, .ref m3, .ref m4, .int (nI sd), .ref m5, .ref m6, .ref m7, .int (nI fl), .ref m8, .int (nI sl), .ref m9, .int (nI fc), .ref ma, .int (nI sc), .ref mb])), (m1, .inl (cI, 422, .inl St)), (m2, .inl (cI, 844, .inl Im)), (m3, .inl (cZ, 2, .inl Kp)), (m4, .inl (cI, 8, .inl Pd)), (m5, .inl (cI, 12, .inl (fun t => pn_own S O t n))), (m6, .inl (cI, 16, .inl (fun q => pn_nb K P O q n))), (m7, .inl (cI, 8, .inl Fi)), (m8, .inl (cI, 8, .inl Se)), (m9, .inl (cI, 4, .inl Fs)), (ma, .inl (cI, 4, .inl Ss)), (mb, .inl (cI, 81, .inl Co))] H1 := hP1
  clear hk1 hP1
  generalize H1 = H at hP hS ⊢
  refine lv_iconst (v := (nI 0)) hx hb dX3_thereNow_4 (by decide) ?_
  refine lv_istore_n (lv' := [(1, .int (nI 0)), (0, .ref m0)]) hx hb dX3_thereNow_5 rfl hl (by decide) rfl (fun ls hl => ?_)
  refine lv_iconst (v := (nI 0)) hx hb dX3_thereNow_6 (by decide) ?_
  refine lv_istore_n (lv' := [(2, .int (nI 0)), (1, .int (nI 0)), (0, .ref m0)]) hx hb dX3_thereNow_7 rfl hl (by decide) rfl (fun ls hl => ?_)
  have lp8_2 : ∀ (fu : Nat) (f : Nat) (k : Nat), F - k < fu → (k ≤ F) → (f ≤ k) → (f = pn_cnt (fun i => ¬ pn_sit P S O (nI i) n = 0) k) → ∀ (H : Heap) (locs : List Loc) (ls : Array Slot), va_P D vwCl [(m0, .inr (3, [.ref m1, .ref m2, .ref m3, .ref m4, .int (nI sd), .ref m5, .ref m6, .ref m7, .int (nI fl), .ref m8, .int (nI sl), .ref m9, .int (nI fc), .ref ma, .int (nI sc), .ref mb])), (m1, .inl (cI, 422, .inl St)), (m2, .inl (cI, 844, .inl Im)), (m3, .inl (cZ, 2, .inl Kp)), (m4, .inl (cI, 8, .inl Pd)), (m5, .inl (cI, 12, .inl (fun t => pn_own S O t n))), (m6, .inl (cI, 16, .inl (fun q => pn_nb K P O q n))), (m7, .inl (cI, 8, .inl Fi)), (m8, .inl (cI, 8, .inl Se)), (m9, .inl (cI, 4, .inl Fs)), (ma, .inl (cI, 4, .inl Ss)), (mb, .inl (cI, 81, .inl Co))] H → va_S (pn_In [m0, m1, m2, m3, m4, m5, m6, m7, m8, m9, ma, mb]) s.heap H locs → lv_has ls 3 [(0, .ref m0), (1, .int (nI f)), (2, .int (nI k))] → W p l e ({ frames := 2, cells := 0, slots := 0, locals := 43 }) s m (List.toArray [.ref m0]) below meth c H locs 0 0 (MQ below (va_Qi (fun r (_ : Unit) => r = (nI (pn_cnt (fun i => ¬ pn_sit P S O (nI i) n = 0) F))) (fun (_ : Unit) t => va_P D vwCl [(m0, .inr (3, [.ref m1, .ref m2, .ref m3, .ref m4, .int (nI sd), .ref m5, .ref m6, .ref m7, .int (nI fl), .ref m8, .int (nI sl), .ref m9, .int (nI fc), .ref ma, .int (nI sc), .ref mb])), (m1, .inl (cI, 422, .inl St)), (m2, .inl (cI, 844, .inl Im)), (m3, .inl (cZ, 2, .inl Kp)), (m4, .inl (cI, 8, .inl Pd)), (m5, .inl (cI, 12, .inl (fun t => pn_own S O t n))), (m6, .inl (cI, 16, .inl (fun q => pn_nb K P O q n))), (m7, .inl (cI, 8, .inl Fi)), (m8, .inl (cI, 8, .inl Se)), (m9, .inl (cI, 4, .inl Fs)), (ma, .inl (cI, 4, .inl Ss)), (mb, .inl (cI, 81, .inl Co))] t.heap) (pn_In [m0, m1, m2, m3, m4, m5, m6, m7, m8, m9, ma, mb])) (List.toArray [.ref m0]) s 0 0 (pn_In [m0, m1, m2, m3, m4, m5, m6, m7, m8, m9, ma, mb])) (F0 m 8 ls []) := by
    intro fu
    induction fu with
    | zero => intro f k hfu; exact absurd hfu (Nat.not_lt_zero _)
    | succ fu ih8_2 =>
      intro f k hfu hk hf e1 H locs ls hP hS hl
      refine lv_iload_n hx hb dX3_thereNow_8 rfl (lv_at hl 2 rfl) ?_
      refine lv_aload_n hx hb dX3_thereNow_9 rfl (lv_at hl 0 rfl) ?_
      refine va_get (D := D) (ci := 3) (v := .ref m1) (C := RX3) (T := TX3) (N := 16) hx hb hts ih_X3_thereNow_X3 hown hK.1 hP 0 rfl rfl 0 (by decide) (hts (.fieldLink RX3 7 "ParishNamesModel" "state" "[I") (by decide +kernel)) (fun _ h9 => h9) rfl dX3_thereNow_10 ?_
      refine lv_sipush (v := (nI 421)) hx hb dX3_thereNow_13 (by decide) ?_
      refine pn_iald hx hb hK.1 hP 1 0 rfl rfl (i := 421) (by omega) (Nat.le_of_ble_eq_true rfl) dX3_thereNow_16 ?_
      refine pn_top (y := (nI F)) hR.F0 ?_
      refine lv_icmp_ge (tgt := 42) hx hb dX3_thereNow_17 (by decide) (fun b17 => ?_) (fun b17 => ?_)
      · have b17 : F ≤ k := (pn_le (by omega) (by omega)).mp (show nI F ≤ nI k from b17)
        refine lv_iload_n hx hb dX3_thereNow_42 rfl (lv_at hl 1 rfl) ?_
        exact W.iret hx hb hr (fun t ht hW => ⟨⟨_, (), rfl, (by rw [e1, show k = F by omega]), pn_atH ht hP⟩, hS.F ht⟩) hS.2.2 dX3_thereNow_43 hlocks
      · have b17 : ¬ F ≤ k := fun h => (show ¬ nI F ≤ nI k from b17) ((pn_le (by omega) (by omega)).mpr h)
        refine lv_iload_n hx hb dX3_thereNow_20 rfl (lv_at hl 1 rfl) ?_
        refine lv_aload_n hx hb dX3_thereNow_21 rfl (lv_at hl 0 rfl) ?_
        refine lv_iload_n hx hb dX3_thereNow_22 rfl (lv_at hl 2 rfl) ?_
        refine pn_roi (w := [(m0, .inr (3, [.ref m1, .ref m2, .ref m3, .ref m4, .int (nI sd), .ref m5, .ref m6, .ref m7, .int (nI fl), .ref m8, .int (nI sl), .ref m9, .int (nI fc), .ref ma, .int (nI sc), .ref mb])), (m1, .inl (cI, 422, .inl St)), (m2, .inl (cI, 844, .inl Im)), (m3, .inl (cZ, 2, .inl Kp)), (m4, .inl (cI, 8, .inl Pd)), (m5, .inl (cI, 12, .inl (fun t => pn_own S O t n))), (m6, .inl (cI, 16, .inl (fun q => pn_nb K P O q n))), (m7, .inl (cI, 8, .inl Fi)), (m8, .inl (cI, 8, .inl Se)), (m9, .inl (cI, 4, .inl Fs)), (ma, .inl (cI, 4, .inl Ss)), (mb, .inl (cI, 81, .inl Co))]) hP hS (va_runV (As := [.int (nI k)]) (rest := [.int (nI f)]) ⟨hx, hb, hml, hown, hts⟩ (c_X3_sitesOf l D cI cL cZ cO m0 m1 m2 m3 m4 m5 m6 m7 m8 m9 ma mb St Im Kp Pd sd Fi fl Se sl Fs fc Ss sc Co K Y P S O N n F pd n (nI k) hR (by first | omega | assumption | grind | simp_all)) (cwV 1 hts gX3_thereNow_X3_sitesOf rfl rfl rfl (by decide +kernel) ⟨Nat.le_of_ble_eq_true rfl, Nat.le_of_ble_eq_true rfl⟩) (pn_pv hP hK (q0 := 0) rfl rfl) rfl rfl hl.1 rfl (lv_room (Nat.le_of_ble_eq_true rfl)) dX3_thereNow_23 ⟨Nat.le_of_ble_eq_true rfl, Nat.le_of_ble_eq_true rfl⟩) (fun H locs hP hS => ?_)
        refine lv_if_eq (tgt := 33) hx hb dX3_thereNow_26 (by decide) (fun b26 => ?_) (fun b26 => ?_)
        · refine lv_iconst (v := (nI 0)) hx hb dX3_thereNow_33 (by decide) ?_
          refine pn_iadd hx hb dX3_thereNow_34 ?_
          refine lv_istore_n (lv' := [(1, .int (nI (f + 0))), (0, .ref m0), (2, .int (nI k))]) hx hb dX3_thereNow_35 rfl hl (by decide) rfl (fun ls hl => ?_)
          refine lv_iinc (v := (nI (k + 1))) (lv' := [(2, .int (nI (k + 1))), (1, .int (nI (f + 0))), (0, .ref m0)]) hx hb dX3_thereNow_36 hl (k := 2) rfl (nI_add k 1) (by decide) rfl (fun ls hl => ?_)
          refine lv_goto (tgt := 8) hx hb dX3_thereNow_39 (by decide) ?_
          exact ih8_2 (f + 0) (k + 1) (by omega) (by first | omega | assumption | grind | simp_all) (by first | omega | assumption | grind | simp_all) (by first | exact pn_cntp e1 b26 | exact pn_cntn e1 (fun q => q b26)) _ _ _ hP hS (lv_sub hl [2, 1, 0] rfl)
        · refine lv_iconst (v := (nI 1)) hx hb dX3_thereNow_29 (by decide) ?_
          refine lv_goto (tgt := 34) hx hb dX3_thereNow_30 (by decide) ?_
          refine pn_iadd hx hb dX3_thereNow_34 ?_
          refine lv_istore_n (lv' := [(1, .int (nI (f + 1))), (0, .ref m0), (2, .int (nI k))]) hx hb dX3_thereNow_35 rfl hl (by decide) rfl (fun ls hl => ?_)
          refine lv_iinc (v := (nI (k + 1))) (lv' := [(2, .int (nI (k + 1))), (1, .int (nI (f + 1))), (0, .ref m0)]) hx hb dX3_thereNow_36 hl (k := 2) rfl (nI_add k 1) (by decide) rfl (fun ls hl => ?_)
          refine lv_goto (tgt := 8) hx hb dX3_thereNow_39 (by decide) ?_
          exact ih8_2 (f + 1) (k + 1) (by omega) (by first | omega | assumption | grind | simp_all) (by first | omega | assumption | grind | simp_all) (by first | exact pn_cntp e1 b26 | exact pn_cntn e1 (fun q => q b26)) _ _ _ hP hS (lv_sub hl [2, 1, 0] rfl)
  exact lp8_2 ((F - 0) + 1) 0 0 (Nat.lt_succ_self _) (by first | omega | assumption | grind | simp_all) (by first | omega | assumption | grind | simp_all) rfl _ _ _ hP hS (lv_sub hl [2, 1, 0] rfl)
