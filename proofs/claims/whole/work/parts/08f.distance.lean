theorem ih_X1_distance_X1 : ∀ w ∈ wsX10, w ∈ wsX1_distance := by decide +kernel
set_option maxHeartbeats 4000000 in
set_option maxRecDepth 100000 in
theorem c_X1_distance (l : Launch) (D : va_G) (cI cL cZ cO : ClassId) (z0 z1 : Nat) (Rw : Nat → Int32) (x1 : Int64) (x2 : Int64) (hN : [z0, z1].Nodup) : Met l yX1_distance wsX1_distance ({ frames := 2, cells := 0, slots := 0, locals := 44 }) (va_Pc [.ref z0, .long x1, .long x2] (pn_Pr D cI cL cZ cO [(z0, .inr (1, [.ref z1])), (z1, .inl (cI, 9, .inl Rw))])) (va_Qi (fun r (u : Nat → Int32) => r = (nI (pn_lev (pn_let x1) (pn_let x2) (pn_len x1) (pn_len x2)))) (fun (u : Nat → Int32) t => va_P D vwCl [(z0, .inr (1, [.ref z1])), (z1, .inl (cI, 9, .inl u))] t.heap) (pn_In [z0, z1])) 0 0 (pn_In [z0, z1]) := by
  refine pn_mk (by decide) rfl (Nat.le_of_ble_eq_true rfl) ?_
  intro p e s m below meth c ls hx hb hr hml hown hts hlocks hK hP hl
  have hown : s.vm.findClass RX1 = some m.cls := hown
  have hS : va_S (pn_In [z0, z1]) s.heap s.heap [] := va_S.rf
  have hl : lv_has ls 11 [(0, .ref z0), (1, .long x1), (3, .long x2)] := hl
  have h8a := pn_len8 x1
  have h8b := pn_len8 x2
  refine lv_lload_n hx hb dX1_distance_0 rfl (lv_at hl 1 rfl) ?_
  refine pn_roi (w := [(z0, .inr (1, [.ref z1])), (z1, .inl (cI, 9, .inl Rw))]) hP hS (va_runS (As := [.long x1]) (rest := []) ⟨hx, hb, hml, hown, hts⟩ (c_X1_lengthOf l D cI cL cZ cO x1) (va_cwS 1 hts gX1_distance_X1_lengthOf rfl rfl rfl (by decide +kernel) ⟨Nat.le_of_ble_eq_true rfl, Nat.le_of_ble_eq_true rfl⟩) (pn_ps (WS := []) (fun k q h => by simp at h) hK) rfl rfl hl.1 rfl (lv_room (Nat.le_of_ble_eq_true rfl)) dX1_distance_1 ⟨Nat.le_of_ble_eq_true rfl, Nat.le_of_ble_eq_true rfl⟩) (fun H locs hP hS => ?_)
  refine lv_istore (lv' := [(5, .int (nI (pn_len x1))), (0, .ref z0), (1, .long x1), (3, .long x2)]) hx hb dX1_distance_4 hl (by decide) rfl (fun ls hl => ?_)
  refine lv_lload_n hx hb dX1_distance_6 rfl (lv_at hl 3 rfl) ?_
  refine pn_roi (w := [(z0, .inr (1, [.ref z1])), (z1, .inl (cI, 9, .inl Rw))]) hP hS (va_runS (As := [.long x2]) (rest := []) ⟨hx, hb, hml, hown, hts⟩ (c_X1_lengthOf l D cI cL cZ cO x2) (va_cwS 1 hts gX1_distance_X1_lengthOf rfl rfl rfl (by decide +kernel) ⟨Nat.le_of_ble_eq_true rfl, Nat.le_of_ble_eq_true rfl⟩) (pn_ps (WS := []) (fun k q h => by simp at h) hK) rfl rfl hl.1 rfl (lv_room (Nat.le_of_ble_eq_true rfl)) dX1_distance_7 ⟨Nat.le_of_ble_eq_true rfl, Nat.le_of_ble_eq_true rfl⟩) (fun H locs hP hS => ?_)
  refine lv_istore (lv' := [(6, .int (nI (pn_len x2))), (5, .int (nI (pn_len x1))), (0, .ref z0), (1, .long x1), (3, .long x2)]) hx hb dX1_distance_10 hl (by decide) rfl (fun ls hl => ?_)
  refine lv_iconst (v := (nI 0)) hx hb dX1_distance_12 (by decide) ?_
  refine lv_istore (lv' := [(7, .int (nI 0)), (6, .int (nI (pn_len x2))), (5, .int (nI (pn_len x1))), (0, .ref z0), (1, .long x1), (3, .long x2)]) hx hb dX1_distance_13 hl (by decide) rfl (fun ls hl => ?_)
  have lp15_1 : ∀ (fu : Nat) (k : Nat) (Ra : Nat → Int32), pn_len x2 + 1 - k < fu → (k ≤ pn_len x2 + 1) → (∀ i, i < k → Ra i = nI i) → ∀ (H : Heap) (locs : List Loc) (ls : Array Slot), va_P D vwCl [(z0, .inr (1, [.ref z1])), (z1, .inl (cI, 9, .inl Ra))] H → va_S (pn_In [z0, z1]) s.heap H locs → lv_has ls 11 [(0, .ref z0), (1, .long x1), (3, .long x2), (5, .int (nI (pn_len x1))), (6, .int (nI (pn_len x2))), (7, .int (nI k))] → W p l e ({ frames := 2, cells := 0, slots := 0, locals := 44 }) s m (List.toArray [.ref z0, .long x1, .long x2]) below meth c H locs 0 0 (MQ below (va_Qi (fun r (u : Nat → Int32) => r = (nI (pn_lev (pn_let x1) (pn_let x2) (pn_len x1) (pn_len x2)))) (fun (u : Nat → Int32) t => va_P D vwCl [(z0, .inr (1, [.ref z1])), (z1, .inl (cI, 9, .inl u))] t.heap) (pn_In [z0, z1])) (List.toArray [.ref z0, .long x1, .long x2]) s 0 0 (pn_In [z0, z1])) (F0 m 15 ls []) := by
    intro fu
    induction fu with
    | zero => intro k Ra hfu; exact absurd hfu (Nat.not_lt_zero _)
    | succ fu ih15_1 =>
      intro k Ra hfu hk e1 H locs ls hP hS hl
      refine lv_iload hx hb dX1_distance_15 (lv_at hl 5 rfl) ?_
      refine lv_iload hx hb dX1_distance_17 (lv_at hl 4 rfl) ?_
      refine lv_icmp_gt (tgt := 37) hx hb dX1_distance_19 (by decide) (fun b19 => ?_) (fun b19 => ?_)
      · have b19 : (pn_len x2) < k := (pn_lt (by omega) (by omega)).mp (show nI (pn_len x2) < nI k from b19)
        refine lv_iconst (v := (nI 1)) hx hb dX1_distance_37 (by decide) ?_
        refine lv_istore (lv' := [(7, .int (nI 1)), (0, .ref z0), (1, .long x1), (3, .long x2), (5, .int (nI (pn_len x1))), (6, .int (nI (pn_len x2)))]) hx hb dX1_distance_38 hl (by decide) rfl (fun ls hl => ?_)
        have lp40_3 : ∀ (fu : Nat) (i : Nat) (Rb : Nat → Int32), pn_len x1 + 1 - i < fu → (i ≤ pn_len x1) → (∀ j, j ≤ pn_len x2 → Rb j = nI (pn_lev (pn_let x1) (pn_let x2) i j)) → ∀ (H : Heap) (locs : List Loc) (ls : Array Slot), va_P D vwCl [(z0, .inr (1, [.ref z1])), (z1, .inl (cI, 9, .inl Rb))] H → va_S (pn_In [z0, z1]) s.heap H locs → lv_has ls 11 [(0, .ref z0), (1, .long x1), (3, .long x2), (5, .int (nI (pn_len x1))), (6, .int (nI (pn_len x2))), (7, .int (nI (i + 1)))] → W p l e ({ frames := 2, cells := 0, slots := 0, locals := 44 }) s m (List.toArray [.ref z0, .long x1, .long x2]) below meth c H locs 0 0 (MQ below (va_Qi (fun r (u : Nat → Int32) => r = (nI (pn_lev (pn_let x1) (pn_let x2) (pn_len x1) (pn_len x2)))) (fun (u : Nat → Int32) t => va_P D vwCl [(z0, .inr (1, [.ref z1])), (z1, .inl (cI, 9, .inl u))] t.heap) (pn_In [z0, z1])) (List.toArray [.ref z0, .long x1, .long x2]) s 0 0 (pn_In [z0, z1])) (F0 m 40 ls []) := by
          intro fu
          induction fu with
          | zero => intro i Rb hfu; exact absurd hfu (Nat.not_lt_zero _)
          | succ fu ih40_3 =>
            intro i Rb hfu hi e2 H locs ls hP hS hl
            refine lv_iload hx hb dX1_distance_40 (lv_at hl 5 rfl) ?_
            refine lv_iload hx hb dX1_distance_42 (lv_at hl 3 rfl) ?_
            refine lv_icmp_gt (tgt := 152) hx hb dX1_distance_44 (by decide) (fun b44 => ?_) (fun b44 => ?_)
            · have b44 : (pn_len x1) < (i + 1) := (pn_lt (by omega) (by omega)).mp (show nI (pn_len x1) < nI (i + 1) from b44)
              refine lv_aload_n hx hb dX1_distance_152 rfl (lv_at hl 0 rfl) ?_
              refine va_get (D := D) (ci := 1) (v := .ref z1) (C := RX1) (T := TX1) (N := 1) hx hb hts ih_X1_distance_X1 hown hK.1 hP 0 rfl rfl 0 (by decide) (hts (.fieldLink RX1 9 "ParishNames$Speller" "row" "[I") (by decide +kernel)) (fun _ h9 => h9) rfl dX1_distance_153 ?_
              refine lv_iload hx hb dX1_distance_156 (lv_at hl 4 rfl) ?_
              refine pn_iald hx hb hK.1 hP 1 0 rfl rfl (i := (pn_len x2)) (by omega) (Nat.le_of_ble_eq_true rfl) dX1_distance_158 ?_
              exact W.iret hx hb hr (fun t ht hW => ⟨⟨_, Rb, rfl, (by rw [e2 _ (Nat.le_refl _), show i = pn_len x1 by omega]), pn_atH ht hP⟩, hS.F ht⟩) hS.2.2 dX1_distance_159 hlocks
            · have b44 : ¬ (pn_len x1) < (i + 1) := fun h => (show ¬ nI (pn_len x1) < nI (i + 1) from b44) ((pn_lt (by omega) (by omega)).mpr h)
              refine lv_aload_n hx hb dX1_distance_47 rfl (lv_at hl 0 rfl) ?_
              refine va_get (D := D) (ci := 1) (v := .ref z1) (C := RX1) (T := TX1) (N := 1) hx hb hts ih_X1_distance_X1 hown hK.1 hP 0 rfl rfl 0 (by decide) (hts (.fieldLink RX1 9 "ParishNames$Speller" "row" "[I") (by decide +kernel)) (fun _ h9 => h9) rfl dX1_distance_48 ?_
              refine lv_iconst (v := (nI 0)) hx hb dX1_distance_51 (by decide) ?_
              refine pn_iald hx hb hK.1 hP 1 0 rfl rfl (i := 0) (by omega) (Nat.le_of_ble_eq_true rfl) dX1_distance_52 ?_
              refine pn_top (y := (nI (pn_lev (pn_let x1) (pn_let x2) i 0))) (e2 0 (Nat.zero_le _)) ?_
              refine lv_istore (lv' := [(8, .int (nI (pn_lev (pn_let x1) (pn_let x2) i 0))), (0, .ref z0), (1, .long x1), (3, .long x2), (5, .int (nI (pn_len x1))), (6, .int (nI (pn_len x2))), (7, .int (nI (i + 1)))]) hx hb dX1_distance_53 hl (by decide) rfl (fun ls hl => ?_)
              refine lv_aload_n hx hb dX1_distance_55 rfl (lv_at hl 1 rfl) ?_
              refine va_get (D := D) (ci := 1) (v := .ref z1) (C := RX1) (T := TX1) (N := 1) hx hb hts ih_X1_distance_X1 hown hK.1 hP 0 rfl rfl 0 (by decide) (hts (.fieldLink RX1 9 "ParishNames$Speller" "row" "[I") (by decide +kernel)) (fun _ h9 => h9) rfl dX1_distance_56 ?_
              refine lv_iconst (v := (nI 0)) hx hb dX1_distance_59 (by decide) ?_
              refine lv_iload hx hb dX1_distance_60 (lv_at hl 6 rfl) ?_
              refine pn_iast hx hb hK.1 hP (pn_D hN rfl) hS 1 0 rfl rfl (i := 0) (by omega) (Nat.le_of_ble_eq_true rfl) dX1_distance_62 (fun H locs hP hS => ?_)
              have hP : va_P D vwCl [(z0, .inr (1, [.ref z1])), (z1, .inl (cI, 9, .inl (upd Rb 0 (nI (i + 1)))))] H := hP
              refine lv_iconst (v := (nI 1)) hx hb dX1_distance_63 (by decide) ?_
              refine lv_istore (lv' := [(9, .int (nI 1)), (8, .int (nI (pn_lev (pn_let x1) (pn_let x2) i 0))), (0, .ref z0), (1, .long x1), (3, .long x2), (5, .int (nI (pn_len x1))), (6, .int (nI (pn_len x2))), (7, .int (nI (i + 1)))]) hx hb dX1_distance_64 hl (by decide) rfl (fun ls hl => ?_)
              have lp66_5 : ∀ (fu : Nat) (j : Nat) (Rc : Nat → Int32) (sl : Nat), pn_len x2 + 1 - j < fu → (j ≤ pn_len x2) → (∀ t, t ≤ j → Rc t = nI (pn_lev (pn_let x1) (pn_let x2) (i + 1) t)) → (∀ t, j < t → t ≤ pn_len x2 → Rc t = nI (pn_lev (pn_let x1) (pn_let x2) i t)) → (sl = (pn_lev (pn_let x1) (pn_let x2) i j)) → ∀ (H : Heap) (locs : List Loc) (ls : Array Slot), va_P D vwCl [(z0, .inr (1, [.ref z1])), (z1, .inl (cI, 9, .inl Rc))] H → va_S (pn_In [z0, z1]) s.heap H locs → lv_has ls 11 [(0, .ref z0), (1, .long x1), (3, .long x2), (5, .int (nI (pn_len x1))), (6, .int (nI (pn_len x2))), (7, .int (nI (i + 1))), (8, .int (nI sl)), (9, .int (nI (j + 1)))] → W p l e ({ frames := 2, cells := 0, slots := 0, locals := 44 }) s m (List.toArray [.ref z0, .long x1, .long x2]) below meth c H locs 0 0 (MQ below (va_Qi (fun r (u : Nat → Int32) => r = (nI (pn_lev (pn_let x1) (pn_let x2) (pn_len x1) (pn_len x2)))) (fun (u : Nat → Int32) t => va_P D vwCl [(z0, .inr (1, [.ref z1])), (z1, .inl (cI, 9, .inl u))] t.heap) (pn_In [z0, z1])) (List.toArray [.ref z0, .long x1, .long x2]) s 0 0 (pn_In [z0, z1])) (F0 m 66 ls []) := by
                intro fu
                induction fu with
                | zero => intro j Rc sl hfu; exact absurd hfu (Nat.not_lt_zero _)
                | succ fu ih66_5 =>
                  intro j Rc sl hfu hj e3 e4 e5 H locs ls hP hS hl
                  have b1 := pn_lev_le (pn_let x1) (pn_let x2) i j
                  have b2 := pn_lev_le (pn_let x1) (pn_let x2) i (j + 1)
                  have b3 := pn_lev_le (pn_let x1) (pn_let x2) (i + 1) j
                  refine lv_iload hx hb dX1_distance_66 (lv_at hl 7 rfl) ?_
                  refine lv_iload hx hb dX1_distance_68 (lv_at hl 4 rfl) ?_
                  refine lv_icmp_gt (tgt := 146) hx hb dX1_distance_70 (by decide) (fun b70 => ?_) (fun b70 => ?_)
                  · have b70 : (pn_len x2) < (j + 1) := (pn_lt (by omega) (by omega)).mp (show nI (pn_len x2) < nI (j + 1) from b70)
                    refine lv_iinc (v := (nI ((i + 1) + 1))) (lv' := [(7, .int (nI ((i + 1) + 1))), (0, .ref z0), (1, .long x1), (3, .long x2), (5, .int (nI (pn_len x1))), (6, .int (nI (pn_len x2))), (8, .int (nI sl)), (9, .int (nI (j + 1)))]) hx hb dX1_distance_146 hl (k := 5) rfl (nI_add (i + 1) 1) (by decide) rfl (fun ls hl => ?_)
                    refine lv_goto (tgt := 40) hx hb dX1_distance_149 (by decide) ?_
                    exact ih40_3 (i + 1) Rc (by omega) (by first | omega | assumption | grind | simp_all) (fun t h => e3 t (by omega)) _ _ _ hP hS (lv_sub hl [1, 2, 3, 4, 5, 0] rfl)
                  · have b70 : ¬ (pn_len x2) < (j + 1) := fun h => (show ¬ nI (pn_len x2) < nI (j + 1) from b70) ((pn_lt (by omega) (by omega)).mpr h)
                    refine lv_lload_n hx hb dX1_distance_73 rfl (lv_at hl 1 rfl) ?_
                    refine lv_iload hx hb dX1_distance_74 (lv_at hl 5 rfl) ?_
                    refine lv_iconst (v := (nI 1)) hx hb dX1_distance_76 (by decide) ?_
                    refine pn_isub hx hb (by omega) dX1_distance_77 ?_
                    refine pn_top (y := (nI i)) rfl ?_
                    refine pn_roi (w := [(z0, .inr (1, [.ref z1])), (z1, .inl (cI, 9, .inl Rc))]) hP hS (va_runS (As := [.long x1, .int (nI i)]) (rest := []) ⟨hx, hb, hml, hown, hts⟩ (c_X1_letterOf l D cI cL cZ cO x1 i) (va_cwS 2 hts gX1_distance_X1_letterOf rfl rfl rfl (by decide +kernel) ⟨Nat.le_of_ble_eq_true rfl, Nat.le_of_ble_eq_true rfl⟩) (pn_ps (WS := []) (fun k q h => by simp at h) hK) rfl rfl hl.1 rfl (lv_room (Nat.le_of_ble_eq_true rfl)) dX1_distance_78 ⟨Nat.le_of_ble_eq_true rfl, Nat.le_of_ble_eq_true rfl⟩) (fun H locs hP hS => ?_)
                    refine lv_lload_n hx hb dX1_distance_81 rfl (lv_at hl 2 rfl) ?_
                    refine lv_iload hx hb dX1_distance_82 (lv_at hl 7 rfl) ?_
                    refine lv_iconst (v := (nI 1)) hx hb dX1_distance_84 (by decide) ?_
                    refine pn_isub hx hb (by omega) dX1_distance_85 ?_
                    refine pn_top (y := (nI j)) rfl ?_
                    refine pn_roi (w := [(z0, .inr (1, [.ref z1])), (z1, .inl (cI, 9, .inl Rc))]) hP hS (va_runS (As := [.long x2, .int (nI j)]) (rest := [.int (pn_let x1 i)]) ⟨hx, hb, hml, hown, hts⟩ (c_X1_letterOf l D cI cL cZ cO x2 j) (va_cwS 2 hts gX1_distance_X1_letterOf rfl rfl rfl (by decide +kernel) ⟨Nat.le_of_ble_eq_true rfl, Nat.le_of_ble_eq_true rfl⟩) (pn_ps (WS := []) (fun k q h => by simp at h) hK) rfl rfl hl.1 rfl (lv_room (Nat.le_of_ble_eq_true rfl)) dX1_distance_86 ⟨Nat.le_of_ble_eq_true rfl, Nat.le_of_ble_eq_true rfl⟩) (fun H locs hP hS => ?_)
                    refine lv_icmp_ne (tgt := 97) hx hb dX1_distance_89 (by decide) (fun b89 => ?_) (fun b89 => ?_)
                    · have hcmp := b89
                      refine lv_iload hx hb dX1_distance_97 (lv_at hl 6 rfl) ?_
                      refine lv_iconst (v := (nI 1)) hx hb dX1_distance_99 (by decide) ?_
                      refine pn_iadd hx hb dX1_distance_100 ?_
                      refine lv_istore (lv' := [(10, .int (nI (sl + 1))), (0, .ref z0), (1, .long x1), (3, .long x2), (5, .int (nI (pn_len x1))), (6, .int (nI (pn_len x2))), (7, .int (nI (i + 1))), (8, .int (nI sl)), (9, .int (nI (j + 1)))]) hx hb dX1_distance_101 hl (by decide) rfl (fun ls hl => ?_)
                      refine lv_aload_n hx hb dX1_distance_103 rfl (lv_at hl 1 rfl) ?_
                      refine va_get (D := D) (ci := 1) (v := .ref z1) (C := RX1) (T := TX1) (N := 1) hx hb hts ih_X1_distance_X1 hown hK.1 hP 0 rfl rfl 0 (by decide) (hts (.fieldLink RX1 9 "ParishNames$Speller" "row" "[I") (by decide +kernel)) (fun _ h9 => h9) rfl dX1_distance_104 ?_
                      refine lv_iload hx hb dX1_distance_107 (lv_at hl 8 rfl) ?_
                      refine pn_iald hx hb hK.1 hP 1 0 rfl rfl (i := (j + 1)) (by omega) (Nat.le_of_ble_eq_true rfl) dX1_distance_109 ?_
                      refine pn_top (y := (nI (pn_lev (pn_let x1) (pn_let x2) i (j + 1)))) (e4 (j + 1) (by omega) (by omega)) ?_
                      refine lv_istore (lv' := [(8, .int (nI (pn_lev (pn_let x1) (pn_let x2) i (j + 1)))), (10, .int (nI (sl + 1))), (0, .ref z0), (1, .long x1), (3, .long x2), (5, .int (nI (pn_len x1))), (6, .int (nI (pn_len x2))), (7, .int (nI (i + 1))), (9, .int (nI (j + 1)))]) hx hb dX1_distance_110 hl (by decide) rfl (fun ls hl => ?_)
                      refine lv_aload_n hx hb dX1_distance_112 rfl (lv_at hl 2 rfl) ?_
                      refine va_get (D := D) (ci := 1) (v := .ref z1) (C := RX1) (T := TX1) (N := 1) hx hb hts ih_X1_distance_X1 hown hK.1 hP 0 rfl rfl 0 (by decide) (hts (.fieldLink RX1 9 "ParishNames$Speller" "row" "[I") (by decide +kernel)) (fun _ h9 => h9) rfl dX1_distance_113 ?_
                      refine lv_iload hx hb dX1_distance_116 (lv_at hl 8 rfl) ?_
                      refine lv_iload hx hb dX1_distance_118 (lv_at hl 1 rfl) ?_
                      refine lv_iload hx hb dX1_distance_120 (lv_at hl 0 rfl) ?_
                      refine lv_aload_n hx hb dX1_distance_122 rfl (lv_at hl 2 rfl) ?_
                      refine va_get (D := D) (ci := 1) (v := .ref z1) (C := RX1) (T := TX1) (N := 1) hx hb hts ih_X1_distance_X1 hown hK.1 hP 0 rfl rfl 0 (by decide) (hts (.fieldLink RX1 9 "ParishNames$Speller" "row" "[I") (by decide +kernel)) (fun _ h9 => h9) rfl dX1_distance_123 ?_
                      refine lv_iload hx hb dX1_distance_126 (lv_at hl 8 rfl) ?_
                      refine lv_iconst (v := (nI 1)) hx hb dX1_distance_128 (by decide) ?_
                      refine pn_isub hx hb (by omega) dX1_distance_129 ?_
                      refine pn_top (y := (nI j)) rfl ?_
                      refine pn_iald hx hb hK.1 hP 1 0 rfl rfl (i := j) (by omega) (Nat.le_of_ble_eq_true rfl) dX1_distance_130 ?_
                      refine pn_top (y := (nI (pn_lev (pn_let x1) (pn_let x2) (i + 1) j))) (e3 j (Nat.le_refl _)) ?_
                      refine va_mmin hx hb (by rw [hml]; exact hl.1.symm) hown (hts (.methodLink RX1 38 Lib.Math.min.name) (by decide +kernel)) (hts (.static Lib.Math.min.name) (by decide +kernel)) (hts (.initialized "java/lang/Math") (by decide +kernel)) (hts (.code Lib.Math.min.name Lib.Math.min.code 2 (some .int)) (by decide +kernel)) (Nat.le_of_ble_eq_true rfl) (Nat.le_of_ble_eq_true rfl) (Nat.le_of_ble_eq_true rfl) (Nat.le_of_ble_eq_true rfl) dX1_distance_131 ?_
                      refine pn_top (y := (nI (min (pn_lev (pn_let x1) (pn_let x2) i (j + 1)) (pn_lev (pn_let x1) (pn_let x2) (i + 1) j)))) (pn_minI (by omega) (by omega)) ?_
                      refine lv_iconst (v := (nI 1)) hx hb dX1_distance_134 (by decide) ?_
                      refine pn_iadd hx hb dX1_distance_135 ?_
                      refine va_mmin hx hb (by rw [hml]; exact hl.1.symm) hown (hts (.methodLink RX1 38 Lib.Math.min.name) (by decide +kernel)) (hts (.static Lib.Math.min.name) (by decide +kernel)) (hts (.initialized "java/lang/Math") (by decide +kernel)) (hts (.code Lib.Math.min.name Lib.Math.min.code 2 (some .int)) (by decide +kernel)) (Nat.le_of_ble_eq_true rfl) (Nat.le_of_ble_eq_true rfl) (Nat.le_of_ble_eq_true rfl) (Nat.le_of_ble_eq_true rfl) dX1_distance_136 ?_
                      refine pn_top (y := (nI (min (sl + 1) ((min (pn_lev (pn_let x1) (pn_let x2) i (j + 1)) (pn_lev (pn_let x1) (pn_let x2) (i + 1) j)) + 1)))) (pn_minI (by omega) (by omega)) ?_
                      refine pn_iast hx hb hK.1 hP (pn_D hN rfl) hS 1 0 rfl rfl (i := (j + 1)) (by omega) (Nat.le_of_ble_eq_true rfl) dX1_distance_139 (fun H locs hP hS => ?_)
                      have hP : va_P D vwCl [(z0, .inr (1, [.ref z1])), (z1, .inl (cI, 9, .inl (upd Rc (j + 1) (nI (min (sl + 1) ((min (pn_lev (pn_let x1) (pn_let x2) i (j + 1)) (pn_lev (pn_let x1) (pn_let x2) (i + 1) j)) + 1))))))] H := hP
                      refine lv_iinc (v := (nI ((j + 1) + 1))) (lv' := [(9, .int (nI ((j + 1) + 1))), (8, .int (nI (pn_lev (pn_let x1) (pn_let x2) i (j + 1)))), (10, .int (nI (sl + 1))), (0, .ref z0), (1, .long x1), (3, .long x2), (5, .int (nI (pn_len x1))), (6, .int (nI (pn_len x2))), (7, .int (nI (i + 1)))]) hx hb dX1_distance_140 hl (k := 8) rfl (nI_add (j + 1) 1) (by decide) rfl (fun ls hl => ?_)
                      refine lv_goto (tgt := 66) hx hb dX1_distance_143 (by decide) ?_
                      exact ih66_5 (j + 1) (upd Rc (j + 1) (nI (min (sl + 1) ((min (pn_lev (pn_let x1) (pn_let x2) i (j + 1)) (pn_lev (pn_let x1) (pn_let x2) (i + 1) j)) + 1)))) (pn_lev (pn_let x1) (pn_let x2) i (j + 1)) (by omega) (by first | omega | assumption | grind | simp_all) (pn_row3 e3 (by rw [e5]; first | exact pn_lev_t hcmp | exact pn_lev_f hcmp)) (fun t h1 h2 => by rw [pk_un (by omega)]; exact e4 t (by omega) h2) rfl _ _ _ hP hS (lv_sub hl [3, 4, 5, 6, 7, 8, 1, 0] rfl)
                    · have hcmp := b89
                      refine lv_iload hx hb dX1_distance_92 (lv_at hl 6 rfl) ?_
                      refine lv_goto (tgt := 101) hx hb dX1_distance_94 (by decide) ?_
                      refine lv_istore (lv' := [(10, .int (nI sl)), (0, .ref z0), (1, .long x1), (3, .long x2), (5, .int (nI (pn_len x1))), (6, .int (nI (pn_len x2))), (7, .int (nI (i + 1))), (8, .int (nI sl)), (9, .int (nI (j + 1)))]) hx hb dX1_distance_101 hl (by decide) rfl (fun ls hl => ?_)
                      refine lv_aload_n hx hb dX1_distance_103 rfl (lv_at hl 1 rfl) ?_
                      refine va_get (D := D) (ci := 1) (v := .ref z1) (C := RX1) (T := TX1) (N := 1) hx hb hts ih_X1_distance_X1 hown hK.1 hP 0 rfl rfl 0 (by decide) (hts (.fieldLink RX1 9 "ParishNames$Speller" "row" "[I") (by decide +kernel)) (fun _ h9 => h9) rfl dX1_distance_104 ?_
                      refine lv_iload hx hb dX1_distance_107 (lv_at hl 8 rfl) ?_
                      refine pn_iald hx hb hK.1 hP 1 0 rfl rfl (i := (j + 1)) (by omega) (Nat.le_of_ble_eq_true rfl) dX1_distance_109 ?_
                      refine pn_top (y := (nI (pn_lev (pn_let x1) (pn_let x2) i (j + 1)))) (e4 (j + 1) (by omega) (by omega)) ?_
                      refine lv_istore (lv' := [(8, .int (nI (pn_lev (pn_let x1) (pn_let x2) i (j + 1)))), (10, .int (nI sl)), (0, .ref z0), (1, .long x1), (3, .long x2), (5, .int (nI (pn_len x1))), (6, .int (nI (pn_len x2))), (7, .int (nI (i + 1))), (9, .int (nI (j + 1)))]) hx hb dX1_distance_110 hl (by decide) rfl (fun ls hl => ?_)
                      refine lv_aload_n hx hb dX1_distance_112 rfl (lv_at hl 2 rfl) ?_
                      refine va_get (D := D) (ci := 1) (v := .ref z1) (C := RX1) (T := TX1) (N := 1) hx hb hts ih_X1_distance_X1 hown hK.1 hP 0 rfl rfl 0 (by decide) (hts (.fieldLink RX1 9 "ParishNames$Speller" "row" "[I") (by decide +kernel)) (fun _ h9 => h9) rfl dX1_distance_113 ?_
                      refine lv_iload hx hb dX1_distance_116 (lv_at hl 8 rfl) ?_
                      refine lv_iload hx hb dX1_distance_118 (lv_at hl 1 rfl) ?_
                      refine lv_iload hx hb dX1_distance_120 (lv_at hl 0 rfl) ?_
                      refine lv_aload_n hx hb dX1_distance_122 rfl (lv_at hl 2 rfl) ?_
                      refine va_get (D := D) (ci := 1) (v := .ref z1) (C := RX1) (T := TX1) (N := 1) hx hb hts ih_X1_distance_X1 hown hK.1 hP 0 rfl rfl 0 (by decide) (hts (.fieldLink RX1 9 "ParishNames$Speller" "row" "[I") (by decide +kernel)) (fun _ h9 => h9) rfl dX1_distance_123 ?_
                      refine lv_iload hx hb dX1_distance_126 (lv_at hl 8 rfl) ?_
                      refine lv_iconst (v := (nI 1)) hx hb dX1_distance_128 (by decide) ?_
                      refine pn_isub hx hb (by omega) dX1_distance_129 ?_
                      refine pn_top (y := (nI j)) rfl ?_
                      refine pn_iald hx hb hK.1 hP 1 0 rfl rfl (i := j) (by omega) (Nat.le_of_ble_eq_true rfl) dX1_distance_130 ?_
                      refine pn_top (y := (nI (pn_lev (pn_let x1) (pn_let x2) (i + 1) j))) (e3 j (Nat.le_refl _)) ?_
                      refine va_mmin hx hb (by rw [hml]; exact hl.1.symm) hown (hts (.methodLink RX1 38 Lib.Math.min.name) (by decide +kernel)) (hts (.static Lib.Math.min.name) (by decide +kernel)) (hts (.initialized "java/lang/Math") (by decide +kernel)) (hts (.code Lib.Math.min.name Lib.Math.min.code 2 (some .int)) (by decide +kernel)) (Nat.le_of_ble_eq_true rfl) (Nat.le_of_ble_eq_true rfl) (Nat.le_of_ble_eq_true rfl) (Nat.le_of_ble_eq_true rfl) dX1_distance_131 ?_
                      refine pn_top (y := (nI (min (pn_lev (pn_let x1) (pn_let x2) i (j + 1)) (pn_lev (pn_let x1) (pn_let x2) (i + 1) j)))) (pn_minI (by omega) (by omega)) ?_
                      refine lv_iconst (v := (nI 1)) hx hb dX1_distance_134 (by decide) ?_
                      refine pn_iadd hx hb dX1_distance_135 ?_
                      refine va_mmin hx hb (by rw [hml]; exact hl.1.symm) hown (hts (.methodLink RX1 38 Lib.Math.min.name) (by decide +kernel)) (hts (.static Lib.Math.min.name) (by decide +kernel)) (hts (.initialized "java/lang/Math") (by decide +kernel)) (hts (.code Lib.Math.min.name Lib.Math.min.code 2 (some .int)) (by decide +kernel)) (Nat.le_of_ble_eq_true rfl) (Nat.le_of_ble_eq_true rfl) (Nat.le_of_ble_eq_true rfl) (Nat.le_of_ble_eq_true rfl) dX1_distance_136 ?_
                      refine pn_top (y := (nI (min sl ((min (pn_lev (pn_let x1) (pn_let x2) i (j + 1)) (pn_lev (pn_let x1) (pn_let x2) (i + 1) j)) + 1)))) (pn_minI (by omega) (by omega)) ?_
                      refine pn_iast hx hb hK.1 hP (pn_D hN rfl) hS 1 0 rfl rfl (i := (j + 1)) (by omega) (Nat.le_of_ble_eq_true rfl) dX1_distance_139 (fun H locs hP hS => ?_)
                      have hP : va_P D vwCl [(z0, .inr (1, [.ref z1])), (z1, .inl (cI, 9, .inl (upd Rc (j + 1) (nI (min sl ((min (pn_lev (pn_let x1) (pn_let x2) i (j + 1)) (pn_lev (pn_let x1) (pn_let x2) (i + 1) j)) + 1))))))] H := hP
                      refine lv_iinc (v := (nI ((j + 1) + 1))) (lv' := [(9, .int (nI ((j + 1) + 1))), (8, .int (nI (pn_lev (pn_let x1) (pn_let x2) i (j + 1)))), (10, .int (nI sl)), (0, .ref z0), (1, .long x1), (3, .long x2), (5, .int (nI (pn_len x1))), (6, .int (nI (pn_len x2))), (7, .int (nI (i + 1)))]) hx hb dX1_distance_140 hl (k := 8) rfl (nI_add (j + 1) 1) (by decide) rfl (fun ls hl => ?_)
                      refine lv_goto (tgt := 66) hx hb dX1_distance_143 (by decide) ?_
                      exact ih66_5 (j + 1) (upd Rc (j + 1) (nI (min sl ((min (pn_lev (pn_let x1) (pn_let x2) i (j + 1)) (pn_lev (pn_let x1) (pn_let x2) (i + 1) j)) + 1)))) (pn_lev (pn_let x1) (pn_let x2) i (j + 1)) (by omega) (by first | omega | assumption | grind | simp_all) (pn_row3 e3 (by rw [e5]; first | exact pn_lev_t hcmp | exact pn_lev_f hcmp)) (fun t h1 h2 => by rw [pk_un (by omega)]; exact e4 t (by omega) h2) rfl _ _ _ hP hS (lv_sub hl [3, 4, 5, 6, 7, 8, 1, 0] rfl)
              exact lp66_5 ((pn_len x2 + 1 - 0) + 1) 0 (upd Rb 0 (nI (i + 1))) (pn_lev (pn_let x1) (pn_let x2) i 0) (Nat.lt_succ_self _) (by first | omega | assumption | grind | simp_all) (fun t h => by obtain rfl : t = 0 := (by omega); rw [pk_us, pn_lev_i0]) (fun t h1 h2 => by rw [pk_un (by omega)]; exact e2 t h2) rfl _ _ _ hP hS (lv_sub hl [2, 3, 4, 5, 6, 7, 1, 0] rfl)
        exact lp40_3 ((pn_len x1 + 1 - 0) + 1) 0 Ra (Nat.lt_succ_self _) (by first | omega | assumption | grind | simp_all) (fun j h => by rw [pn_lev_0j]; exact e1 j (by omega)) _ _ _ hP hS (lv_sub hl [1, 2, 3, 4, 5, 0] rfl)
      · have b19 : ¬ (pn_len x2) < k := fun h => (show ¬ nI (pn_len x2) < nI k from b19) ((pn_lt (by omega) (by omega)).mpr h)
        refine lv_aload_n hx hb dX1_distance_22 rfl (lv_at hl 0 rfl) ?_
        refine va_get (D := D) (ci := 1) (v := .ref z1) (C := RX1) (T := TX1) (N := 1) hx hb hts ih_X1_distance_X1 hown hK.1 hP 0 rfl rfl 0 (by decide) (hts (.fieldLink RX1 9 "ParishNames$Speller" "row" "[I") (by decide +kernel)) (fun _ h9 => h9) rfl dX1_distance_23 ?_
        refine lv_iload hx hb dX1_distance_26 (lv_at hl 5 rfl) ?_
        refine lv_iload hx hb dX1_distance_28 (lv_at hl 5 rfl) ?_
        refine pn_iast hx hb hK.1 hP (pn_D hN rfl) hS 1 0 rfl rfl (i := k) (by omega) (Nat.le_of_ble_eq_true rfl) dX1_distance_30 (fun H locs hP hS => ?_)
        have hP : va_P D vwCl [(z0, .inr (1, [.ref z1])), (z1, .inl (cI, 9, .inl (upd Ra k (nI k))))] H := hP
        refine lv_iinc (v := (nI (k + 1))) (lv' := [(7, .int (nI (k + 1))), (0, .ref z0), (1, .long x1), (3, .long x2), (5, .int (nI (pn_len x1))), (6, .int (nI (pn_len x2)))]) hx hb dX1_distance_31 hl (k := 5) rfl (nI_add k 1) (by decide) rfl (fun ls hl => ?_)
        refine lv_goto (tgt := 15) hx hb dX1_distance_34 (by decide) ?_
        exact ih15_1 (k + 1) (upd Ra k (nI k)) (by omega) (by first | omega | assumption | grind | simp_all) (pn_upk e1) _ _ _ hP hS (lv_sub hl [1, 2, 3, 4, 5, 0] rfl)
  exact lp15_1 ((pn_len x2 + 1 - 0) + 1) 0 Rw (Nat.lt_succ_self _) (by first | omega | assumption | grind | simp_all) (fun i h => absurd h (Nat.not_lt_zero _)) _ _ _ hP hS (lv_sub hl [3, 4, 5, 2, 1, 0] rfl)
