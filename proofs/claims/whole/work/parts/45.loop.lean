set_option maxHeartbeats 4000000 in
set_option maxRecDepth 100000 in
theorem lw_loop {p : Program} {l : Launch} {e : Env} {s : State} {m : MethodId} {below : List Frame} {meth : Method} {c : Code} {b L : Nat} {xs : Nat → Int32} {D : va_G} {cI cL cZ cO : ClassId} {ad : Nat → Nat} (E0 : pn_En p s m c b L xs D cI cL cZ cO ad) (hr : meth.sig.returnType = ret) (hlocks : meth.locks = false) : ∀ (fu ii : Nat), L + 6 - ii < fu → ii ≤ L + 6 → ∀ (H : Heap) (locs : List Loc) (ls : Array Slot), pn_LW D cI cL cZ cO ad H → va_S (fun q : Nat => s.heap.size ≤ q) s.heap H locs → lv_has ls 4 [(0, .ref b), (1, .ref (ad 0)), (2, .ref (ad 25)), (3, .int (nI ii))] → W p l e room_1 s m #[Value.ref b] below meth c H locs 37 2006 (lw_Z below #[Value.ref b] s) (F0 m 18 ls []) := by
  obtain ⟨hx, hb, hml, hown, hts, hK, hX, hbl, hL, hN, hAd⟩ := id E0
  have hbA : ¬ (fun q : Nat => s.heap.size ≤ q) b := Nat.not_le.mpr hbl
  intro fu
  induction fu with
  | zero => intro ii h; exact absurd h (Nat.not_lt_zero _)
  | succ fu ih =>
    intro ii hfu hii H locs ls hw hS hl
    refine lv_iload_n hx hb dL_law_18 rfl (lv_at hl 3 rfl) ?_
    refine lv_aload_n hx hb dL_law_19 rfl (lv_at hl 0 rfl) ?_
    refine va_slen hx hb hX hbl hbA hS dL_law_20 ?_
    refine lv_bipush (v := nI 6) hx hb dL_law_21 (by decide) ?_
    refine lv_isub hx hb dL_law_23 ?_
    refine lv_icmp_gt (tgt := 881) hx hb dL_law_24 (by decide) (fun bq => ?_) (fun bq => ?_)
    · refine lv_iconst (v := 1) hx hb dL_law_881 (by decide) ?_
      refine va_forget (fun q hq => hS.2.2 q hq) ?_
      exact lw_ret hx hb hr hlocks dL_law_882
    · have hi : ii + 6 ≤ L := by
        have q : ¬ (nI L - nI 6) < nI ii := bq
        rw [fa_ltP, pk_sub_toInt (by omega) (by omega), nI_toInt (by omega)] at q
        omega
      have kk : ∀ (H : Heap) (locs : List Loc), pn_LW D cI cL cZ cO ad H → va_S (fun q : Nat => s.heap.size ≤ q) s.heap H locs → W p l e room_1 s m #[Value.ref b] below meth c H locs 37 2006 (lw_Z below #[Value.ref b] s) (F0 m 875 ls []) := by
        intro H locs hw hS
        refine lv_iinc (v := nI (ii + 6)) (lv' := [(3, .int (nI (ii + 6))), (0, .ref b), (1, .ref (ad 0)), (2, .ref (ad 25))]) hx hb dL_law_875 hl (k := 3) rfl (nI_add ii 6) (by decide) rfl (fun ls hl => ?_)
        refine lv_goto (tgt := 18) hx hb dL_law_878 (by decide) ?_
        exact ih (ii + 6) (by omega) (by omega) _ _ _ hw hS (lv_sub hl [1, 2, 3, 0] rfl)
      refine lv_aload_n hx hb dL_law_27 rfl (lv_at hl 0 rfl) ?_
      refine lv_iload_n hx hb dL_law_28 rfl (lv_at hl 3 rfl) ?_
      refine pn_sld hx hb hX hbl hbA hS (k := ii) (by omega) (by omega) dL_law_29 ?_
      refine lv_bipush (v := nI 31) hx hb dL_law_30 (by decide) ?_
      refine lv_iand hx hb dL_law_32 ?_
      generalize (xs ii &&& nI 31) = sw
      rcases pn_sw sw (lo := 0) (hi := 20) with b33 | b33
      · refine lv_tableOut (tgt := 875) hx hb dL_law_33 b33 (by decide) ?_
        exact kk _ _ hw hS
      · obtain ⟨k33, hk33, b33⟩ := b33
        have hk33 : k33 = 0 ∨ k33 = 1 ∨ k33 = 2 ∨ k33 = 3 ∨ k33 = 4 ∨ k33 = 5 ∨ k33 = 6 ∨ k33 = 7 ∨ k33 = 8 ∨ k33 = 9 ∨ k33 = 10 ∨ k33 = 11 ∨ k33 = 12 ∨ k33 = 13 ∨ k33 = 14 ∨ k33 = 15 ∨ k33 = 16 ∨ k33 = 17 ∨ k33 = 18 ∨ k33 = 19 ∨ k33 = 20 := by omega
        rcases hk33 with rfl | rfl | rfl | rfl | rfl | rfl | rfl | rfl | rfl | rfl | rfl | rfl | rfl | rfl | rfl | rfl | rfl | rfl | rfl | rfl | rfl
        · exact lv_tableIn (tgt := 132) hx hb dL_law_33 (by rw [b33]; decide) (by rw [b33]; decide) (by rw [b33]; rfl) (by decide) (lc_say E0 hi hw hS hl kk)
        · exact lv_tableIn (tgt := 155) hx hb dL_law_33 (by rw [b33]; decide) (by rw [b33]; decide) (by rw [b33]; rfl) (by decide) (lc_wipe E0 hi hw hS hl kk)
        · exact lv_tableIn (tgt := 168) hx hb dL_law_33 (by rw [b33]; decide) (by rw [b33]; decide) (by rw [b33]; rfl) (by decide) (lc_name E0 hi hw hS hl kk)
        · exact lv_tableIn (tgt := 201) hx hb dL_law_33 (by rw [b33]; decide) (by rw [b33]; decide) (by rw [b33]; rfl) (by decide) (lc_split E0 hi hw hS hl kk)
        · exact lv_tableIn (tgt := 244) hx hb dL_law_33 (by rw [b33]; decide) (by rw [b33]; decide) (by rw [b33]; rfl) (by decide) (lc_merge E0 hi hw hS hl kk)
        · exact lv_tableIn (tgt := 287) hx hb dL_law_33 (by rw [b33]; decide) (by rw [b33]; decide) (by rw [b33]; rfl) (by decide) (lc_shift E0 hi hw hS hl kk)
        · exact lv_tableIn (tgt := 340) hx hb dL_law_33 (by rw [b33]; decide) (by rw [b33]; decide) (by rw [b33]; rfl) (by decide) (lc_undo E0 hi hw hS hl kk)
        · exact lv_tableIn (tgt := 353) hx hb dL_law_33 (by rw [b33]; decide) (by rw [b33]; decide) (by rw [b33]; rfl) (by decide) (lc_event E0 hi hw hS hl kk)
        · exact lv_tableIn (tgt := 386) hx hb dL_law_33 (by rw [b33]; decide) (by rw [b33]; decide) (by rw [b33]; rfl) (by decide) (lc_at E0 hi hw hS hl kk)
        · exact lv_tableIn (tgt := 419) hx hb dL_law_33 (by rw [b33]; decide) (by rw [b33]; decide) (by rw [b33]; rfl) (by decide) (lc_sites E0 hi hw hS hl kk)
        · exact lv_tableIn (tgt := 452) hx hb dL_law_33 (by rw [b33]; decide) (by rw [b33]; decide) (by rw [b33]; rfl) (by decide) (lc_letter E0 hi hw hS hl kk)
        · exact lv_tableIn (tgt := 495) hx hb dL_law_33 (by rw [b33]; decide) (by rw [b33]; decide) (by rw [b33]; rfl) (by decide) (lc_sound E0 hi hw hS hl kk)
        · exact lv_tableIn (tgt := 538) hx hb dL_law_33 (by rw [b33]; decide) (by rw [b33]; decide) (by rw [b33]; rfl) (by decide) (lc_parish E0 hi hw hS hl kk)
        · exact lv_tableIn (tgt := 571) hx hb dL_law_33 (by rw [b33]; decide) (by rw [b33]; decide) (by rw [b33]; rfl) (by decide) (lc_find E0 hi hw hS hl kk)
        · exact lv_tableIn (tgt := 624) hx hb dL_law_33 (by rw [b33]; decide) (by rw [b33]; decide) (by rw [b33]; rfl) (by decide) (lc_called E0 hi hw hS hl kk)
        · exact lv_tableIn (tgt := 687) hx hb dL_law_33 (by rw [b33]; decide) (by rw [b33]; decide) (by rw [b33]; rfl) (by decide) (lc_off E0 hi hw hS hl kk)
        · exact lv_tableIn (tgt := 720) hx hb dL_law_33 (by rw [b33]; decide) (by rw [b33]; decide) (by rw [b33]; rfl) (by decide) (lc_span E0 hi hw hS hl kk)
        · exact lv_tableIn (tgt := 763) hx hb dL_law_33 (by rw [b33]; decide) (by rw [b33]; decide) (by rw [b33]; rfl) (by decide) (lc_heirs E0 hi hw hS hl kk)
        · exact lv_tableIn (tgt := 806) hx hb dL_law_33 (by rw [b33]; decide) (by rw [b33]; decide) (by rw [b33]; rfl) (by decide) (lc_image E0 hi hw hS hl kk)
        · exact lv_tableIn (tgt := 829) hx hb dL_law_33 (by rw [b33]; decide) (by rw [b33]; decide) (by rw [b33]; rfl) (by decide) (lc_restore E0 hi hw hS hl kk)
        · exact lv_tableIn (tgt := 852) hx hb dL_law_33 (by rw [b33]; decide) (by rw [b33]; decide) (by rw [b33]; rfl) (by decide) (lc_count E0 hi hw hS hl kk)
