/-! sounds as numbers -/
theorem pn_cls_n (x : Int32) : ∃ c : Nat, c ≤ 6 ∧ pn_cls x = nI c := by
  unfold pn_cls
  split
  · exact ⟨1, by omega, rfl⟩
  · split
    · exact ⟨2, by omega, rfl⟩
    · split
      · exact ⟨3, by omega, rfl⟩
      · split
        · exact ⟨4, by omega, rfl⟩
        · split
          · exact ⟨5, by omega, rfl⟩
          · split
            · exact ⟨6, by omega, rfl⟩
            · exact ⟨0, by omega, rfl⟩
def pn_dg (H i : Nat) : Nat := H / 16 ^ i % 16
theorem pn_cs_dg {H i : Nat} (hH : H < 2 ^ 31) (hi : i < 8) : pn_cs (nI H) i = nI (pn_dg H i) - nI 1 := by
  unfold pn_cs pn_dg
  have e : ((nI H).toUInt32 >>> ((nI (4 * i)).toUInt32 &&& Int32.toUInt32 31)).toInt32 = nI (H / 2 ^ (4 * i)) := pk_ushrN (by omega) (nI (4 * i)) (4 * i) (s_u (4 * i) (by omega))
  rw [e, pk_andN (Nat.lt_of_le_of_lt (Nat.div_le_self _ _) (by omega)) 4 (by decide), Nat.pow_mul]
theorem pn_cs_pos {H i : Nat} (hH : H < 2 ^ 31) (hi : i < 8) (hd : 1 ≤ pn_dg H i) : pn_cs (nI H) i = nI (pn_dg H i - 1) := by
  rw [pn_cs_dg hH hi, pk_sub hd]
theorem pn_cs_neg {H i : Nat} (hH : H < 2 ^ 31) (hi : i < 8) (hd : pn_dg H i = 0) : pn_cs (nI H) i < 0 := by
  rw [pn_cs_dg hH hi, hd]
  decide
/-- a sound as a number: n digits, none of them 0 -/
def pn_sn (H n : Nat) : Prop := 1 ≤ n ∧ n ≤ 4 ∧ H < 16 ^ n ∧ ∀ i, i < n → 1 ≤ pn_dg H i
theorem pn_sn_lt {H n : Nat} (h : pn_sn H n) : H < 65536 := by
  obtain ⟨h1, h2, h3, -⟩ := h
  exact Nat.lt_of_lt_of_le h3 (Nat.le_trans (Nat.pow_le_pow_right (by omega) h2) (by decide))
theorem pn_sn_lsd {H n : Nat} (h : pn_sn H n) : pn_lsd (nI H) = n := by
  have hlt := pn_sn_lt h
  obtain ⟨h1, h2, h3, h4⟩ := h
  refine pn_cw_eq (fun i hi => decide_eq_true ?_) h2 ?_
  · rw [pn_cs_pos (by omega) (by omega) (h4 i hi)]
    exact nI_pos (by unfold pn_dg; omega)
  · by_cases e : n = 4
    · exact Or.inl e
    · refine Or.inr (fun q => of_decide_eq_true q (pn_cs_neg (by omega) (by omega) ?_))
      unfold pn_dg
      rw [Nat.div_eq_of_lt h3]
theorem pn_sn_0 {c : Nat} (h : c ≤ 6) : pn_sn (c + 1) 1 := by
  refine ⟨by omega, by omega, by omega, fun i hi => ?_⟩
  obtain rfl : i = 0 := by omega
  unfold pn_dg
  omega
theorem pn_or_add {H c n : Nat} (hn : n = 1 ∨ n = 2 ∨ n = 3) (hH : H < 16 ^ n) (hc : c ≤ 6) : (nI H ||| (nI (c + 1) <<< (nI (4 * n) &&& 31))) = nI (H + (c + 1) * 16 ^ n) := by
  have hp : 16 ^ n = 2 ^ (4 * n) := by rw [Nat.pow_mul]
  have hle : (c + 1) * 2 ^ (4 * n) < 2 ^ 32 := by
    rcases hn with rfl | rfl | rfl <;> omega
  rw [pk_shlN (nI (4 * n) &&& 31) (4 * n) (s_l (4 * n) (by omega)) hle, hp]
  rw [hp] at hH
  apply b_ext
  intro i hi
  rw [b_or, pn_bt_nI _ hi, pn_bt_nI _ hi, pn_bt_nI _ hi]
  rw [Nat.add_comm H, Nat.mul_comm (c + 1), Nat.testBit_two_pow_mul_add _ hH, Nat.testBit_two_pow_mul]
  by_cases q : i < 4 * n
  · have : ¬ 4 * n ≤ i := by omega
    simp [q, this]
  · have h1 : 4 * n ≤ i := by omega
    have h2 : H.testBit i = false := Nat.testBit_lt_two_pow (Nat.lt_of_lt_of_le hH (Nat.pow_le_pow_right (by omega) h1))
    simp [q, h1, h2]
theorem pn_dg_lo {H c n i : Nat} (hi : i < n) : pn_dg (H + (c + 1) * 16 ^ n) i = pn_dg H i := by
  unfold pn_dg
  obtain ⟨d, rfl⟩ : ∃ d, n = i + (d + 1) := ⟨n - i - 1, by omega⟩
  rw [Nat.pow_add, Nat.pow_succ, show (c + 1) * (16 ^ i * (16 ^ d * 16)) = 16 ^ i * ((c + 1) * 16 ^ d * 16) by
    rw [Nat.mul_left_comm, Nat.mul_assoc (c + 1)], Nat.add_mul_div_left _ _ (Nat.pow_pos (by omega)), Nat.add_mul_mod_self_right]
theorem pn_dg_hi {H c n : Nat} (hH : H < 16 ^ n) (hc : c ≤ 6) : pn_dg (H + (c + 1) * 16 ^ n) n = c + 1 := by
  unfold pn_dg
  rw [Nat.add_mul_div_right _ _ (Nat.pow_pos (by omega)), Nat.div_eq_of_lt hH]
  omega
theorem pn_sn_add {H c n : Nat} (h : pn_sn H n) (hn : n < 4) (hc : c ≤ 6) : pn_sn (H + (c + 1) * 16 ^ n) (n + 1) := by
  obtain ⟨h1, h2, h3, h4⟩ := h
  refine ⟨by omega, by omega, ?_, fun i hi => ?_⟩
  · have : (c + 1) * 16 ^ n ≤ 7 * 16 ^ n := Nat.mul_le_mul_right _ (by omega)
    rw [Nat.pow_succ]; omega
  · by_cases e : i = n
    · subst e; rw [pn_dg_hi h3 hc]; omega
    · rw [pn_dg_lo (by omega)]; exact h4 i (by omega)
theorem pn_sd_sn (X : Int64) : ∀ j, ∃ H, (pn_sd X j).1 = nI H ∧ pn_sn H (pn_sd X j).2 := by
  intro j
  induction j with
  | zero =>
    obtain ⟨c, hc, e⟩ := pn_cls_n (pn_let X 0)
    refine ⟨c + 1, ?_, pn_sn_0 hc⟩
    show pn_cls (pn_let X 0) + nI 1 = _
    rw [e, nI_add]
  | succ j ih =>
    obtain ⟨H, e, h⟩ := ih
    rw [pn_sd_s]
    split
    · rename_i hh
      obtain ⟨c, hc, e2⟩ := pn_cls_n (pn_let X (j + 1))
      have h1 := h.1
      refine ⟨H + (c + 1) * 16 ^ (pn_sd X j).2, ?_, pn_sn_add h hh.1 hc⟩
      show ((pn_sd X j).1 ||| ((pn_cls (pn_let X (j + 1)) + nI 1) <<< (nI (4 * (pn_sd X j).2) &&& 31))) = _
      rw [e, e2, nI_add, pn_or_add (by omega) h.2.2.1 hc]
    · exact ⟨H, e, h⟩
