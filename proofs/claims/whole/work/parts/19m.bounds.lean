/-! the years of a stage: from B j to below B (j + 1) -/
def pn_yv (Y : Nat → Int32) (i : Nat) : Nat := (Y i).toNatClampNeg
def pn_B (Y : Nat → Int32) (n : Nat) : Nat → Nat
  | 0 => 0
  | j + 1 => if j < n then pn_yv Y j else 1000
theorem pn_B0 (Y : Nat → Int32) (n : Nat) : pn_B Y n 0 = 0 := rfl
theorem pn_Bs (Y : Nat → Int32) (n j : Nat) : pn_B Y n (j + 1) = if j < n then pn_yv Y j else 1000 := rfl
section PNBD
variable {St K Y P S O : Nat → Int32} {N : Nat → Int64} {n F : Nat}
theorem pn_yv_eq (hR : pn_rel St K Y P S O N n F) {i : Nat} (hi : i < n) : Y i = nI (pn_yv Y i) ∧ pn_yv Y i ≤ 999 := by
  have h := (hR.ev hi).2.2.2.1
  obtain ⟨k, hk, e⟩ := pn_ofK h.1 h.2 (by decide)
  unfold pn_yv
  rw [e, nI_clamp (by omega)]
  exact ⟨rfl, hk⟩
theorem pn_yv_mono (hR : pn_rel St K Y P S O N n F) {i : Nat} : ∀ {j : Nat}, i ≤ j → j < n → pn_yv Y i ≤ pn_yv Y j := by
  intro j
  induction j with
  | zero => intro h _; obtain rfl : i = 0 := by omega
            exact Nat.le_refl _
  | succ j ih =>
    intro h hj
    by_cases e : i = j + 1
    · subst e; exact Nat.le_refl _
    · have h1 := ih (by omega) (by omega)
      have h2 := hR.2.2.2.2.2.1 j hj
      obtain ⟨a1, a2⟩ := pn_yv_eq hR (show j < n by omega)
      obtain ⟨b1, b2⟩ := pn_yv_eq hR hj
      rw [a1, b1, nI_leI (by omega) (by omega)] at h2
      omega
theorem pn_B_le (hR : pn_rel St K Y P S O N n F) (j : Nat) : pn_B Y n j ≤ 1000 := by
  cases j with
  | zero => rw [pn_B0]; omega
  | succ j =>
    rw [pn_Bs]
    split
    · rename_i h; have := (pn_yv_eq hR h).2; omega
    · omega
theorem pn_B_mono (hR : pn_rel St K Y P S O N n F) (j : Nat) : pn_B Y n j ≤ pn_B Y n (j + 1) := by
  cases j with
  | zero => rw [pn_B0]; omega
  | succ j =>
    have hle := pn_B_le hR (j + 1)
    by_cases h : j + 1 < n
    · have := pn_yv_mono hR (Nat.le_succ j) h
      rw [pn_Bs, pn_Bs, if_pos (show j < n by omega), if_pos h]
      exact this
    · rw [show pn_B Y n (j + 1 + 1) = 1000 by rw [pn_Bs, if_neg h]]
      exact hle
theorem pn_B_mon (hR : pn_rel St K Y P S O N n F) {i : Nat} : ∀ {j : Nat}, i ≤ j → pn_B Y n i ≤ pn_B Y n j := by
  intro j
  induction j with
  | zero => intro h; obtain rfl : i = 0 := by omega
            exact Nat.le_refl _
  | succ j ih =>
    intro h
    by_cases e : i = j + 1
    · subst e; exact Nat.le_refl _
    · exact Nat.le_trans (ih (by omega)) (pn_B_mono hR j)
theorem pn_B_end : pn_B Y n (n + 1) = 1000 := by rw [pn_Bs, if_neg (by omega)]
theorem pn_st_B (hR : pn_rel St K Y P S O N n F) {j y : Nat} (hj : j ≤ n) (h1 : pn_B Y n j ≤ y) (h2 : y < pn_B Y n (j + 1)) : pn_st Y (nI y) n = j := by
  have hy := pn_B_le hR (j + 1)
  refine pn_cw_eq (fun i hi => decide_eq_true ?_) hj ?_
  · obtain ⟨a1, a2⟩ := pn_yv_eq hR (show i < n by omega)
    rw [a1, nI_leI (by omega) (by omega)]
    obtain ⟨k, rfl⟩ : ∃ k, j = k + 1 := ⟨j - 1, by omega⟩
    have h3 := pn_yv_mono hR (show i ≤ k by omega) (by omega)
    rw [pn_Bs, if_pos (by omega)] at h1
    omega
  · by_cases e : j = n
    · exact Or.inl e
    · refine Or.inr (fun q => ?_)
      have q := of_decide_eq_true q
      obtain ⟨a1, a2⟩ := pn_yv_eq hR (show j < n by omega)
      rw [a1, nI_leI (by omega) (by omega)] at q
      rw [pn_Bs, if_pos (by omega)] at h2
      omega
/-- every year is of a stage -/
theorem pn_B_at (hR : pn_rel St K Y P S O N n F) {y : Nat} (hy : y < 1000) : ∃ j, j ≤ n ∧ pn_B Y n j ≤ y ∧ y < pn_B Y n (j + 1) ∧ pn_st Y (nI y) n = j := by
  have : ∀ k, k ≤ n + 1 → y < pn_B Y n k → ∃ j, j < k ∧ pn_B Y n j ≤ y ∧ y < pn_B Y n (j + 1) := by
    intro k
    induction k with
    | zero => intro _ h; rw [pn_B0] at h; omega
    | succ k ih =>
      intro hk h
      by_cases q : y < pn_B Y n k
      · obtain ⟨j, a, b⟩ := ih (by omega) q
        exact ⟨j, by omega, b⟩
      · exact ⟨k, by omega, by omega, h⟩
  obtain ⟨j, a, b1, b2⟩ := this (n + 1) (Nat.le_refl _) (by rw [pn_B_end]; exact hy)
  exact ⟨j, by omega, b1, b2, pn_st_B hR (by omega) b1 b2⟩
theorem pn_fy_B (hR : pn_rel St K Y P S O N n F) {j : Nat} (hj : j ≤ n) : pn_fy Y n j = nI (pn_B Y n j) := by
  unfold pn_fy
  cases j with
  | zero => rw [if_pos (Or.inl rfl)]; rfl
  | succ k =>
    rw [if_neg (by omega)]
    rw [pn_Bs, if_pos (by omega)]
    exact (pn_yv_eq hR (show k < n by omega)).1
theorem pn_ly_B (hR : pn_rel St K Y P S O N n F) {j : Nat} (hj : j ≤ n) : pn_ly Y n j = nI (pn_B Y n (j + 1)) - nI 1 := by
  unfold pn_ly
  rw [pn_Bs]
  by_cases h : j < n
  · rw [if_neg (by omega), if_pos h, ← (pn_yv_eq hR h).1]
  · rw [if_pos (by omega), if_neg h]; decide
theorem pn_hold_B (hR : pn_rel St K Y P S O N n F) {j : Nat} (hj : j ≤ n) : pn_fy Y n j ≤ pn_ly Y n j ↔ pn_B Y n j < pn_B Y n (j + 1) := by
  have h1 := pn_B_le hR j
  have h2 := pn_B_le hR (j + 1)
  rw [pn_fy_B hR hj, pn_ly_B hR hj, fa_leP, pk_sub_toInt (by omega) (by omega), nI_toInt (by omega)]
  omega
end PNBD
