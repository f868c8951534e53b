/-! numbers of the walks: truth values, switches, counting while -/
noncomputable def pn_b (P : Prop) : Int32 := @ite Int32 P (Classical.propDecidable P) (nI 1) (nI 0)
theorem pn_b0 {P : Prop} : pn_b P = 0 ↔ ¬ P := by
  unfold pn_b
  by_cases h : P
  · rw [if_pos h]; exact ⟨fun q => absurd q (by decide), fun q => absurd h q⟩
  · rw [if_neg h]; exact ⟨fun _ => h, fun _ => rfl⟩
theorem pn_b1 {P : Prop} : ¬ pn_b P = 0 ↔ P := by rw [pn_b0]; exact Classical.not_not
theorem pn_bt {P : Prop} (h : P) : nI 1 = pn_b P := by unfold pn_b; rw [if_pos h]
theorem pn_bf {P : Prop} (h : ¬ P) : nI 0 = pn_b P := by unfold pn_b; rw [if_neg h]
theorem pn_nz {P : Prop} : narrow .boolean (.int (pn_b P)) = .int (pn_b P) := by
  unfold pn_b
  by_cases h : P
  · rw [if_pos h]; decide
  · rw [if_neg h]; decide
theorem pn_cmp0 {x y : Int64} : lg_cmp x y = 0 ↔ x = y := by
  unfold lg_cmp
  by_cases h1 : y < x
  · rw [if_pos h1]
    refine ⟨fun h => absurd h (by decide), fun h => ?_⟩
    subst h
    exact absurd h1 (Int64.lt_irrefl)
  · rw [if_neg h1]
    by_cases h2 : x = y
    · rw [if_pos h2]; exact ⟨fun _ => h2, fun _ => rfl⟩
    · rw [if_neg h2]; exact ⟨fun h => absurd h (by decide), fun h => absurd h h2⟩
theorem pn_sw (x : Int32) {lo hi : Nat} : (x.toInt < (lo : Int) ∨ (hi : Int) < x.toInt) ∨ ∃ k : Nat, (lo ≤ k ∧ k ≤ hi) ∧ x.toInt = (k : Int) := by
  by_cases h1 : x.toInt < (lo : Int)
  · exact Or.inl (Or.inl h1)
  · by_cases h2 : (hi : Int) < x.toInt
    · exact Or.inl (Or.inr h2)
    · exact Or.inr ⟨x.toInt.toNat, ⟨by omega, by omega⟩, by omega⟩
theorem pn_swe {x : Int32} {k : Nat} (h : x.toInt = (k : Int)) (hk : k < 2 ^ 31) : x = nI k := Int32.toInt_inj.mp (by rw [h, nI_toInt hk])
theorem pn_toI {k : Nat} (hk : k < 2 ^ 31) : (nI k).toInt = (k : Int) := nI_toInt hk
theorem pn_nd {L : List Nat} (h : L.Nodup) (is : List Nat) {L' : List Nat} (e : is.filterMap (fun i => L[i]?) = L') (hd : is.Nodup := by decide) : L'.Nodup := by
  subst e
  rw [List.nodup_iff_pairwise_ne] at *
  refine List.Pairwise.filterMap _ (fun a b hab x hx y hy hxy => ?_) hd
  subst hxy
  have hi : a < L.length := (List.getElem?_eq_some_iff.mp hx).1
  have hn : L.Nodup := h
  exact hab ((List.getElem?_inj hi hn).mp (by rw [hx, hy]))
theorem pn_sA {L L' : List Nat} (is : List Nat) (e : is.filterMap (fun i => L[i]?) = L') : ∀ q, pn_In L' q → pn_In L q := by
  subst e
  intro q hq
  obtain ⟨i, -, hi⟩ := List.mem_filterMap.mp hq
  exact List.mem_of_getElem? hi
/-- how far from 0 on something holds, below n -/
def pn_cw (P : Nat → Bool) : Nat → Nat
  | 0 => 0
  | n + 1 => if pn_cw P n = n ∧ P n = true then n + 1 else pn_cw P n
theorem pn_cw_le (P : Nat → Bool) (n : Nat) : pn_cw P n ≤ n := by
  induction n with
  | zero => exact Nat.le_refl _
  | succ n ih =>
    unfold pn_cw
    split
    · exact Nat.le_refl _
    · omega
theorem pn_cw_lt (P : Nat → Bool) (n : Nat) : ∀ i, i < pn_cw P n → P i = true := by
  induction n with
  | zero => intro i h; exact absurd h (Nat.not_lt_zero _)
  | succ n ih =>
    intro i h
    unfold pn_cw at h
    split at h
    · rename_i q
      by_cases hi : i = n
      · subst hi; exact q.2
      · exact ih i (by rw [q.1]; omega)
    · exact ih i h
theorem pn_cw_no (P : Nat → Bool) (n : Nat) (h : pn_cw P n < n) : ¬ P (pn_cw P n) = true := by
  induction n with
  | zero => exact absurd h (Nat.not_lt_zero _)
  | succ n ih =>
    have hle := pn_cw_le P n
    unfold pn_cw at h ⊢
    split
    · rename_i q; rw [if_pos q] at h; exact absurd h (Nat.lt_irrefl _)
    · rename_i q
      rw [if_neg q] at h
      by_cases hn : pn_cw P n = n
      · rw [hn]; exact fun hp => q ⟨hn, hp⟩
      · exact ih (by omega)
theorem pn_cw_eq {P : Nat → Bool} {n k : Nat} (h1 : ∀ i, i < k → P i = true) (hk : k ≤ n) (h2 : k = n ∨ ¬ P k = true) : pn_cw P n = k := by
  have a := pn_cw_le P n
  have b := pn_cw_lt P n
  have c := pn_cw_no P n
  by_cases h : pn_cw P n < k
  · exact absurd (h1 _ h) (c (by omega))
  · by_cases h3 : k < pn_cw P n
    · rcases h2 with h2 | h2
      · omega
      · exact absurd (b k h3) h2
    · omega
/-! names as numbers -/
def pn_let (nm : Int64) (k : Nat) : Int32 := ((nm.toUInt64 >>> ((nI (8 * k)).toInt64.toUInt64 &&& Int64.toUInt64 63)).toInt64.toInt32 &&& nI 255)
def pn_wl (nm : Int64) (k : Nat) (x : Int32) : Int64 := (nm ||| (x.toInt64 <<< ((nI (8 * k)).toInt64 &&& 63)))
def pn_len (nm : Int64) : Nat := pn_cw (fun i => decide (¬ pn_let nm i = 0)) 8
theorem pn_len8 (nm : Int64) : pn_len nm ≤ 8 := pn_cw_le _ _
def pn_cls (x : Int32) : Int32 :=
  if x = nI 98 ∨ x = nI 102 ∨ x = nI 112 ∨ x = nI 118 then nI 1
  else if x = nI 99 ∨ x = nI 103 ∨ x = nI 106 ∨ x = nI 107 ∨ x = nI 113 ∨ x = nI 115 ∨ x = nI 120 ∨ x = nI 122 then nI 2
  else if x = nI 100 ∨ x = nI 116 then nI 3
  else if x = nI 108 then nI 4
  else if x = nI 109 ∨ x = nI 110 then nI 5
  else if x = nI 114 then nI 6
  else nI 0
theorem pn_cls_out {x : Int32} (h : x.toInt < ((98 : Nat) : Int) ∨ ((122 : Nat) : Int) < x.toInt) : nI 0 = pn_cls x := by
  have ne : ∀ k : Nat, 98 ≤ k → k ≤ 122 → ¬ x = nI k := by
    intro k h1 h2 e
    rw [e, nI_toInt (by omega)] at h
    omega
  unfold pn_cls
  simp [ne 98, ne 99, ne 100, ne 102, ne 103, ne 106, ne 107, ne 108, ne 109, ne 110, ne 112, ne 113, ne 114, ne 115, ne 116, ne 118, ne 120, ne 122]
def pn_cs (h : Int32) (k : Nat) : Int32 := (((h.toUInt32 >>> ((nI (4 * k)).toUInt32 &&& Int32.toUInt32 31)).toInt32 &&& nI 15) - nI 1)
def pn_lsd (h : Int32) : Nat := pn_cw (fun i => decide (¬ pn_cs h i < 0)) 4
theorem pn_lsd4 (h : Int32) : pn_lsd h ≤ 4 := pn_cw_le _ _
/-- what is heard, and how many classes, behind letter j -/
def pn_sd (nm : Int64) : Nat → Int32 × Nat
  | 0 => (pn_cls (pn_let nm 0) + nI 1, 1)
  | j + 1 => if (pn_sd nm j).2 < 4 ∧ ¬ pn_cls (pn_let nm (j + 1)) = 0 ∧ ¬ pn_cls (pn_let nm (j + 1)) = pn_cls (pn_let nm j)
      then ((pn_sd nm j).1 ||| ((pn_cls (pn_let nm (j + 1)) + nI 1) <<< (nI (4 * (pn_sd nm j).2) &&& 31)), (pn_sd nm j).2 + 1)
      else pn_sd nm j
def pn_snd (nm : Int64) : Int32 := (pn_sd nm (pn_len nm - 1)).1
theorem pn_sd4 (nm : Int64) (j : Nat) : 1 ≤ (pn_sd nm j).2 ∧ (pn_sd nm j).2 ≤ 4 := by
  induction j with
  | zero => exact ⟨Nat.le_refl 1, by show 1 ≤ 4; omega⟩
  | succ j ih =>
    unfold pn_sd
    split
    · rename_i h; exact ⟨by show 1 ≤ _ + 1; omega, by show _ + 1 ≤ 4; omega⟩
    · exact ih
theorem pn_sd_s (nm : Int64) (j : Nat) : pn_sd nm (j + 1) = if (pn_sd nm j).2 < 4 ∧ ¬ pn_cls (pn_let nm (j + 1)) = 0 ∧ ¬ pn_cls (pn_let nm (j + 1)) = pn_cls (pn_let nm j)
      then ((pn_sd nm j).1 ||| ((pn_cls (pn_let nm (j + 1)) + nI 1) <<< (nI (4 * (pn_sd nm j).2) &&& 31)), (pn_sd nm j).2 + 1)
      else pn_sd nm j := rfl
theorem pn_sd_stop (nm : Int64) {j : Nat} (h : 4 ≤ (pn_sd nm j).2) : ∀ d, pn_sd nm (j + d) = pn_sd nm j := by
  intro d
  induction d with
  | zero => rfl
  | succ d ih =>
    show pn_sd nm ((j + d) + 1) = _
    rw [pn_sd_s, if_neg (by rw [ih]; omega)]
    exact ih
/-- how many letters must change -/
def pn_lev (a b : Nat → Int32) : Nat → Nat → Nat
  | 0, j => j
  | i + 1, 0 => i + 1
  | i + 1, j + 1 => min (if a i = b j then pn_lev a b i j else pn_lev a b i j + 1) (min (pn_lev a b i (j + 1)) (pn_lev a b (i + 1) j) + 1)
theorem pn_lev_le (a b : Nat → Int32) : ∀ i j, pn_lev a b i j ≤ i + j := by
  intro i
  induction i with
  | zero => intro j; unfold pn_lev; omega
  | succ i ih =>
    intro j
    cases j with
    | zero => unfold pn_lev; omega
    | succ j =>
      have h1 := ih j
      unfold pn_lev
      split <;> omega
theorem pn_lev_i0 (a b : Nat → Int32) (i : Nat) : pn_lev a b i 0 = i := by
  cases i <;> rw [pn_lev]
theorem pn_lev_0j (a b : Nat → Int32) (j : Nat) : pn_lev a b 0 j = j := by
  cases j <;> rw [pn_lev]
theorem pn_lev_ss (a b : Nat → Int32) (i j : Nat) : pn_lev a b (i + 1) (j + 1) = min (if a i = b j then pn_lev a b i j else pn_lev a b i j + 1) (min (pn_lev a b i (j + 1)) (pn_lev a b (i + 1) j) + 1) := by rw [pn_lev]
theorem pn_lev_sym (a b : Nat → Int32) : ∀ i j, pn_lev a b i j = pn_lev b a j i := by
  intro i
  induction i with
  | zero => intro j; rw [pn_lev_i0, pn_lev_0j]
  | succ i ih =>
    intro j
    induction j with
    | zero => rw [pn_lev_i0, pn_lev_0j]
    | succ j ihj =>
      rw [pn_lev_ss a b, pn_lev_ss b a, ih j, ih (j + 1), ihj]
      by_cases h : a i = b j
      · rw [if_pos h, if_pos h.symm, Nat.min_comm (pn_lev b a (j + 1) i)]
      · rw [if_neg h, if_neg (fun q => h q.symm), Nat.min_comm (pn_lev b a (j + 1) i)]
/-- HOW a name is like another one -/
def pn_like (x y : Int64) (how : Int32) : Prop := (how = 0 ∧ x = y) ∨ (how = nI 1 ∧ pn_snd x = pn_snd y) ∨ (¬ how = 0 ∧ ¬ how = nI 1 ∧ pn_lev (pn_let x) (pn_let y) (pn_len x) (pn_len y) ≤ 1)
