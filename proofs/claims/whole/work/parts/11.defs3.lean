/-! what find, called, span, heirs tell -/
def pn_bg (Y : Nat → Int32) (n : Nat) (fr : Int32) (j : Nat) : Int32 := if fr < pn_fy Y n j then pn_fy Y n j else fr
def pn_en (Y : Nat → Int32) (n : Nat) (to : Int32) (j : Nat) : Int32 := if pn_ly Y n j < to then pn_ly Y n j else to
def pn_wq (K Y P S O : Nat → Int32) (N : Nat → Int64) (n : Nat) (pa : Int32) (pd : Int64) (fr to how : Int32) (j : Nat) : Prop := ¬ pn_en Y n to j < pn_bg Y n fr j ∧ ¬ pn_sit P S O pa j = 0 ∧ pn_like (pn_nam K P O N pa j) pd how
def pn_was (K Y P S O : Nat → Int32) (N : Nat → Int64) (n : Nat) (pa : Int32) (pd : Int64) (fr to how : Int32) : Prop := ∃ j, j ≤ n ∧ pn_wq K Y P S O N n pa pd fr to how j
theorem pn_cntp {Q : Nat → Prop} {f k : Nat} (e : f = pn_cnt Q k) (h : Q k) : f + 1 = pn_cnt Q (k + 1) := by rw [pn_cnt, if_pos h, e]
theorem pn_cntn {Q : Nat → Prop} {f k : Nat} (e : f = pn_cnt Q k) (h : ¬ Q k) : f = pn_cnt Q (k + 1) := by rw [pn_cnt, if_neg h, e]
def pn_fnd (Q : Nat → Prop) (F : Nat) (i r : Int32) : Prop := (∃ j, j < F ∧ Q j ∧ nI (pn_cnt Q j) = i ∧ r = nI j) ∨ ((∀ j, j < F → Q j → ¬ nI (pn_cnt Q j) = i) ∧ r = pn_if (i = (-1)) (nI (pn_cnt Q F)) (-6))
def pn_cq (K Y P S O : Nat → Int32) (N : Nat → Int64) (n t : Nat) (pd : Int64) (fr to how : Int32) (j : Nat) : Prop := ¬ pn_en Y n to j < pn_bg Y n fr j ∧ pn_like (pn_nam K P O N (pn_own S O t j) j) pd how
noncomputable def pn_cal (K Y P S O : Nat → Int32) (N : Nat → Int64) (n t : Nat) (pd : Int64) (fr to how : Int32) : Nat → Int32 × Int32 × Int32
  | 0 => (nI 0, (-6), (-6))
  | k + 1 => pn_if (pn_cq K Y P S O N n t pd fr to how k) ((pn_cal K Y P S O N n t pd fr to how k).1 + ((pn_en Y n to k - pn_bg Y n fr k) + nI 1), (if (pn_cal K Y P S O N n t pd fr to how k).1 = 0 then pn_bg Y n fr k else (pn_cal K Y P S O N n t pd fr to how k).2.1), pn_en Y n to k) (pn_cal K Y P S O N n t pd fr to how k)
section PNCAL
variable {K Y P S O : Nat → Int32} {N : Nat → Int64} {n t k : Nat} {pd : Int64} {fr to how yc fs la : Int32}
theorem pn_cal_n (e : (yc, fs, la) = pn_cal K Y P S O N n t pd fr to how k) (h : ¬ pn_cq K Y P S O N n t pd fr to how k) : (yc, fs, la) = pn_cal K Y P S O N n t pd fr to how (k + 1) := by
  rw [pn_cal, pn_in h, e]
theorem pn_cal_1 (e : (yc, fs, la) = pn_cal K Y P S O N n t pd fr to how k) (h : pn_cq K Y P S O N n t pd fr to how k) (h0 : yc = 0) : (yc + ((pn_en Y n to k - pn_bg Y n fr k) + nI 1), pn_bg Y n fr k, pn_en Y n to k) = pn_cal K Y P S O N n t pd fr to how (k + 1) := by
  rw [pn_cal, pn_ip h, ← e]
  show _ = (_, (if yc = 0 then _ else _), _)
  rw [if_pos h0]
theorem pn_cal_2 (e : (yc, fs, la) = pn_cal K Y P S O N n t pd fr to how k) (h : pn_cq K Y P S O N n t pd fr to how k) (h0 : ¬ yc = 0) : (yc + ((pn_en Y n to k - pn_bg Y n fr k) + nI 1), fs, pn_en Y n to k) = pn_cal K Y P S O N n t pd fr to how (k + 1) := by
  rw [pn_cal, pn_ip h, ← e]
  show _ = (_, (if yc = 0 then _ else fs), _)
  rw [if_neg h0]
end PNCAL
/-- the stages with which the spans of a site begin -/
noncomputable def pn_sq (K Y P S O : Nat → Int32) (N : Nat → Int64) (n t : Nat) : Nat → Nat
  | 0 => pn_st Y (nI 0) n
  | i + 1 => pn_nxt K Y P S O N n t (pn_sq K Y P S O N n t i)
noncomputable def pn_sm (K Y P S O : Nat → Int32) (N : Nat → Int64) (n t : Nat) : Nat := pn_cw (fun j => decide (pn_sq K Y P S O N n t j ≤ n)) 32
theorem pn_nxt_in {K Y P S O : Nat → Int32} {N : Nat → Int64} {n t g : Nat} (h : g ≤ n) : g + 1 ≤ pn_nxt K Y P S O N n t g ∧ pn_nxt K Y P S O N n t g ≤ n + 1 := by
  unfold pn_nxt
  have := pn_cw_le (fun i => @decide (¬ pn_chg K Y P S O N n t g (g + 1 + i)) (Classical.propDecidable _)) (n - g)
  omega
theorem pn_cw_gt {P : Nat → Bool} {n k : Nat} (h1 : ∀ i, i ≤ k → P i = true) (hk : k < n) : k < pn_cw P n := by
  have a := pn_cw_le P n
  have c := pn_cw_no P n
  by_cases h : pn_cw P n ≤ k
  · exact absurd (h1 _ h) (c (by omega))
  · omega
def pn_heir (S O : Nat → Int32) (st : Int32) (g : Nat) : Nat → Int32
  | 0 => nI 0
  | k + 1 => if ¬ pn_bit st k = 0 then (pn_heir S O st g k ||| (nI 1 <<< (pn_own S O k g &&& 31))) else pn_heir S O st g k
theorem pn_outR {i : Int32} {m : Nat} (hm : m < 2 ^ 31) (h : ∀ j, j < m → ¬ nI j = i) : nI m ≤ i ∨ i < 0 := by
  by_cases h0 : i < 0
  · exact Or.inr h0
  · by_cases h1 : nI m ≤ i
    · exact Or.inl h1
    · obtain ⟨k, hk, rfl⟩ := pn_ofJ h0 h1 hm
      exact absurd rfl (h k hk)
theorem pn_noc {A B : Prop} {wh : Int32} (a : A) (b : B) (h1 : ¬ wh < 0) (h2 : wh ≤ nI 2) : ¬ (¬ A ∨ ¬ B ∨ wh < 0 ∨ ¬ wh ≤ nI 2) := fun q => q.elim (fun f => f a) (fun q => q.elim (fun f => f b) (fun q => q.elim h1 (fun f => f h2)))
theorem pn_nos {i wh : Int32} (h0 : ¬ i < (-1)) (h1 : ¬ wh < 0) (h2 : wh ≤ nI 2) : ¬ (i < (-1) ∨ wh < 0 ∨ ¬ wh ≤ nI 2) := fun q => q.elim h0 (fun q => q.elim h1 (fun f => f h2))
theorem pn_spin {i : Int32} {b m : Nat} (h : nI b = i) (hb : b < 31) (hm : b < m) (hm2 : m ≤ 32 := by exact pn_cw_le _ _) : ¬ (nI m ≤ i ∨ i < 0) := by
  subst h
  intro q
  rcases q with q | q
  · exact nI_ge hm (by omega) q
  · exact nI_pos (by omega) q
theorem pn_le_ext {f : Nat → Nat} {R : Nat → Prop} {b n : Nat} (h : ∀ j, j < b → f j ≤ n ∧ R j) (hb : f b ≤ n) : ∀ j, j ≤ b → f j ≤ n := by
  intro j hj
  by_cases q : j < b
  · exact (h j q).1
  · obtain rfl : j = b := by omega
    exact hb
theorem pn_heir_t {S O : Nat → Int32} {st ac : Int32} {g k : Nat} (e : ac = pn_heir S O st g k) (h : ¬ pn_bit st k = 0) : (ac ||| (nI 1 <<< (pn_own S O k g &&& 31))) = pn_heir S O st g (k + 1) := by rw [pn_heir, if_pos h, e]
theorem pn_heir_f {S O : Nat → Int32} {st ac : Int32} {g k : Nat} (e : ac = pn_heir S O st g k) (h : ¬ ¬ pn_bit st k = 0) : ac = pn_heir S O st g (k + 1) := by rw [pn_heir, if_neg h, e]
