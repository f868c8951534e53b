/-! year by year, as the reference goes -/
def pn_yl (Y P S O : Nat → Int32) (n : Nat) (pa : Int32) : Nat → Int32 × Int32 × Nat × Int32
  | 0 => ((-6), (-6), 0, nI 0)
  | y + 1 => if pn_sit P S O pa (pn_st Y (nI y) n) = 0 then ((pn_yl Y P S O n pa y).1, (pn_yl Y P S O n pa y).2.1, (pn_yl Y P S O n pa y).2.2.1, ((pn_yl Y P S O n pa y).2.2.2 ||| pn_sit P S O pa (pn_st Y (nI y) n)))
      else ((if (pn_yl Y P S O n pa y).1 < 0 then nI y else (pn_yl Y P S O n pa y).1), nI y, (pn_yl Y P S O n pa y).2.2.1 + 1, ((pn_yl Y P S O n pa y).2.2.2 ||| pn_sit P S O pa (pn_st Y (nI y) n)))
section PNYL
variable {Y P S O : Nat → Int32} {n y ct : Nat} {pa f la al : Int32}
theorem pn_yl_0 (e : (f, la, ct, al) = pn_yl Y P S O n pa y) (h : pn_sit P S O pa (pn_st Y (nI y) n) = 0) : (f, la, ct, (al ||| pn_sit P S O pa (pn_st Y (nI y) n))) = pn_yl Y P S O n pa (y + 1) := by
  rw [pn_yl, if_pos h, ← e]
theorem pn_yl_1 (e : (f, la, ct, al) = pn_yl Y P S O n pa y) (h : ¬ pn_sit P S O pa (pn_st Y (nI y) n) = 0) (h0 : f < 0) : (nI y, nI y, ct + 1, (al ||| pn_sit P S O pa (pn_st Y (nI y) n))) = pn_yl Y P S O n pa (y + 1) := by
  rw [pn_yl, if_neg h, ← e]
  show _ = ((if f < 0 then _ else f), _)
  rw [if_pos h0]
theorem pn_yl_2 (e : (f, la, ct, al) = pn_yl Y P S O n pa y) (h : ¬ pn_sit P S O pa (pn_st Y (nI y) n) = 0) (h0 : 0 ≤ f) : (f, nI y, ct + 1, (al ||| pn_sit P S O pa (pn_st Y (nI y) n))) = pn_yl Y P S O n pa (y + 1) := by
  rw [pn_yl, if_neg h, ← e]
  show _ = ((if f < 0 then _ else f), _)
  rw [if_neg (Int32.not_lt.mpr h0)]
end PNYL
/-- the bit p of a set -/
def pn_tb (x : Int32) (p : Nat) : Bool := x.toBitVec.getLsbD p
def pn_fq (K Y P S O : Nat → Int32) (N : Nat → Int64) (n : Nat) (pd : Int64) (how : Int32) (y p : Nat) : Prop := ¬ pn_sit P S O (nI p) (pn_st Y (nI y) n) = 0 ∧ pn_like (pn_mn K P O N p (pn_st Y (nI y) n)) pd how
def pn_fS (K Y P S O : Nat → Int32) (N : Nat → Int64) (n F : Nat) (pd : Int64) (how : Int32) (a y k : Nat) (se : Int32) : Prop := ∀ p, pn_tb se p = true ↔ p < F ∧ ((∃ z, a ≤ z ∧ z < y ∧ pn_fq K Y P S O N n pd how z p) ∨ (p < k ∧ pn_fq K Y P S O N n pd how y p))
section PNFS
variable {K Y P S O : Nat → Int32} {N : Nat → Int64} {n F : Nat} {pd : Int64} {how : Int32} {a y k : Nat} {se : Int32}
end PNFS
abbrev pn_nmy (K Y P S O : Nat → Int32) (N : Nat → Int64) (n t y : Nat) : Int64 := pn_nam K P O N (pn_own S O t (pn_st Y (nI y) n)) (pn_st Y (nI y) n)
abbrev pn_owy (Y S O : Nat → Int32) (n t y : Nat) : Int32 := pn_own S O t (pn_st Y (nI y) n)
noncomputable def pn_yc (K Y P S O : Nat → Int32) (N : Nat → Int64) (n t : Nat) (pd : Int64) (how : Int32) (a : Nat) : Nat → Nat × Int32 × Int32
  | 0 => (0, (-6), (-6))
  | d + 1 => pn_if (pn_like (pn_nmy K Y P S O N n t (a + d)) pd how) ((pn_yc K Y P S O N n t pd how a d).1 + 1, (if (pn_yc K Y P S O N n t pd how a d).2.1 < 0 then nI (a + d) else (pn_yc K Y P S O N n t pd how a d).2.1), nI (a + d)) (pn_yc K Y P S O N n t pd how a d)
section PNYC
variable {K Y P S O : Nat → Int32} {N : Nat → Int64} {n t a d yc : Nat} {pd : Int64} {how fs la : Int32}
theorem pn_yc_n (e : (yc, fs, la) = pn_yc K Y P S O N n t pd how a d) (h : ¬ pn_like (pn_nmy K Y P S O N n t (a + d)) pd how) : (yc, fs, la) = pn_yc K Y P S O N n t pd how a (d + 1) := by rw [pn_yc, pn_in h, e]
theorem pn_yc_1 (e : (yc, fs, la) = pn_yc K Y P S O N n t pd how a d) (h : pn_like (pn_nmy K Y P S O N n t (a + d)) pd how) (h0 : fs < 0) : (yc + 1, nI (a + d), nI (a + d)) = pn_yc K Y P S O N n t pd how a (d + 1) := by
  rw [pn_yc, pn_ip h, ← e]
  show _ = (_, (if fs < 0 then _ else fs), _)
  rw [if_pos h0]
theorem pn_yc_2 (e : (yc, fs, la) = pn_yc K Y P S O N n t pd how a d) (h : pn_like (pn_nmy K Y P S O N n t (a + d)) pd how) (h0 : 0 ≤ fs) : (yc + 1, fs, nI (a + d)) = pn_yc K Y P S O N n t pd how a (d + 1) := by
  rw [pn_yc, pn_ip h, ← e]
  show _ = (_, (if fs < 0 then _ else fs), _)
  rw [if_neg (Int32.not_lt.mpr h0)]
end PNYC
/-- behind the years below y: c spans have begun, the last one in year b, with parish pr and name nm -/
def pn_sI (K Y P S O : Nat → Int32) (N : Nat → Int64) (n t y c b : Nat) (pr : Int32) (nm : Int64) : Prop :=
  (y = 0 ∧ c = 0 ∧ b = 0 ∧ pr = (-6)) ∨ (1 ≤ c ∧ b < y ∧ c ≤ pn_sm K Y P S O N n t ∧ pn_st Y (nI b) n = pn_sq K Y P S O N n t (c - 1) ∧ pn_fy Y n (pn_sq K Y P S O N n t (c - 1)) = nI b ∧ pr = pn_owy Y S O n t b ∧ nm = pn_nmy K Y P S O N n t b ∧ (∀ z, b ≤ z → z < y → pn_owy Y S O n t z = pr ∧ pn_nmy K Y P S O N n t z = nm))
section PNSI
variable {St K Y P S O : Nat → Int32} {N : Nat → Int64} {n F t y c b : Nat} {pr i : Int32} {nm : Int64}
theorem pn_sI_0 (nm : Int64) : pn_sI K Y P S O N n t 0 0 0 (-6) nm := Or.inl ⟨rfl, rfl, rfl, rfl⟩
theorem pn_sI_s (h : pn_sI K Y P S O N n t y c b pr nm) (hc : 1 ≤ c) (h1 : pn_owy Y S O n t y = pr) (h2 : pn_nmy K Y P S O N n t y = nm) : pn_sI K Y P S O N n t (y + 1) c b pr nm := by
  rcases h with h | ⟨a1, a2, a3, a4, a5, a6, a7, a8⟩
  · omega
  · refine Or.inr ⟨a1, by omega, a3, a4, a5, a6, a7, fun z hz1 hz2 => ?_⟩
    by_cases q : z < y
    · exact a8 z hz1 q
    · obtain rfl : z = y := by omega
      exact ⟨h1, h2⟩
theorem pn_sI_le (h : pn_sI K Y P S O N n t y c b pr nm) : c ≤ 32 := by
  rcases h with h | h
  · omega
  · exact Nat.le_trans h.2.2.1 (pn_cw_le _ _)
/-- what the i-th span's call answers -/
noncomputable def pn_spR (K Y P S O : Nat → Int32) (N : Nat → Int64) (n t : Nat) (i : Int32) (w : Nat) : Int32 := pn_if (nI (pn_sm K Y P S O N n t) ≤ i ∨ i < 0) (pn_if (i = (-1)) (nI (pn_sm K Y P S O N n t)) (-6)) (pn_sf Y S O n t (pn_sq K Y P S O N n t i.toNatClampNeg) (pn_sq K Y P S O N n t (i.toNatClampNeg + 1)) w)
end PNSI
theorem pn_w4 {wh : Int32} (h : ¬ wh < nI 0 ∧ ¬ nI 4 < wh) (h0 : ¬ wh = 0) (h1 : ¬ wh = nI 1) (h2 : ¬ wh = nI 2) (h3 : ¬ wh = nI 3) : wh.toNatClampNeg = 4 := by
  obtain ⟨w, hw, rfl⟩ := pn_ofK h.1 h.2 (by decide)
  rw [nI_clamp (by omega)]
  have q0 : ¬ w = 0 := fun e => h0 (by rw [e]; rfl)
  have q1 : ¬ w = 1 := fun e => h1 (by rw [e])
  have q2 : ¬ w = 2 := fun e => h2 (by rw [e])
  have q3 : ¬ w = 3 := fun e => h3 (by rw [e])
  omega
theorem pn_c1 {K Y P S O : Nat → Int32} {N : Nat → Int64} {n t y c b oo : Nat} {pr : Int32} {nm : Int64} (h : pn_sI K Y P S O N n t y c b pr nm) (h1 : pn_own S O t (pn_st Y (nI y) n) = pr) (e : pn_own S O t (pn_st Y (nI y) n) = nI oo) (ho : oo < 16) : 1 ≤ c := by
  rcases h with ⟨-, -, -, q⟩ | h
  · rw [e, q] at h1
    exact absurd (nI_pos' (n := oo) (by omega)) (by rw [h1]; decide)
  · exact h.1
theorem pn_c1e {K Y P S O : Nat → Int32} {N : Nat → Int64} {n t y c b : Nat} {pr : Int32} {nm : Int64} (h : pn_sI K Y P S O N n t y c b pr nm) (hy : 1 ≤ y) : 1 ≤ c ∧ b < y := by
  rcases h with h | h
  · omega
  · exact ⟨h.1, h.2.1⟩
theorem pn_c1b {K Y P S O : Nat → Int32} {N : Nat → Int64} {n t y c b : Nat} {pr : Int32} {nm : Int64} (h : pn_sI K Y P S O N n t y c b pr nm) (hc : 1 ≤ c) : b < y := by
  rcases h with h | h
  · omega
  · exact h.2.1
theorem pn_lt3 {c : Nat} {i : Int32} (h : ∀ d, 1 ≤ d → d < c → ¬ nI (d - 1) = i) (hc : ¬ nI (c - 1) = i) : ∀ d, 1 ≤ d → d < c + 1 → ¬ nI (d - 1) = i := by
  intro d h1 h2
  by_cases q : d < c
  · exact h d h1 q
  · obtain rfl : d = c := by omega
    exact hc
theorem pn_lt4 {c : Nat} {i : Int32} (h : ∀ d, 1 ≤ d → d < c → ¬ nI (d - 1) = i) (hc : ¬ nI (c - 1) = i) : ∀ d, 1 ≤ d → d ≤ c → ¬ nI (d - 1) = i := fun d h1 h2 => pn_lt3 h hc d h1 (by omega)
