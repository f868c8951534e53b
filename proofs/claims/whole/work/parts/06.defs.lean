/-! what the events tell, as the class plays them: n events, F parishes, six rows -/
def pn_st (Y : Nat → Int32) (yr : Int32) (n : Nat) : Nat := pn_cw (fun i => decide (Y i ≤ yr)) n
theorem pn_st_le (Y : Nat → Int32) (yr : Int32) (n : Nat) : pn_st Y yr n ≤ n := pn_cw_le _ _
def pn_fy (Y : Nat → Int32) (n j : Nat) : Int32 := if j = 0 ∨ n < j then nI 0 else Y (j - 1)
def pn_ly (Y : Nat → Int32) (n j : Nat) : Int32 := if n ≤ j then nI 999 else Y j - nI 1
def pn_factN (K Y P S O : Nat → Int32) (k : Nat) (wh : Nat) : Int32 := match wh with
  | 0 => K k
  | 1 => Y k
  | 2 => P k
  | 3 => if K k = 0 then (-6) else S k
  | _ => if K k = 0 then (-6) else O k
def pn_fact (K Y P S O : Nat → Int32) (n : Nat) (i : Int32) (wh : Nat) : Int32 := if i < 0 ∨ nI n ≤ i then (-6) else pn_factN K Y P S O i.toNatClampNeg wh
theorem pn_fact_in {K Y P S O : Nat → Int32} {n k wh : Nat} (hk : k < n) (hn : n < 2 ^ 31) : pn_fact K Y P S O n (nI k) wh = pn_factN K Y P S O k wh := by
  unfold pn_fact
  rw [if_neg (by rintro (h | h); exact nI_pos (by omega) h; exact nI_ge hk hn h), nI_clamp (by omega)]
theorem pn_ofI {x : Int32} {n : Nat} (h0 : ¬ x < 0) (h : x < nI n) (hn : n < 2 ^ 31) : ∃ k : Nat, k < n ∧ x = nI k := by
  obtain ⟨j, hj, rfl⟩ := nI_of h0
  exact ⟨j, (nI_ltI hj hn).mp h, rfl⟩
theorem pn_ofJ {x : Int32} {n : Nat} (h0 : ¬ x < 0) (h : ¬ nI n ≤ x) (hn : n < 2 ^ 31) : ∃ k : Nat, k < n ∧ x = nI k := pn_ofI h0 (Int32.not_le.mp h) hn
theorem pn_ofK {x : Int32} {n : Nat} (h0 : ¬ x < 0) (h : ¬ nI n < x) (hn : n < 2 ^ 31) : ∃ k : Nat, k ≤ n ∧ x = nI k := by
  obtain ⟨j, hj, rfl⟩ := nI_of h0
  exact ⟨j, Nat.le_of_not_lt (fun q => h ((nI_ltI hn hj).mpr q)), rfl⟩
theorem pn_outI {x : Int32} {lo hi : Nat} (h : x.toInt < (lo : Int) ∨ (hi : Int) < x.toInt) {k : Nat} (h1 : lo ≤ k) (h2 : k ≤ hi) (h3 : hi < 2 ^ 31) : ¬ x = nI k := by
  intro e
  rw [e, nI_toInt (by omega)] at h
  omega
def pn_sit0 (pa : Int32) : Int32 := if pa = 0 then nI 4095 else nI 0
def pn_nam0 (pa : Int32) : Int64 := if pa = 0 then pn_wl 0 0 (nI 97) else 0
def pn_sitT (P S O : Nat → Int32) (i : Nat) (pa hd : Int32) : Int32 := if P i = pa then (hd &&& (S i ^^^ (-1))) else if O i = pa then (hd ||| S i) else hd
def pn_namT (K P O : Nat → Int32) (N : Nat → Int64) (i : Nat) (pa : Int32) (nm : Int64) : Int64 := if K i = 0 ∧ P i = pa then N i else if K i = nI 1 ∧ O i = pa then N i else nm
def pn_sit (P S O : Nat → Int32) (pa : Int32) : Nat → Int32
  | 0 => pn_sit0 pa
  | k + 1 => pn_sitT P S O k pa (pn_sit P S O pa k)
def pn_nam (K P O : Nat → Int32) (N : Nat → Int64) (pa : Int32) : Nat → Int64
  | 0 => pn_nam0 pa
  | k + 1 => pn_namT K P O N k pa (pn_nam K P O N pa k)
def pn_bit (x : Int32) (k : Nat) : Int32 := ((x.toUInt32 >>> ((nI k).toUInt32 &&& Int32.toUInt32 31)).toInt32 &&& nI 1)
def pn_own (S O : Nat → Int32) (t : Nat) : Nat → Int32
  | 0 => nI 0
  | k + 1 => if ¬ pn_bit (S k) t = 0 then O k else pn_own S O t k
def pn_nin (K Y P S O : Nat → Int32) (N : Nat → Int64) (n : Nat) (pa yr : Int32) : Int64 := if pn_sit P S O pa (pn_st Y yr n) = 0 then 0 else pn_nam K P O N pa (pn_st Y yr n)
noncomputable def pn_cnt (P : Nat → Prop) : Nat → Nat
  | 0 => 0
  | n + 1 => @ite Nat (P n) (Classical.propDecidable _) (pn_cnt P n + 1) (pn_cnt P n)
theorem pn_cnt_le (P : Nat → Prop) (n : Nat) : pn_cnt P n ≤ n := by
  induction n with
  | zero => exact Nat.le_refl _
  | succ n ih => unfold pn_cnt; split <;> omega
def pn_nol (K P S O : Nat → Int32) (N : Nat → Int64) (n b : Nat) : Prop := ∃ i, i < b ∧ ¬ pn_sit P S O (nI i) n = 0 ∧ pn_nam K P O N (nI i) n = pn_nam K P O N (nI b) n
