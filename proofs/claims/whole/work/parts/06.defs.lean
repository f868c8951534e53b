/-! what the events tell, as the class plays them: n events, F parishes, six rows -/
def pn_st (Y : Nat → Int32) (yr : Int32) (n : Nat) : Nat := pn_cw (fun i => decide (Y i ≤ yr)) n
theorem pn_st_le (Y : Nat → Int32) (yr : Int32) (n : Nat) : pn_st Y yr n ≤ n := pn_cw_le _ _
abbrev pn_kn (F : Nat) (pa : Int32) : Prop := ¬ pa < 0 ∧ ¬ nI F ≤ pa
def pn_lY (Y : Nat → Int32) (n : Nat) : Int32 := if n = 0 then nI 0 else Y (n - 1)
def pn_fy (Y : Nat → Int32) (n j : Nat) : Int32 := if j = 0 ∨ n < j then nI 0 else Y (j - 1)
def pn_ly (Y : Nat → Int32) (n j : Nat) : Int32 := if n ≤ j then nI 999 else Y j - nI 1
def pn_factN (K Y P S O : Nat → Int32) (k : Nat) (wh : Nat) : Int32 := match wh with
  | 0 => K k
  | 1 => Y k
  | 2 => P k
  | 3 => if K k = 0 then (-6) else S k
  | _ => if K k = 0 then (-6) else O k
def pn_fact (K Y P S O : Nat → Int32) (n : Nat) (i : Int32) (wh : Nat) : Int32 := if i < 0 ∨ nI n ≤ i then (-6) else pn_factN K Y P S O i.toNatClampNeg wh
theorem pn_fact_in {K Y P S O : Nat → Int32} {n k wh : Nat} (hk : k < n) (hn : n < 2 ^ 31) : pn_fact K Y P S O n (nI k) wh = pn_factN K Y P S O k wh := by
  unfold pn_fact
  rw [if_neg (by rintro (h | h); exact nI_pos (by omega) h; exact nI_ge hk hn h), nI_clamp (by omega)]
theorem pn_ofI {x : Int32} {n : Nat} (h0 : ¬ x < 0) (h : x < nI n) (hn : n < 2 ^ 31) : ∃ k : Nat, k < n ∧ x = nI k := by
  obtain ⟨j, hj, rfl⟩ := nI_of h0
  exact ⟨j, (nI_ltI hj hn).mp h, rfl⟩
theorem pn_ofJ {x : Int32} {n : Nat} (h0 : ¬ x < 0) (h : ¬ nI n ≤ x) (hn : n < 2 ^ 31) : ∃ k : Nat, k < n ∧ x = nI k := pn_ofI h0 (Int32.not_le.mp h) hn
theorem pn_ofK {x : Int32} {n : Nat} (h0 : ¬ x < 0) (h : ¬ nI n < x) (hn : n < 2 ^ 31) : ∃ k : Nat, k ≤ n ∧ x = nI k := by
  obtain ⟨j, hj, rfl⟩ := nI_of h0
  exact ⟨j, Nat.le_of_not_lt (fun q => h ((nI_ltI hn hj).mpr q)), rfl⟩
theorem pn_outI {x : Int32} {lo hi : Nat} (h : x.toInt < (lo : Int) ∨ (hi : Int) < x.toInt) {k : Nat} (h1 : lo ≤ k) (h2 : k ≤ hi) (h3 : hi < 2 ^ 31) : ¬ x = nI k := by
  intro e
  rw [e, nI_toInt (by omega)] at h
  omega
def pn_sit0 (pa : Int32) : Int32 := if pa = 0 then nI 4095 else nI 0
def pn_nam0 (pa : Int32) : Int64 := if pa = 0 then pn_wl 0 0 (nI 97) else 0
def pn_sitT (P S O : Nat → Int32) (i : Nat) (pa hd : Int32) : Int32 := if P i = pa then (hd &&& (S i ^^^ (-1))) else if O i = pa then (hd ||| S i) else hd
def pn_namT (K P O : Nat → Int32) (N : Nat → Int64) (i : Nat) (pa : Int32) (nm : Int64) : Int64 := if K i = 0 ∧ P i = pa then N i else if K i = nI 1 ∧ O i = pa then N i else nm
def pn_sit (P S O : Nat → Int32) (pa : Int32) : Nat → Int32
  | 0 => pn_sit0 pa
  | k + 1 => pn_sitT P S O k pa (pn_sit P S O pa k)
def pn_nam (K P O : Nat → Int32) (N : Nat → Int64) (pa : Int32) : Nat → Int64
  | 0 => pn_nam0 pa
  | k + 1 => pn_namT K P O N k pa (pn_nam K P O N pa k)
def pn_bit (x : Int32) (k : Nat) : Int32 := ((x.toUInt32 >>> ((nI k).toUInt32 &&& Int32.toUInt32 31)).toInt32 &&& nI 1)
def pn_own (S O : Nat → Int32) (t : Nat) : Nat → Int32
  | 0 => nI 0
  | k + 1 => if ¬ pn_bit (S k) t = 0 then O k else pn_own S O t k
def pn_nin (K Y P S O : Nat → Int32) (N : Nat → Int64) (n : Nat) (pa yr : Int32) : Int64 := if pn_sit P S O pa (pn_st Y yr n) = 0 then 0 else pn_nam K P O N pa (pn_st Y yr n)
noncomputable def pn_cnt (P : Nat → Prop) : Nat → Nat
  | 0 => 0
  | n + 1 => @ite Nat (P n) (Classical.propDecidable _) (pn_cnt P n + 1) (pn_cnt P n)
theorem pn_cnt_le (P : Nat → Prop) (n : Nat) : pn_cnt P n ≤ n := by
  induction n with
  | zero => exact Nat.le_refl _
  | succ n ih => unfold pn_cnt; split <;> omega
def pn_nol (K P S O : Nat → Int32) (N : Nat → Int64) (n b : Nat) : Prop := ∃ i, i < b ∧ ¬ pn_sit P S O (nI i) n = 0 ∧ pn_nam K P O N (nI i) n = pn_nam K P O N (nI b) n
theorem pn_maxI {a b : Nat} (ha : a < 2 ^ 31) (hb : b < 2 ^ 31) : (if nI a < nI b then nI b else nI a) = nI (max a b) := by
  by_cases h : a < b
  · rw [if_pos ((nI_ltI ha hb).mpr h), Nat.max_eq_right (Nat.le_of_lt h)]
  · rw [if_neg (fun q => h ((nI_ltI ha hb).mp q)), Nat.max_eq_left (Nat.le_of_not_lt h)]
theorem pn_minI {a b : Nat} (ha : a < 2 ^ 31) (hb : b < 2 ^ 31) : (if nI b < nI a then nI b else nI a) = nI (min a b) := by
  by_cases h : b < a
  · rw [if_pos ((nI_ltI hb ha).mpr h), Nat.min_eq_right (Nat.le_of_lt h)]
  · rw [if_neg (fun q => h ((nI_ltI hb ha).mp q)), Nat.min_eq_left (Nat.le_of_not_lt h)]
theorem pn_cpy {α : Type} {f g : Nat → α} (i : Nat) (h : i < 30) : va_cpy f g (nI 0).toNatClampNeg (nI 0).toNatClampNeg (nI 30).toNatClampNeg i = f i := by
  rw [show (nI 0).toNatClampNeg = 0 from nI_clamp (by decide), show (nI 30).toNatClampNeg = 30 from nI_clamp (by decide), pk_cpy_in (Nat.zero_le _) (by omega)]
  congr 1
  omega
theorem pn_cgL {D : va_G} {cl : List vw_C} {ws : va_W} {H : Heap} {q a n : Nat} {cA : ClassId} {f g : Nat → Int64} (hP : va_P D cl ws H) (he : ws[q]? = some (a, .inl (cA, n, .inr (.inl f)))) (h : ∀ i, i < n → f i = g i) : va_P D cl (ws.set q (a, .inl (cA, n, .inr (.inl g)))) H := by
  intro k x hx
  by_cases hk : k = q
  · subst hk
    have hlt : k < ws.length := (List.getElem?_eq_some_iff.mp he).1
    rw [List.getElem?_set_self hlt] at hx
    cases hx
    have h0 := hP k _ he
    show H[a]? = some (vp_cell _ _)
    have h0 : H[a]? = some (vp_cell cA (n, .inr (.inl f))) := h0
    rw [h0]
    congr 1
    show vp_cell cA (n, .inr (.inl f)) = vp_cell cA (n, .inr (.inl g))
    rw [vp_cell_l, vp_cell_l]
    unfold arrV
    congr 1
    apply Array.ext
    · simp
    · intro i h1 h2
      simp at h1
      simp [h i h1]
  · rw [List.getElem?_set_ne (fun h => hk h.symm)] at hx
    exact hP k x hx
/-- the number of bits, as the library counts it -/
def pn_bc (x : Int32) : Int32 :=
  let x1 := x - (((x.toUInt32 >>> ((nI 1).toUInt32 &&& Int32.toUInt32 31)).toInt32) &&& 1431655765)
  let x2 := (x1 &&& 858993459) + (((x1.toUInt32 >>> ((nI 2).toUInt32 &&& Int32.toUInt32 31)).toInt32) &&& 858993459)
  let x3 := (x2 + ((x2.toUInt32 >>> ((nI 4).toUInt32 &&& Int32.toUInt32 31)).toInt32)) &&& 252645135
  let x4 := x3 + ((x3.toUInt32 >>> ((nI 8).toUInt32 &&& Int32.toUInt32 31)).toInt32)
  let x5 := x4 + ((x4.toUInt32 >>> ((nI 16).toUInt32 &&& Int32.toUInt32 31)).toInt32)
  x5 &&& nI 63
def pn_life (Y P S O : Nat → Int32) (n : Nat) (pa : Int32) : Nat → Int32 × Int32 × Int32 × Int32
  | 0 => ((-6), (-6), nI 0, nI 0)
  | k + 1 => if pn_sit P S O pa k = 0 ∨ ¬ pn_fy Y n k ≤ pn_ly Y n k then pn_life Y P S O n pa k else
      ((if (pn_life Y P S O n pa k).2.2.1 = 0 then pn_fy Y n k else (pn_life Y P S O n pa k).1), pn_ly Y n k, (pn_life Y P S O n pa k).2.2.1 + ((pn_ly Y n k - pn_fy Y n k) + nI 1), (pn_life Y P S O n pa k).2.2.2 ||| pn_sit P S O pa k)
def pn_lifeR (Y P S O : Nat → Int32) (n : Nat) (pa : Int32) (wh : Nat) : Int32 := match wh with
  | 0 => (pn_life Y P S O n pa (n + 1)).1
  | 1 => (pn_life Y P S O n pa (n + 1)).2.1
  | 2 => (pn_life Y P S O n pa (n + 1)).2.2.1
  | _ => pn_bc (pn_life Y P S O n pa (n + 1)).2.2.2
theorem pn_life_t {Y P S O : Nat → Int32} {n k : Nat} {pa f la lv ev hd : Int32} (e : (f, la, lv, ev) = pn_life Y P S O n pa k) (eh : hd = pn_sit P S O pa k) (h1 : ¬ hd = 0) (h2 : pn_fy Y n k ≤ pn_ly Y n k) : ((if lv = 0 then pn_fy Y n k else f), pn_ly Y n k, lv + ((pn_ly Y n k - pn_fy Y n k) + nI 1), ev ||| hd) = pn_life Y P S O n pa (k + 1) := by
  subst eh
  rw [pn_life, if_neg (c := pn_sit P S O pa k = 0 ∨ ¬ pn_fy Y n k ≤ pn_ly Y n k) (fun q => q.elim h1 (fun r => r h2)), ← e]
theorem pn_life_f {Y P S O : Nat → Int32} {n k : Nat} {pa f la lv ev : Int32} (e : (f, la, lv, ev) = pn_life Y P S O n pa k) (h : pn_sit P S O pa k = 0 ∨ ¬ pn_fy Y n k ≤ pn_ly Y n k) : (f, la, lv, ev) = pn_life Y P S O n pa (k + 1) := by
  rw [pn_life, if_pos h, ← e]
/-- the site t is otherwise in stage j, which holds, than in stage g -/
def pn_chg (K Y P S O : Nat → Int32) (N : Nat → Int64) (n t g j : Nat) : Prop := pn_fy Y n j ≤ pn_ly Y n j ∧ ¬ (pn_own S O t j = pn_own S O t g ∧ pn_nam K P O N (pn_own S O t j) j = pn_nam K P O N (pn_own S O t g) g)
noncomputable def pn_nxt (K Y P S O : Nat → Int32) (N : Nat → Int64) (n t g : Nat) : Nat := g + 1 + pn_cw (fun i => @decide (¬ pn_chg K Y P S O N n t g (g + 1 + i)) (Classical.propDecidable _)) (n - g)
theorem pn_nxt_eq {K Y P S O : Nat → Int32} {N : Nat → Int64} {n t g k : Nat} (hg : g ≤ n) (h0 : g + 1 ≤ k) (h1 : k ≤ n + 1) (h2 : ∀ i, g + 1 ≤ i → i < k → ¬ pn_chg K Y P S O N n t g i) (h3 : k = n + 1 ∨ pn_chg K Y P S O N n t g k) : k = pn_nxt K Y P S O N n t g := by
  unfold pn_nxt
  rw [pn_cw_eq (k := k - (g + 1)) (fun i hi => @decide_eq_true _ (Classical.propDecidable _) (h2 _ (by omega) (by omega))) (by omega) (by
    rcases h3 with h3 | h3
    · exact Or.inl (by omega)
    · refine Or.inr (fun q => ?_)
      have q := @of_decide_eq_true _ (Classical.propDecidable _) q
      rw [show g + 1 + (k - (g + 1)) = k by omega] at q
      exact q h3)]
  omega
theorem pn_lts {Q : Nat → Prop} {a k : Nat} (h : ∀ i, a ≤ i → i < k → ¬ Q i) (hk : ¬ Q k) : ∀ i, a ≤ i → i < k + 1 → ¬ Q i := by
  intro i h1 h2
  by_cases hi : i < k
  · exact h i h1 hi
  · obtain rfl : i = k := by omega
    exact hk
theorem pn_upk {R : Nat → Int32} {k : Nat} (h : ∀ i, i < k → R i = nI i) : ∀ i, i < k + 1 → upd R k (nI k) i = nI i := by
  intro i hi
  by_cases e : i = k
  · subst e; exact pk_us
  · rw [pk_un e]; exact h i (by omega)
theorem pn_row3 {R : Nat → Int32} {f : Nat → Nat} {j v : Nat} (h : ∀ t, t ≤ j → R t = nI (f t)) (e : v = f (j + 1)) : ∀ t, t ≤ j + 1 → upd R (j + 1) (nI v) t = nI (f t) := by
  intro t ht
  by_cases q : t = j + 1
  · subst q; rw [pk_us, e]
  · rw [pk_un q]; exact h t (by omega)
theorem pn_atH {D : va_G} {cl : List vw_C} {ws : va_W} {H : Heap} {t : State} (h : t.heap = H) (p : va_P D cl ws H) : va_P D cl ws t.heap := by rw [h]; exact p
theorem pn_lev_t {a b : Nat → Int32} {i j : Nat} (h : a i = b j) : min (pn_lev a b i j) (min (pn_lev a b i (j + 1)) (pn_lev a b (i + 1) j) + 1) = pn_lev a b (i + 1) (j + 1) := by rw [pn_lev_ss, if_pos h]
theorem pn_lev_f {a b : Nat → Int32} {i j : Nat} (h : ¬ a i = b j) : min (pn_lev a b i j + 1) (min (pn_lev a b i (j + 1)) (pn_lev a b (i + 1) j) + 1) = pn_lev a b (i + 1) (j + 1) := by rw [pn_lev_ss, if_neg h]
theorem pn_like0 {x y : Int64} {how : Int32} (h : how = 0) : pn_like x y how ↔ x = y := by
  unfold pn_like
  constructor
  · rintro (q | q | q)
    · exact q.2
    · rw [h] at q; exact absurd q.1 (by decide)
    · exact absurd h q.1
  · exact fun q => Or.inl ⟨h, q⟩
theorem pn_like1 {x y : Int64} {how : Int32} (h : how = nI 1) : pn_like x y how ↔ pn_snd x = pn_snd y := by
  unfold pn_like
  constructor
  · rintro (q | q | q)
    · rw [h] at q; exact absurd q.1 (by decide)
    · exact q.2
    · exact absurd h q.2.1
  · exact fun q => Or.inr (Or.inl ⟨h, q⟩)
theorem pn_like2 {x y : Int64} {how : Int32} (h : ¬ how = 0) (h1 : ¬ how = nI 1) : pn_like x y how ↔ pn_lev (pn_let x) (pn_let y) (pn_len x) (pn_len y) ≤ 1 := by
  unfold pn_like
  constructor
  · rintro (q | q | q)
    · exact absurd q.1 h
    · exact absurd q.1 h1
    · exact q.2.2
  · exact fun q => Or.inr (Or.inr ⟨h, h1, q⟩)
theorem pn_life_t1 {Y P S O : Nat → Int32} {n k : Nat} {pa f la lv ev : Int32} (e : (f, la, lv, ev) = pn_life Y P S O n pa k) (h1 : ¬ pn_sit P S O pa k = 0) (h2 : pn_fy Y n k ≤ pn_ly Y n k) (h3 : lv = 0) : (pn_fy Y n k, pn_ly Y n k, lv + ((pn_ly Y n k - pn_fy Y n k) + nI 1), ev ||| pn_sit P S O pa k) = pn_life Y P S O n pa (k + 1) := by
  have q := pn_life_t e rfl h1 h2
  rw [if_pos h3] at q
  exact q
theorem pn_life_t2 {Y P S O : Nat → Int32} {n k : Nat} {pa f la lv ev : Int32} (e : (f, la, lv, ev) = pn_life Y P S O n pa k) (h1 : ¬ pn_sit P S O pa k = 0) (h2 : pn_fy Y n k ≤ pn_ly Y n k) (h3 : ¬ lv = 0) : (f, pn_ly Y n k, lv + ((pn_ly Y n k - pn_fy Y n k) + nI 1), ev ||| pn_sit P S O pa k) = pn_life Y P S O n pa (k + 1) := by
  have q := pn_life_t e rfl h1 h2
  rw [if_neg h3] at q
  exact q
