/-! the reference's one row of ints, held against the class's events -/
theorem pn_bcg {P Q : Prop} (h : P ↔ Q) : pn_b P = pn_b Q := by rw [show P = Q from propext h]
/-- how many parishes there are behind the first k events -/
noncomputable def pn_fc (K : Nat → Int32) (k : Nat) : Nat := 1 + pn_cnt (fun j => K j = nI 1) k
/-- a name: 1 to 8 letters, nothing behind them -/
def pn_wn (x : Int64) : Prop := 1 ≤ pn_len x ∧ (∀ j, j < pn_len x → ∃ c : Nat, 97 ≤ c ∧ c ≤ 122 ∧ pn_let x j = nI c) ∧ ∀ j, pn_len x ≤ j → j < 8 → pn_let x j = 0
def pn_ev (St K Y P S O : Nat → Int32) (N : Nat → Int64) (i : Nat) : Prop :=
  St i = K i ∧ St (30 + i) = Y i ∧ St (60 + i) = P i ∧ pn_yr (Y i) ∧ (∃ p, p < pn_fc K i ∧ P i = nI p) ∧
  ((K i = 0 ∧ S i = 0 ∧ O i = (-6) ∧ St (90 + i) = (-6) ∧ St (120 + i) = (-6)) ∨
   ((K i = nI 1 ∨ K i = nI 2 ∨ K i = nI 3) ∧ pn_se (S i) ∧ St (90 + i) = S i ∧ St (120 + i) = O i ∧ (∃ o, o < pn_fc K (i + 1) ∧ O i = nI o) ∧ ¬ O i = P i ∧ (K i = nI 1 → O i = nI (pn_fc K i)) ∧ ∀ t, t < 12 → ¬ pn_bit (S i) t = 0 → pn_own S O t i = P i)) ∧
  ((K i = 0 ∨ K i = nI 1) → pn_wn (N i) ∧ St (390 + i) = nI (pn_len (N i)) ∧ ∀ j, j < pn_len (N i) → St (150 + 8 * i + j) = pn_let (N i) j)
def pn_rel (St K Y P S O : Nat → Int32) (N : Nat → Int64) (n F : Nat) : Prop :=
  n ≤ 30 ∧ F = pn_fc K n ∧ F ≤ 16 ∧ St 420 = nI n ∧ St 421 = nI F ∧ (∀ i, i + 1 < n → Y i ≤ Y (i + 1)) ∧ ∀ i, i < n → pn_ev St K Y P S O N i
/-- the pad -/
def pn_pad (Pd : Nat → Int32) (sd : Nat) (pd : Int64) : Prop := sd = pn_len pd ∧ (pd = 0 ∨ pn_wn pd) ∧ ∀ j, j < sd → Pd j = pn_let pd j
theorem pn_fc_mono (K : Nat → Int32) : ∀ {a b : Nat}, a ≤ b → pn_fc K a ≤ pn_fc K b := by
  intro a b h
  induction b with
  | zero => obtain rfl : a = 0 := by omega
            exact Nat.le_refl _
  | succ b ih =>
    by_cases e : a = b + 1
    · subst e; exact Nat.le_refl _
    · have := ih (by omega)
      have q : pn_fc K b ≤ pn_fc K (b + 1) := by
        unfold pn_fc
        rw [pn_cnt]
        split <;> omega
      omega
section PNREL
variable {St K Y P S O : Nat → Int32} {N : Nat → Int64} {n F : Nat}
theorem pn_rel.n30 (h : pn_rel St K Y P S O N n F) : n ≤ 30 := h.1
theorem pn_rel.F1 (h : pn_rel St K Y P S O N n F) : 1 ≤ F := by rw [h.2.1]; unfold pn_fc; omega
theorem pn_rel.F16 (h : pn_rel St K Y P S O N n F) : F ≤ 16 := h.2.2.1
theorem pn_rel.n0 (h : pn_rel St K Y P S O N n F) : St 420 = nI n := h.2.2.2.1
theorem pn_rel.F0 (h : pn_rel St K Y P S O N n F) : St 421 = nI F := h.2.2.2.2.1
theorem pn_rel.ev (h : pn_rel St K Y P S O N n F) {i : Nat} (hi : i < n) : pn_ev St K Y P S O N i := h.2.2.2.2.2.2 i hi
theorem pn_rel.K0 (h : pn_rel St K Y P S O N n F) {i : Nat} (hi : i < n) : St i = K i := (h.ev hi).1
theorem pn_rel.Y0 (h : pn_rel St K Y P S O N n F) {i : Nat} (hi : i < n) : St (30 + i) = Y i := (h.ev hi).2.1
theorem pn_rel.P0 (h : pn_rel St K Y P S O N n F) {i : Nat} (hi : i < n) : St (60 + i) = P i := (h.ev hi).2.2.1
theorem pn_rel.P1 (h : pn_rel St K Y P S O N n F) {i : Nat} (hi : i < n) : ∃ p, p < 16 ∧ P i = nI p := by
  obtain ⟨p, hp, e⟩ := (h.ev hi).2.2.2.2.1
  exact ⟨p, Nat.lt_of_lt_of_le hp (Nat.le_trans (pn_fc_mono K (Nat.le_of_lt hi)) (by rw [← h.2.1]; exact h.F16)), e⟩
theorem pn_rel.S0 (h : pn_rel St K Y P S O N n F) {i : Nat} (hi : i < n) (hk : ¬ K i = 0) : St (90 + i) = S i ∧ St (120 + i) = O i ∧ ∃ o, o < 16 ∧ O i = nI o := by
  rcases (h.ev hi).2.2.2.2.2.1 with q | q
  · exact absurd q.1 hk
  · obtain ⟨o, ho, e⟩ := q.2.2.2.2.1
    exact ⟨q.2.2.1, q.2.2.2.1, o, Nat.lt_of_lt_of_le ho (Nat.le_trans (pn_fc_mono K hi) (by rw [← h.2.1]; exact h.F16)), e⟩
theorem pn_rel.S1 (h : pn_rel St K Y P S O N n F) {i : Nat} (hi : i < n) (hk : K i = 0) : S i = 0 ∧ O i = (-6) ∧ St (90 + i) = (-6) ∧ St (120 + i) = (-6) := by
  rcases (h.ev hi).2.2.2.2.2.1 with q | q
  · exact q.2
  · rcases q.1 with r | r | r <;> (rw [hk] at r; exact absurd r (by decide))
theorem pn_rel.nm (h : pn_rel St K Y P S O N n F) {i : Nat} (hi : i < n) (hk : K i = 0 ∨ K i = nI 1) : pn_wn (N i) ∧ St (390 + i) = nI (pn_len (N i)) ∧ ∀ j, j < pn_len (N i) → St (150 + 8 * i + j) = pn_let (N i) j := (h.ev hi).2.2.2.2.2.2 hk
end PNREL
/-- the event by which a parish is named -/
def pn_nb (K P O : Nat → Int32) (q : Nat) : Nat → Int32
  | 0 => (-6)
  | k + 1 => if K k = 0 then (if P k = nI q then nI k else pn_nb K P O q k) else if K k = nI 1 ∧ O k = nI q then nI k else pn_nb K P O q k
/-- the name as the reference tells it: a where none was told -/
def pn_mn (K P O : Nat → Int32) (N : Nat → Int64) (q : Nat) : Nat → Int64
  | 0 => pn_wl 0 0 (nI 97)
  | k + 1 => pn_namT K P O N k (nI q) (pn_mn K P O N q k)
theorem pn_nb_n {K P O : Nat → Int32} {N : Nat → Int64} {q g : Nat} (hg : g ≤ 30) (h : ¬ 0 ≤ pn_nb K P O q g) : pn_mn K P O N q g = pn_wl 0 0 (nI 97) := by
  induction g with
  | zero => rfl
  | succ k ih =>
    have hp : (0 : Int32) ≤ nI k := nI_pos' (by omega)
    rw [pn_nb] at h
    rw [pn_mn]
    unfold pn_namT
    by_cases h0 : K k = 0
    · rw [if_pos h0] at h
      by_cases h1 : P k = nI q
      · rw [if_pos h1] at h; exact absurd hp h
      · rw [if_neg h1] at h
        rw [if_neg (fun r => h1 r.2), if_neg (fun r => by rw [h0] at r; exact absurd r.1 (by decide))]
        exact ih (by omega) h
    · rw [if_neg h0] at h
      by_cases h1 : K k = nI 1 ∧ O k = nI q
      · rw [if_pos h1] at h; exact absurd hp h
      · rw [if_neg h1] at h
        rw [if_neg (fun r => h0 r.1), if_neg h1]
        exact ih (by omega) h
theorem pn_nb_p {K P O : Nat → Int32} {q g : Nat} (N : Nat → Int64) (h : 0 ≤ pn_nb K P O q g) : ∃ i, i < g ∧ pn_nb K P O q g = nI i ∧ pn_mn K P O N q g = N i ∧ (K i = 0 ∨ K i = nI 1) := by
  induction g with
  | zero => exact absurd (show (0 : Int32) ≤ (-6) from h) (by decide)
  | succ k ih =>
    rw [pn_nb] at h ⊢
    rw [pn_mn]
    unfold pn_namT
    by_cases h0 : K k = 0
    · rw [if_pos h0] at h ⊢
      by_cases h1 : P k = nI q
      · rw [if_pos h1, if_pos ⟨h0, h1⟩]
        exact ⟨k, by omega, rfl, rfl, Or.inl h0⟩
      · rw [if_neg h1] at h ⊢
        rw [if_neg (fun r => h1 r.2), if_neg (fun r => by rw [h0] at r; exact absurd r.1 (by decide))]
        obtain ⟨i, a, b⟩ := ih h
        exact ⟨i, by omega, b⟩
    · rw [if_neg h0] at h ⊢
      by_cases h1 : K k = nI 1 ∧ O k = nI q
      · rw [if_pos h1, if_neg (fun r => h0 r.1), if_pos h1]
        exact ⟨k, by omega, rfl, rfl, Or.inr h1.1⟩
      · rw [if_neg h1] at h ⊢
        rw [if_neg (fun r => h0 r.1), if_neg h1]
        obtain ⟨i, a, b⟩ := ih h
        exact ⟨i, by omega, b⟩
/-- the set of the sites whose owner is pa -/
def pn_om (f : Nat → Int32) (pa : Int32) : Nat → Int32
  | 0 => nI 0
  | k + 1 => pn_om f pa k ||| (if f k = pa then nI 1 <<< (nI k &&& 31) else nI 0)
/-- the rows that add and takeName write -/
def pn_addS (St : Nat → Int32) (n : Nat) (kd yr wo se ow : Int32) : Nat → Int32 := upd (upd (upd (upd (upd (upd St n kd) (30 + n) yr) (60 + n) wo) (90 + n) se) (120 + n) ow) 420 (nI (n + 1))
def pn_cpN (St Pd : Nat → Int32) (e : Nat) : Nat → (Nat → Int32)
  | 0 => St
  | k + 1 => upd (pn_cpN St Pd e k) ((150 + (8 * e)) + k) (Pd k)
def pn_takS (St Pd : Nat → Int32) (e sd : Nat) : Nat → Int32 := upd (pn_cpN St Pd e sd) (390 + e) (nI sd)
theorem pn_addS_420 (St : Nat → Int32) {n : Nat} (h : n < 30) (kd yr wo se ow : Int32) : upd (upd (upd (upd (upd St n kd) (30 + n) yr) (60 + n) wo) (90 + n) se) (120 + n) ow 420 = St 420 := by
  rw [pk_un (by omega), pk_un (by omega), pk_un (by omega), pk_un (by omega), pk_un (by omega)]
/-- a world of the reference: what it keeps; what it lays aside for a call is free -/
def pn_isM (cI cZ : ClassId) (m0 m1 m2 m3 m4 m5 m6 m7 m8 m9 ma mb : Nat) (St Im Kp Pd : Nat → Int32) (sd : Nat) (u : va_W) : Prop :=
  ∃ (Ow Nb Fi : Nat → Int32) (fl : Nat) (Se : Nat → Int32) (sl : Nat) (Fs : Nat → Int32) (fc : Nat) (Ss : Nat → Int32) (sc : Nat) (Co : Nat → Int32),
    u = [(m0, .inr (3, [.ref m1, .ref m2, .ref m3, .ref m4, .int (nI sd), .ref m5, .ref m6, .ref m7, .int (nI fl), .ref m8, .int (nI sl), .ref m9, .int (nI fc), .ref ma, .int (nI sc), .ref mb])), (m1, .inl (cI, 422, .inl St)), (m2, .inl (cI, 844, .inl Im)), (m3, .inl (cZ, 2, .inl Kp)), (m4, .inl (cI, 8, .inl Pd)), (m5, .inl (cI, 12, .inl Ow)), (m6, .inl (cI, 16, .inl Nb)), (m7, .inl (cI, 8, .inl Fi)), (m8, .inl (cI, 8, .inl Se)), (m9, .inl (cI, 4, .inl Fs)), (ma, .inl (cI, 4, .inl Ss)), (mb, .inl (cI, 81, .inl Co))]
theorem pn_knI {F : Nat} {pa : Int32} (h1 : 1 ≤ F) (h2 : F ≤ 16) : (¬ pa < nI 0 ∧ ¬ nI (F - 1) < pa) ↔ pn_kn F pa := by
  unfold pn_kn
  simp only [fa_ltP, fa_leP, nI_toInt (show F - 1 < 2 ^ 31 by omega), nI_toInt (show F < 2 ^ 31 by omega), show ((nI 0).toInt) = 0 from by decide, show ((0 : Int32).toInt) = 0 from by decide]
  omega
theorem pn_siI {tt : Int32} : (¬ tt < nI 0 ∧ ¬ nI 11 < tt) ↔ pn_si tt := by
  unfold pn_si
  simp only [fa_ltP, fa_leP, show ((nI 11).toInt) = 11 from by decide, show ((nI 12).toInt) = 12 from by decide, show ((nI 0).toInt) = 0 from by decide, show ((0 : Int32).toInt) = 0 from by decide]
  omega
theorem pn_sayI {x : Int32} : ¬ (¬ x < nI 97 ∧ ¬ nI 122 < x) ↔ (x < nI 97 ∨ ¬ x ≤ nI 122) := by
  simp only [fa_ltP, fa_leP]
  omega
theorem pn_4I {x : Int32} : ¬ (¬ x < nI 0 ∧ ¬ nI 4 < x) ↔ (x < 0 ∨ ¬ x ≤ nI 4) := by
  simp only [fa_ltP, fa_leP, show ((nI 0).toInt) = 0 from by decide, show ((0 : Int32).toInt) = 0 from by decide]
  omega
theorem pn_kkI {x : Int32} : ¬ (¬ x < nI 0 ∧ ¬ nI 1 < x) ↔ (x < 0 ∨ ¬ x < nI 2) := by
  simp only [fa_ltP, show ((nI 0).toInt) = 0 from by decide, show ((0 : Int32).toInt) = 0 from by decide, show ((nI 1).toInt) = 1 from by decide, show ((nI 2).toInt) = 2 from by decide]
  omega
theorem pn_wh2 {x : Int32} : ¬ (¬ x < nI 0 ∧ ¬ nI 2 < x) ↔ (x < 0 ∨ ¬ x ≤ nI 2) := by
  simp only [fa_ltP, fa_leP, show ((nI 0).toInt) = 0 from by decide, show ((0 : Int32).toInt) = 0 from by decide]
  omega
theorem pn_pad0 {Pd : Nat → Int32} {sd : Nat} {pd : Int64} (h : pn_pad Pd sd pd) : sd = 0 ↔ pd = 0 := by
  obtain ⟨h1, h2, -⟩ := h
  constructor
  · intro e
    rcases h2 with q | q
    · exact q
    · have := q.1; omega
  · intro e
    rw [h1, e]
    decide +kernel
theorem pn_pad8 {Pd : Nat → Int32} {sd : Nat} {pd : Int64} (h : pn_pad Pd sd pd) : sd ≤ 8 := by rw [h.1]; exact pn_len8 pd
