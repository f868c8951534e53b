def bt (x : Int32) (i : Nat) : Bool := x.toBitVec.getLsbD i
theorem b_ext {x y : Int32} (h : ∀ i, i < 32 → bt x i = bt y i) : x = y := Int32.toBitVec_inj.mp (BitVec.eq_of_getLsbD_eq (fun i hi => h i hi))
theorem b_or (x y : Int32) (i : Nat) : bt (x ||| y) i = (bt x i || bt y i) := by unfold bt; rw [Int32.toBitVec_or, BitVec.getLsbD_or]
theorem b_and (x y : Int32) (i : Nat) : bt (x &&& y) i = (bt x i && bt y i) := by unfold bt; rw [Int32.toBitVec_and, BitVec.getLsbD_and]
theorem b_xor (x y : Int32) (i : Nat) : bt (x ^^^ y) i = (bt x i ^^ bt y i) := by unfold bt; rw [Int32.toBitVec_xor, BitVec.getLsbD_xor]
theorem b_big {x : Int32} {i : Nat} (h : 32 ≤ i) : bt x i = false := BitVec.getLsbD_of_ge _ _ h
theorem b_255 (i : Nat) : bt 255 i = decide (i < 8) := by
  rcases Nat.lt_or_ge i 32 with h | h
  · exact (by decide +kernel : ∀ i, i < 32 → bt 255 i = decide (i < 8)) i h
  · rw [b_big h, decide_eq_false (by omega)]
theorem b_65535 (i : Nat) : bt 65535 i = decide (i < 16) := by
  rcases Nat.lt_or_ge i 32 with h | h
  · exact (by decide +kernel : ∀ i, i < 32 → bt 65535 i = decide (i < 16)) i h
  · rw [b_big h, decide_eq_false (by omega)]
theorem b_m1 : ∀ i, i < 32 → bt (-1) i = true := by decide +kernel
theorem b_0 (i : Nat) : bt 0 i = false := BitVec.getLsbD_zero
theorem s_l : ∀ n, n < 32 → ((nI n &&& 31).toBitVec.smod 32).toNat = n := by decide +kernel
theorem s_u : ∀ n, n < 32 → (((nI n).toUInt32 &&& Int32.toUInt32 31).toBitVec % 32).toNat = n := by decide +kernel
theorem b_shl (n : Nat) (hn : n < 32) (x : Int32) {i : Nat} (hi : i < 32) : bt (x <<< (nI n &&& 31)) i = (decide (n ≤ i) && bt x (i - n)) := by
  unfold bt
  rw [Int32.toBitVec_shiftLeft]
  show (x.toBitVec <<< ((nI n &&& 31).toBitVec.smod 32).toNat).getLsbD i = _
  rw [s_l n hn, BitVec.getLsbD_shiftLeft]
  rcases Nat.lt_or_ge i n with h | h
  · simp [h, Nat.not_le.mpr h]
  · simp [hi, h, Nat.not_lt.mpr h]
theorem b_ushr (n : Nat) (hn : n < 32) (x : Int32) (i : Nat) : bt ((x.toUInt32 >>> ((nI n).toUInt32 &&& Int32.toUInt32 31)).toInt32) i = bt x (n + i) := by
  show (x.toUInt32 >>> ((nI n).toUInt32 &&& Int32.toUInt32 31)).toBitVec.getLsbD i = x.toUInt32.toBitVec.getLsbD (n + i)
  rw [UInt32.toBitVec_shiftRight]
  show (x.toUInt32.toBitVec >>> (((nI n).toUInt32 &&& Int32.toUInt32 31).toBitVec % 32).toNat).getLsbD i = _
  rw [s_u n hn, BitVec.getLsbD_ushiftRight]
theorem b_sshr (n : Nat) (hn : n < 32) (x : Int32) {i : Nat} (hi : i < 32) : bt (x >>> (nI n &&& 31)) i = if n + i < 32 then bt x (n + i) else bt x 31 := by
  unfold bt
  rw [Int32.toBitVec_shiftRight]
  show (x.toBitVec.sshiftRight ((nI n &&& 31).toBitVec.smod 32).toNat).getLsbD i = _
  rw [s_l n hn, BitVec.getLsbD_sshiftRight, BitVec.msb_eq_getLsbD_last]
  simp [hi]
theorem b_shl8 (x : Int32) {i : Nat} (hi : i < 32) : bt (x <<< ((8 : Int32) &&& 31)) i = (decide (8 ≤ i) && bt x (i - 8)) := b_shl 8 (by omega) x hi
theorem b_shl16 (x : Int32) {i : Nat} (hi : i < 32) : bt (x <<< ((16 : Int32) &&& 31)) i = (decide (16 ≤ i) && bt x (i - 16)) := b_shl 16 (by omega) x hi
theorem b_shl24 (x : Int32) {i : Nat} (hi : i < 32) : bt (x <<< ((24 : Int32) &&& 31)) i = (decide (24 ≤ i) && bt x (i - 24)) := b_shl 24 (by omega) x hi
theorem b_sshr8 (x : Int32) {i : Nat} (hi : i < 32) : bt (x >>> ((8 : Int32) &&& 31)) i = if 8 + i < 32 then bt x (8 + i) else bt x 31 := b_sshr 8 (by omega) x hi

theorem pn_b1i : ∀ i, i < 32 → bt (nI 1) i = decide (i = 0) := by decide +kernel
theorem pn_and1 (y : Int32) : (y &&& nI 1) = 0 ↔ bt y 0 = false := by
  constructor
  · intro h
    have q := congrArg (fun z => bt z 0) h
    simp only [b_and, b_0, pn_b1i 0 (by omega)] at q
    simpa using q
  · intro h
    apply b_ext
    intro i hi
    rw [b_and, b_0, pn_b1i i hi]
    by_cases e : i = 0
    · subst e; rw [h]; rfl
    · simp [e]
theorem pn_and1' (y : Int32) : (y &&& nI 1) = nI 1 ↔ bt y 0 = true := by
  constructor
  · intro h
    have q := congrArg (fun z => bt z 0) h
    simp only [b_and, pn_b1i 0 (by omega)] at q
    simpa using q
  · intro h
    apply b_ext
    intro i hi
    rw [b_and, pn_b1i i hi]
    by_cases e : i = 0
    · subst e; rw [h]; rfl
    · simp [e]
theorem pn_bit_bt (x : Int32) {k : Nat} (hk : k < 32) : pn_bit x k = 0 ↔ bt x k = false := by
  unfold pn_bit
  rw [pn_and1, b_ushr k hk, Nat.add_zero]
theorem pn_bit_bt' (x : Int32) {k : Nat} (hk : k < 32) : ¬ pn_bit x k = 0 ↔ bt x k = true := by
  rw [pn_bit_bt x hk]
  cases bt x k <;> simp
theorem pn_bitS (x : Int32) {t : Nat} (ht : t < 31) : ((x >>> (nI t &&& 31)) &&& nI 1) = nI 1 ↔ ¬ pn_bit x t = 0 := by
  rw [pn_and1', b_sshr t (by omega) x (by omega), pn_bit_bt' x (by omega), if_pos (by omega), Nat.add_zero]
theorem pn_bt_nI (v : Nat) {i : Nat} (hi : i < 32) : bt (nI v) i = v.testBit i := by
  show (BitVec.ofNat 32 v).getLsbD i = _
  rw [BitVec.getLsbD_ofNat]
  simp [hi]
theorem pn_om_bt (f : Nat → Int32) (pa : Int32) : ∀ (k : Nat), k ≤ 31 → ∀ t, t < 32 → bt (pn_om f pa k) t = decide (t < k ∧ f t = pa) := by
  intro k
  induction k with
  | zero => intro _ t ht; rw [pn_om, show nI 0 = 0 from rfl, b_0]; simp
  | succ k ih =>
    intro hk t ht
    rw [pn_om, b_or, ih (by omega) t ht]
    by_cases h : f k = pa
    · rw [if_pos h, b_shl k (by omega) _ ht]
      by_cases e : t = k
      · subst e
        rw [pn_b1i _ (by omega)]
        simp [h]
      · by_cases q : k ≤ t
        · rw [pn_b1i _ (by omega)]
          have : ¬ (t - k = 0) := by omega
          have h3 : ¬ t < k := by omega
          have h4 : ¬ t < k + 1 := by omega
          simp [this, h3, h4]
        · have h3 : t < k + 1 := by omega
          have h4 : t < k := by omega
          simp [q, h3, h4]
    · rw [if_neg h, show nI 0 = 0 from rfl, b_0]
      by_cases e : t = k
      · subst e; simp [h]
      · rw [Bool.or_false]
        exact decide_eq_decide.mpr ⟨fun q => ⟨by omega, q.2⟩, fun q => ⟨by omega, q.2⟩⟩
theorem pn_4095 : ∀ t, t < 32 → bt (nI 4095) t = decide (t < 12) := by decide +kernel
theorem pn_se_bt {x : Int32} (h : pn_se x) {t : Nat} (ht : t < 32) (h12 : 12 ≤ t) : bt x t = false := by
  obtain ⟨v, hv, rfl⟩ := pn_ofK h.1 h.2 (by decide)
  rw [pn_bt_nI v ht]
  exact Nat.testBit_lt_two_pow (Nat.lt_of_lt_of_le (show v < 2 ^ 12 by omega) (Nat.pow_le_pow_right (by omega) h12))
theorem pn_sit_bt {St K Y P S O : Nat → Int32} {N : Nat → Int64} {n F : Nat} (hR : pn_rel St K Y P S O N n F) (pa : Int32) : ∀ {g : Nat}, g ≤ n → ∀ t, t < 32 → bt (pn_sit P S O pa g) t = decide (t < 12 ∧ pn_own S O t g = pa) := by
  intro g
  induction g with
  | zero =>
    intro _ t ht
    show bt (pn_sit0 pa) t = decide (t < 12 ∧ nI 0 = pa)
    unfold pn_sit0
    by_cases h : pa = 0
    · rw [if_pos h, pn_4095 t ht]
      have : nI 0 = pa := by rw [h]; rfl
      simp [this]
    · rw [if_neg h, show nI 0 = 0 from rfl, b_0]
      have : ¬ (0 : Int32) = pa := fun q => h q.symm
      simp [this]
  | succ k ih =>
    intro hg t ht
    have ih := ih (by omega) t ht
    have hev := (hR.ev (show k < n by omega)).2.2.2.2.2.1
    rw [pn_sit, pn_own]
    unfold pn_sitT
    rcases hev with ⟨h0, hs, ho, -, -⟩ | ⟨-, hse, -, -, -, hne, -, hset⟩
    · rw [hs, ho, if_neg (show ¬ ¬ pn_bit 0 t = 0 from fun q => q (by rw [pn_bit_bt 0 ht, b_0]))]
      rw [← ih]
      split
      · rw [b_and, b_xor, b_0, b_m1 t ht]; simp
      · split
        · rw [b_or, b_0]; simp
        · rfl
    · by_cases hb : bt (S k) t = true
      · have h12 : t < 12 := by
          rcases Nat.lt_or_ge t 12 with q | q
          · exact q
          · rw [pn_se_bt hse ht q] at hb; cases hb
        have hpb := (pn_bit_bt' (S k) ht).mpr hb
        rw [if_pos hpb]
        have hown := hset t h12 hpb
        by_cases hp : P k = pa
        · rw [if_pos hp, b_and, b_xor, hb, b_m1 t ht]
          have : ¬ O k = pa := fun q => hne (q.trans hp.symm)
          simp [this]
        · rw [if_neg hp]
          by_cases ho : O k = pa
          · rw [if_pos ho, b_or, hb]; simp [h12, ho]
          · rw [if_neg ho, ih, hown]; simp [hp, ho]
      · have hbf : bt (S k) t = false := by cases q : bt (S k) t; rfl; exact absurd q hb
        rw [if_neg (fun q => hb ((pn_bit_bt' (S k) ht).mp q))]
        rw [← ih]
        split
        · rw [b_and, b_xor, hbf, b_m1 t ht]; simp
        · split
          · rw [b_or, hbf]; simp
          · rfl
theorem pn_om_eq {St K Y P S O : Nat → Int32} {N : Nat → Int64} {n F g : Nat} (hR : pn_rel St K Y P S O N n F) (hg : g ≤ n) (pa : Int32) : pn_om (fun t => pn_own S O t g) pa 12 = pn_sit P S O pa g := by
  apply b_ext
  intro t ht
  rw [pn_om_bt _ _ 12 (by omega) t ht, pn_sit_bt hR pa hg t ht]
theorem pn_own_fc {St K Y P S O : Nat → Int32} {N : Nat → Int64} {n F : Nat} (hR : pn_rel St K Y P S O N n F) (t : Nat) (ht : t < 32) : ∀ {g : Nat}, g ≤ n → ∃ o, o < pn_fc K g ∧ pn_own S O t g = nI o := by
  intro g
  induction g with
  | zero => intro _; exact ⟨0, by unfold pn_fc; omega, rfl⟩
  | succ k ih =>
    intro hg
    rw [pn_own]
    by_cases hb : ¬ pn_bit (S k) t = 0
    · rw [if_pos hb]
      rcases (hR.ev (show k < n by omega)).2.2.2.2.2.1 with ⟨-, hs, -⟩ | ⟨-, -, -, -, ho, -⟩
      · rw [hs] at hb; exact absurd (by rw [pn_bit_bt 0 ht, b_0]) hb
      · exact ho
    · rw [if_neg hb]
      obtain ⟨o, h1, h2⟩ := ih (by omega)
      exact ⟨o, Nat.lt_of_lt_of_le h1 (pn_fc_mono K (Nat.le_succ k)), h2⟩
theorem pn_fcF {St K Y P S O : Nat → Int32} {N : Nat → Int64} {n F g : Nat} (hR : pn_rel St K Y P S O N n F) (hg : g ≤ n) : pn_fc K g ≤ F := by
  rw [hR.2.1]; exact pn_fc_mono K hg
theorem pn_own_n {St K Y P S O : Nat → Int32} {N : Nat → Int64} {n F : Nat} (hR : pn_rel St K Y P S O N n F) (t : Nat) {g : Nat} (hg : g ≤ n) (ht : t < 32 := by omega) : ∃ o, o < 16 ∧ pn_own S O t g = nI o := by
  obtain ⟨o, h1, h2⟩ := pn_own_fc hR t ht hg
  have := pn_fcF hR hg
  have := hR.F16
  exact ⟨o, by omega, h2⟩
theorem pn_sit_ne {St K Y P S O : Nat → Int32} {N : Nat → Int64} {n F g q : Nat} (hR : pn_rel St K Y P S O N n F) (hg : g ≤ n) (hq : q < 2 ^ 30) (h : ¬ pn_sit P S O (nI q) g = 0) : q < pn_fc K g := by
  by_cases hh : ∃ t, t < 12 ∧ pn_own S O t g = nI q
  · obtain ⟨t, ht, e⟩ := hh
    obtain ⟨o, h1, h2⟩ := pn_own_fc hR t (by omega) hg
    have := pn_fcF hR hg
    have := hR.F16
    have := (nI_eq (by omega) (by omega)).mp (e.symm.trans h2)
    omega
  · exfalso
    apply h
    apply b_ext
    intro t ht
    rw [pn_sit_bt hR _ hg t ht, b_0, decide_eq_false (fun r => hh ⟨t, r⟩)]
theorem pn_mn_fc {St K Y P S O : Nat → Int32} {N : Nat → Int64} {n F q : Nat} (hR : pn_rel St K Y P S O N n F) (hq : q < 16) : ∀ {g : Nat}, g ≤ n → q < pn_fc K g → pn_nam K P O N (nI q) g = pn_mn K P O N q g := by
  intro g
  induction g with
  | zero =>
    intro _ h
    have : q = 0 := by unfold pn_fc at h; rw [pn_cnt] at h; omega
    subst this
    show pn_nam0 (nI 0) = _
    unfold pn_nam0
    rw [if_pos (show nI 0 = 0 from rfl)]
    rfl
  | succ k ih =>
    intro hg h
    rw [pn_nam, pn_mn]
    by_cases hk : q < pn_fc K k
    · rw [ih (by omega) hk]
    · have hk1 : K k = nI 1 := by
        apply Classical.byContradiction
        intro c
        have : pn_fc K (k + 1) = pn_fc K k := by unfold pn_fc; rw [pn_cnt, if_neg c]
        omega
      have hfc : pn_fc K (k + 1) = pn_fc K k + 1 := by unfold pn_fc; rw [pn_cnt, if_pos hk1]; omega
      have hqe : q = pn_fc K k := by omega
      have hO : O k = nI q := by
        rcases (hR.ev (show k < n by omega)).2.2.2.2.2.1 with ⟨h0, -⟩ | ⟨-, -, -, -, -, -, ho, -⟩
        · rw [hk1] at h0; exact absurd h0 (by decide)
        · rw [ho hk1, hqe]
      unfold pn_namT
      rw [if_neg (fun r => by rw [hk1] at r; exact absurd r.1 (by decide)), if_pos ⟨hk1, hO⟩, if_neg (fun r => by rw [hk1] at r; exact absurd r.1 (by decide)), if_pos ⟨hk1, hO⟩]
theorem pn_mn_eq {St K Y P S O : Nat → Int32} {N : Nat → Int64} {n F g q : Nat} (hR : pn_rel St K Y P S O N n F) (hg : g ≤ n) (hq : q < 16) (h : ¬ pn_sit P S O (nI q) g = 0) : pn_nam K P O N (nI q) g = pn_mn K P O N q g :=
  pn_mn_fc hR hq hg (pn_sit_ne hR hg (by omega) h)
theorem pn_wnA : pn_wn (pn_wl 0 0 (nI 97)) := by
  have h1 : pn_len (pn_wl 0 0 (nI 97)) = 1 := by decide +kernel
  refine ⟨by rw [h1]; omega, fun j hj => ⟨97, by omega, by omega, ?_⟩, fun j hj h8 => ?_⟩
  · rw [h1] at hj
    obtain rfl : j = 0 := by omega
    decide +kernel
  · rw [h1] at hj
    have : ∀ j, j < 8 → 1 ≤ j → pn_let (pn_wl 0 0 (nI 97)) j = 0 := by decide +kernel
    exact this j h8 hj
theorem pn_mn_wn {St K Y P S O : Nat → Int32} {N : Nat → Int64} {n F : Nat} (hR : pn_rel St K Y P S O N n F) (q : Nat) : ∀ {g : Nat}, g ≤ n → pn_wn (pn_mn K P O N q g) := by
  intro g
  induction g with
  | zero => intro _; exact pn_wnA
  | succ k ih =>
    intro hg
    rw [pn_mn]
    unfold pn_namT
    split
    · rename_i h; exact (hR.nm (show k < n by omega) (Or.inl h.1)).1
    · split
      · rename_i h; exact (hR.nm (show k < n by omega) (Or.inr h.1)).1
      · exact ih (by omega)
theorem pn_own_nam {St K Y P S O : Nat → Int32} {N : Nat → Int64} {n F t g o : Nat} (hR : pn_rel St K Y P S O N n F) (hg : g ≤ n) (ht : t < 12) (ho : o < 16) (e : pn_own S O t g = nI o) : pn_nam K P O N (pn_own S O t g) g = pn_mn K P O N o g := by
  rw [e]
  obtain ⟨o2, h1, h2⟩ := pn_own_fc hR t (by omega) hg
  have h3 := pn_fcF hR hg
  have h4 := hR.F16
  have := (nI_eq (by omega) (by omega)).mp (e.symm.trans h2)
  exact pn_mn_fc hR ho hg (by omega)
