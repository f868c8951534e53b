theorem pn_upc {f : Nat → Int32} {k : Nat} {v : Int32} (h : ∀ t, t < k → f t = v) : ∀ t, t < k + 1 → upd f k v t = v := by
  intro t ht
  by_cases e : t = k
  · subst e; exact pk_us
  · rw [pk_un e]; exact h t (by omega)
theorem pn_bit0 (t : Nat) : pn_bit 0 t = 0 := by
  unfold pn_bit
  have : (0 : Int32).toUInt32 = 0 := by decide
  rw [this, UInt32.zero_shiftRight]
  decide
theorem pn_ow0 {S O Ob : Nat → Int32} {e : Nat} (h : ∀ t, t < 12 → Ob t = pn_own S O t e) (hs : S e = 0) : ∀ t, t < 12 → Ob t = pn_own S O t (e + 1) := by
  intro t ht
  rw [pn_own, hs, if_neg (fun q => q (pn_bit0 t))]
  exact h t ht
theorem pn_nb0 {K P O Nc : Nat → Int32} {e pe : Nat} (h : ∀ q, q < 16 → Nc q = pn_nb K P O q e) (hk : K e = 0) (hp : P e = nI pe) (hpe : pe < 16 := by assumption) : ∀ q, q < 16 → upd Nc pe (nI e) q = pn_nb K P O q (e + 1) := by
  intro q hq
  rw [pn_nb, if_pos hk, hp]
  by_cases c : q = pe
  · subst c; rw [pk_us, if_pos rfl]
  · rw [pk_un c, if_neg (fun r => c ((nI_eq (by omega) (by omega)).mp r).symm)]; exact h q hq
theorem pn_nb1 {K P O Nc : Nat → Int32} {e oe : Nat} (h : ∀ q, q < 16 → Nc q = pn_nb K P O q e) (hk : ¬ K e = 0) (hk1 : K e = nI 1) (ho : O e = nI oe) (hoe : oe < 16 := by assumption) : ∀ q, q < 16 → upd Nc oe (nI e) q = pn_nb K P O q (e + 1) := by
  intro q hq
  rw [pn_nb, if_neg hk]
  by_cases c : q = oe
  · subst c; rw [pk_us, if_pos ⟨hk1, ho⟩]
  · rw [pk_un c, if_neg (fun r => by have r2 := r.2; rw [ho] at r2; exact c ((nI_eq (by omega) (by omega)).mp r2).symm)]; exact h q hq
theorem pn_nb2 {K P O Nc : Nat → Int32} {e : Nat} (h : ∀ q, q < 16 → Nc q = pn_nb K P O q e) (hk : ¬ K e = 0) (hk1 : ¬ K e = nI 1) : ∀ q, q < 16 → Nc q = pn_nb K P O q (e + 1) := by
  intro q hq
  rw [pn_nb, if_neg hk, if_neg (fun r => hk1 r.1)]; exact h q hq
theorem pn_owt {S O Oc : Nat → Int32} {t e : Nat} (h : ∀ x, x < t → Oc x = pn_own S O x (e + 1)) (hb : ((S e >>> (nI t &&& 31)) &&& nI 1) = nI 1) (ht : t < 31 := by omega) : ∀ x, x < t + 1 → upd Oc t (O e) x = pn_own S O x (e + 1) := by
  intro x hx
  by_cases c : x = t
  · subst c; rw [pk_us, pn_own, if_pos ((pn_bitS _ ht).mp hb)]
  · rw [pk_un c]; exact h x (by omega)
theorem pn_own' {S O Oc : Nat → Int32} {t e : Nat} (h : ∀ x, x < t → Oc x = pn_own S O x (e + 1)) (hb : ¬ ((S e >>> (nI t &&& 31)) &&& nI 1) = nI 1) (ht : t < 31 := by omega) : ∀ x, x < t + 1 → upd Oc t (pn_own S O t e) x = pn_own S O x (e + 1) := by
  intro x hx
  by_cases c : x = t
  · subst c; rw [pk_us, pn_own, if_neg (fun q => hb ((pn_bitS _ ht).mpr q))]
  · rw [pk_un c]; exact h x (by omega)
theorem pn_omt {f : Nat → Int32} {pa ac : Int32} {k : Nat} (e : ac = pn_om f pa k) (h : f k = pa) : (ac ||| (nI 1 <<< (nI k &&& 31))) = pn_om f pa (k + 1) := by rw [pn_om, if_pos h, e]
theorem pn_omf {f : Nat → Int32} {pa ac : Int32} {k : Nat} (e : ac = pn_om f pa k) (h : ¬ f k = pa) : (ac ||| nI 0) = pn_om f pa (k + 1) := by rw [pn_om, if_neg h, e]
theorem pn_cpN_out (St Pd : Nat → Int32) (e : Nat) : ∀ (sd i : Nat), (i < 150 + 8 * e ∨ 150 + 8 * e + sd ≤ i) → pn_cpN St Pd e sd i = St i := by
  intro sd
  induction sd with
  | zero => intro i _; rfl
  | succ k ih =>
    intro i h
    rw [pn_cpN, pk_un (by omega)]
    exact ih i (by omega)
theorem pn_tak_421 (St Pd : Nat → Int32) {n sd : Nat} (h : n < 30) (hs : sd ≤ 8) (kd yr wo se ow : Int32) : pn_takS (pn_addS St n kd yr wo se ow) Pd n sd 421 = St 421 := by
  unfold pn_takS
  rw [pk_un (by omega), pn_cpN_out _ _ _ _ _ (by omega)]
  unfold pn_addS
  rw [pk_un (by omega), pk_un (by omega), pk_un (by omega), pk_un (by omega), pk_un (by omega), pk_un (by omega)]
theorem pn_ev_fact {St K Y P S O : Nat → Int32} {N : Nat → Int64} {n F k w : Nat} (hR : pn_rel St K Y P S O N n F) (hk : k < n) (hw : w ≤ 4) : St (30 * w + k) = pn_factN K Y P S O k w := by
  have h5 : w = 0 ∨ w = 1 ∨ w = 2 ∨ w = 3 ∨ w = 4 := by omega
  rcases h5 with rfl | rfl | rfl | rfl | rfl
  · rw [show 30 * 0 + k = k by omega]; exact hR.K0 hk
  · exact hR.Y0 hk
  · exact hR.P0 hk
  · show St (90 + k) = if K k = 0 then (-6) else S k
    by_cases h0 : K k = 0
    · rw [if_pos h0]; exact (hR.S1 hk h0).2.2.1
    · rw [if_neg h0]; exact (hR.S0 hk h0).1
  · show St (120 + k) = if K k = 0 then (-6) else O k
    by_cases h0 : K k = 0
    · rw [if_pos h0]; exact (hR.S1 hk h0).2.2.2
    · rw [if_neg h0]; exact (hR.S0 hk h0).2.1
theorem pn_inN {n : Nat} {i : Int32} (hn : n ≤ 30) (h : ¬ i < nI 0 ∧ ¬ (nI n - nI 1) < i) : ∃ k, k < n ∧ i = nI k := by
  obtain ⟨h1, h2⟩ := h
  obtain ⟨k, hk, rfl⟩ := nI_of h1
  refine ⟨k, ?_, rfl⟩
  rw [fa_ltP, pk_sub_toInt (by omega) (by omega), nI_toInt hk] at h2
  omega
theorem pn_outN {n : Nat} {i : Int32} (hn : n ≤ 30) (h : ¬ (¬ i < nI 0 ∧ ¬ (nI n - nI 1) < i)) : i < 0 ∨ nI n ≤ i := by
  by_cases h1 : i < 0
  · exact Or.inl h1
  · refine Or.inr ?_
    by_cases h2 : (nI n - nI 1) < i
    · rw [fa_ltP, pk_sub_toInt (by omega) (by omega)] at h2
      rw [fa_leP, nI_toInt (by omega)]
      omega
    · exact absurd ⟨h1, h2⟩ h
/-- a parish that is there has the name that the reference tells -/
theorem pn_nin_0 {K Y P S O : Nat → Int32} {N : Nat → Int64} {n : Nat} {pa yr : Int32} (h : pn_sit P S O pa (pn_st Y yr n) = 0) : pn_nin K Y P S O N n pa yr = 0 := by unfold pn_nin; rw [if_pos h]
theorem pn_wn_0 {x : Int64} (h : pn_wn x) : ¬ x = 0 := by
  intro e
  rw [e] at h
  exact absurd h.1 (by decide +kernel)
theorem pn_nin_x {St K Y P S O : Nat → Int32} {N : Nat → Int64} {n F q : Nat} {yr : Int32} (hR : pn_rel St K Y P S O N n F) (hq : q < 16) (h : ¬ pn_sit P S O (nI q) (pn_st Y yr n) = 0) : pn_nin K Y P S O N n (nI q) yr = pn_mn K P O N q (pn_st Y yr n) ∧ ¬ pn_nin K Y P S O N n (nI q) yr = 0 := by
  have e : pn_nin K Y P S O N n (nI q) yr = pn_mn K P O N q (pn_st Y yr n) := by
    unfold pn_nin
    rw [if_neg h]
    exact pn_mn_eq hR (pn_st_le _ _ _) hq h
  exact ⟨e, by rw [e]; exact pn_wn_0 (pn_mn_wn hR q (pn_st_le _ _ _))⟩
theorem pn_nm1 {x : Int32} {k : Nat} (h : ¬ x < nI k) (hk : k < 2 ^ 31 := by omega) : ¬ x = (-1) := by
  intro e
  rw [e, fa_ltP, nI_toInt hk] at h
  have : ((-1 : Int32)).toInt = -1 := by decide
  omega
theorem pn_rel.O0 {St K Y P S O : Nat → Int32} {N : Nat → Int64} {n F i : Nat} (h : pn_rel St K Y P S O N n F) (hi : i < n) : St (120 + i) = O i := by
  by_cases h0 : K i = 0
  · rw [(h.S1 hi h0).2.2.2, (h.S1 hi h0).2.1]
  · exact (h.S0 hi h0).2.1
