theorem pn_upc {f : Nat → Int32} {k : Nat} {v : Int32} (h : ∀ t, t < k → f t = v) : ∀ t, t < k + 1 → upd f k v t = v := by
  intro t ht
  by_cases e : t = k
  · subst e; exact pk_us
  · rw [pk_un e]; exact h t (by omega)
theorem pn_bit0 (t : Nat) : pn_bit 0 t = 0 := by
  unfold pn_bit
  have : (0 : Int32).toUInt32 = 0 := by decide
  rw [this, UInt32.zero_shiftRight]
  decide
theorem pn_ow0 {S O Ob : Nat → Int32} {e : Nat} (h : ∀ t, t < 12 → Ob t = pn_own S O t e) (hs : S e = 0) : ∀ t, t < 12 → Ob t = pn_own S O t (e + 1) := by
  intro t ht
  rw [pn_own, hs, if_neg (fun q => q (pn_bit0 t))]
  exact h t ht
theorem pn_nb0 {K P O Nc : Nat → Int32} {e pe : Nat} (h : ∀ q, q < 16 → Nc q = pn_nb K P O q e) (hk : K e = 0) (hp : P e = nI pe) (hpe : pe < 16 := by assumption) : ∀ q, q < 16 → upd Nc pe (nI e) q = pn_nb K P O q (e + 1) := by
  intro q hq
  rw [pn_nb, if_pos hk, hp]
  by_cases c : q = pe
  · subst c; rw [pk_us, if_pos rfl]
  · rw [pk_un c, if_neg (fun r => c ((nI_eq (by omega) (by omega)).mp r).symm)]; exact h q hq
theorem pn_nb1 {K P O Nc : Nat → Int32} {e oe : Nat} (h : ∀ q, q < 16 → Nc q = pn_nb K P O q e) (hk : ¬ K e = 0) (hk1 : K e = nI 1) (ho : O e = nI oe) (hoe : oe < 16 := by assumption) : ∀ q, q < 16 → upd Nc oe (nI e) q = pn_nb K P O q (e + 1) := by
  intro q hq
  rw [pn_nb, if_neg hk]
  by_cases c : q = oe
  · subst c; rw [pk_us, if_pos ⟨hk1, ho⟩]
  · rw [pk_un c, if_neg (fun r => by have r2 := r.2; rw [ho] at r2; exact c ((nI_eq (by omega) (by omega)).mp r2).symm)]; exact h q hq
theorem pn_nb2 {K P O Nc : Nat → Int32} {e : Nat} (h : ∀ q, q < 16 → Nc q = pn_nb K P O q e) (hk : ¬ K e = 0) (hk1 : ¬ K e = nI 1) : ∀ q, q < 16 → Nc q = pn_nb K P O q (e + 1) := by
  intro q hq
  rw [pn_nb, if_neg hk, if_neg (fun r => hk1 r.1)]; exact h q hq
/-- the bit of a set, as it is asked by a signed shift -/
theorem pn_bitS (x : Int32) {t : Nat} (ht : t < 31) : ((x >>> (nI t &&& 31)) &&& nI 1) = nI 1 ↔ ¬ pn_bit x t = 0 := by
  sorry
theorem pn_owt {S O Oc : Nat → Int32} {t e : Nat} (h : ∀ x, x < t → Oc x = pn_own S O x (e + 1)) (hb : ((S e >>> (nI t &&& 31)) &&& nI 1) = nI 1) (ht : t < 31 := by omega) : ∀ x, x < t + 1 → upd Oc t (O e) x = pn_own S O x (e + 1) := by
  intro x hx
  by_cases c : x = t
  · subst c; rw [pk_us, pn_own, if_pos ((pn_bitS _ ht).mp hb)]
  · rw [pk_un c]; exact h x (by omega)
theorem pn_own' {S O Oc : Nat → Int32} {t e : Nat} (h : ∀ x, x < t → Oc x = pn_own S O x (e + 1)) (hb : ¬ ((S e >>> (nI t &&& 31)) &&& nI 1) = nI 1) (ht : t < 31 := by omega) : ∀ x, x < t + 1 → upd Oc t (pn_own S O t e) x = pn_own S O x (e + 1) := by
  intro x hx
  by_cases c : x = t
  · subst c; rw [pk_us, pn_own, if_neg (fun q => hb ((pn_bitS _ ht).mpr q))]
  · rw [pk_un c]; exact h x (by omega)
theorem pn_omt {f : Nat → Int32} {pa ac : Int32} {k : Nat} (e : ac = pn_om f pa k) (h : f k = pa) : (ac ||| (nI 1 <<< (nI k &&& 31))) = pn_om f pa (k + 1) := by rw [pn_om, if_pos h, e]
theorem pn_omf {f : Nat → Int32} {pa ac : Int32} {k : Nat} (e : ac = pn_om f pa k) (h : ¬ f k = pa) : (ac ||| nI 0) = pn_om f pa (k + 1) := by rw [pn_om, if_neg h, e]
/-- the sites of a parish, told by their owners -/
theorem pn_om_eq {St K Y P S O : Nat → Int32} {N : Nat → Int64} {n F g : Nat} (hR : pn_rel St K Y P S O N n F) (hg : g ≤ n) (pa : Int32) : pn_om (fun t => pn_own S O t g) pa 12 = pn_sit P S O pa g := by
  sorry
