section PNSP
variable {St K Y P S O : Nat → Int32} {N : Nat → Int64} {n F t : Nat}
theorem pn_sq_ge : ∀ i, (∀ j, j < i → pn_sq K Y P S O N n t j ≤ n) → i ≤ pn_sq K Y P S O N n t i := by
  intro i
  induction i with
  | zero => intro _; omega
  | succ i ih =>
    intro h
    have h1 := ih (fun j hj => h j (by omega))
    have h2 := (pn_nxt_in (K := K) (Y := Y) (P := P) (S := S) (O := O) (N := N) (t := t) (h i (by omega))).1
    show i + 1 ≤ pn_nxt K Y P S O N n t (pn_sq K Y P S O N n t i)
    omega
theorem pn_sm_lt {i : Nat} (h : i < pn_sm K Y P S O N n t) : pn_sq K Y P S O N n t i ≤ n := of_decide_eq_true (pn_cw_lt (fun j => decide (pn_sq K Y P S O N n t j ≤ n)) 32 i h)
theorem pn_sm_up (hn : n ≤ 30) {c : Nat} (h : c ≤ pn_sm K Y P S O N n t) (hc : pn_sq K Y P S O N n t c ≤ n) : c + 1 ≤ pn_sm K Y P S O N n t := by
  have h1 := pn_sq_ge (K := K) (Y := Y) (P := P) (S := S) (O := O) (N := N) (n := n) (t := t) c (fun j hj => pn_sm_lt (by omega))
  rcases Nat.lt_or_ge c (pn_sm K Y P S O N n t) with q | q
  · exact q
  · have e : pn_sm K Y P S O N n t = c := by omega
    have no := pn_cw_no (fun j => decide (pn_sq K Y P S O N n t j ≤ n)) 32 (by show pn_sm K Y P S O N n t < 32; omega)
    exact absurd (decide_eq_true (by show pn_sq K Y P S O N n t (pn_sm K Y P S O N n t) ≤ n; rw [e]; exact hc)) no
/-- what holds of the last span begun -/
theorem pn_sI_g (hR : pn_rel St K Y P S O N n F) {y c b : Nat} {pr : Int32} {nm : Int64} (hy : y ≤ 1000) (hc : 1 ≤ c) (h : pn_sI K Y P S O N n t y c b pr nm) : ∃ g, g = pn_sq K Y P S O N n t (c - 1) ∧ g ≤ n ∧ b < y ∧ pn_B Y n g = b ∧ b < pn_B Y n (g + 1) ∧ pr = pn_own S O t g ∧ nm = pn_nam K P O N (pn_own S O t g) g ∧ c ≤ pn_sm K Y P S O N n t ∧ (∀ z, b ≤ z → z < y → pn_owy Y S O n t z = pr ∧ pn_nmy K Y P S O N n t z = nm) := by
  rcases h with h | ⟨a1, a2, a3, a4, a5, a6, a7, a8⟩
  · omega
  · obtain ⟨j, hj, b1, b2, hst⟩ := pn_B_at hR (show b < 1000 by omega)
    have e : j = pn_sq K Y P S O N n t (c - 1) := hst.symm.trans a4
    have hle := pn_B_le hR j
    refine ⟨j, e, hj, a2, ?_, b2, ?_, ?_, a3, a8⟩
    · rw [← e, pn_fy_B hR hj] at a5
      exact (nI_eq (by omega) (by omega)).mp a5
    · rw [a6]; unfold pn_owy; rw [hst]
    · rw [a7]; unfold pn_nmy; rw [hst]
theorem pn_sI_i (hR : pn_rel St K Y P S O N n F) {y b g i : Nat} {pr : Int32} {nm : Int64} (hg : g ≤ n) (hb : b < pn_B Y n (g + 1)) (hpr : pr = pn_own S O t g) (hnm : nm = pn_nam K P O N (pn_own S O t g) g) (h8 : ∀ z, b ≤ z → z < y → pn_owy Y S O n t z = pr ∧ pn_nmy K Y P S O N n t z = nm) (h1 : g + 1 ≤ i) (hi : i ≤ n) (hlt : pn_B Y n i < y) : ¬ pn_chg K Y P S O N n t g i := by
  rintro ⟨c1, c2⟩
  rw [pn_hold_B hR hi] at c1
  have hm := pn_B_mon hR h1
  have hst := pn_st_B hR (y := pn_B Y n i) hi (Nat.le_refl _) c1
  obtain ⟨q1, q2⟩ := h8 (pn_B Y n i) (by omega) hlt
  unfold pn_owy at q1
  unfold pn_nmy at q2
  rw [hst] at q1 q2
  exact c2 ⟨by rw [q1, hpr], by rw [q2, hnm]⟩
/-- a change in year y begins the next span -/
theorem pn_sI_c (hR : pn_rel St K Y P S O N n F) {y c b : Nat} {pr : Int32} {nm : Int64} (hy : y ≤ 999) (hc : 1 ≤ c) (h : pn_sI K Y P S O N n t y c b pr nm) (h1 : ¬ (pn_owy Y S O n t y = pr ∧ pn_nmy K Y P S O N n t y = nm)) : pn_sq K Y P S O N n t c ≤ n ∧ pn_B Y n (pn_sq K Y P S O N n t c) = y ∧ pn_st Y (nI y) n = pn_sq K Y P S O N n t c := by
  obtain ⟨g, eg, hg, hby, hBg, hBg1, hpr, hnm, hsm, h8⟩ := pn_sI_g hR (by omega) hc h
  obtain ⟨j, hj, b1, b2, hst⟩ := pn_B_at hR (show y < 1000 by omega)
  have h1' : ¬ (pn_own S O t j = pn_own S O t g ∧ pn_nam K P O N (pn_own S O t j) j = pn_nam K P O N (pn_own S O t g) g) := by
    intro q
    apply h1
    unfold pn_owy pn_nmy
    rw [hst, hpr, hnm]
    exact q
  have hgj : g < j := by
    rcases Nat.lt_trichotomy g j with q | q | q
    · exact q
    · subst q; exact absurd ⟨rfl, rfl⟩ h1'
    · have := pn_B_mon hR (show j + 1 ≤ g by omega); omega
  have hmj := pn_B_mon hR (show g + 1 ≤ j by omega)
  have hBj : pn_B Y n j = y := by
    rcases Nat.lt_or_ge (pn_B Y n j) y with q | q
    · exact absurd ⟨(pn_hold_B hR hj).mpr (by omega), h1'⟩ (pn_sI_i hR hg hBg1 hpr hnm h8 (by omega) hj q)
    · omega
  have hnx : j = pn_nxt K Y P S O N n t g := pn_nxt_eq hg (by omega) (by omega) (fun i h1 h2 => by
    intro hch
    have hi : i ≤ n := by omega
    have hh := (pn_hold_B hR hi).mp hch.1
    have hm := pn_B_mon hR (show i + 1 ≤ j by omega)
    exact pn_sI_i hR hg hBg1 hpr hnm h8 h1 hi (by omega) hch) (Or.inr ⟨(pn_hold_B hR hj).mpr (by omega), h1'⟩)
  have hsq : pn_sq K Y P S O N n t c = j := by
    obtain ⟨d, rfl⟩ : ∃ d, c = d + 1 := ⟨c - 1, by omega⟩
    show pn_nxt K Y P S O N n t (pn_sq K Y P S O N n t d) = j
    rw [Nat.add_sub_cancel] at eg
    rw [← eg]; exact hnx.symm
  rw [hsq]
  exact ⟨hj, hBj, hst⟩
theorem pn_sI_n (hR : pn_rel St K Y P S O N n F) {y c b : Nat} {pr : Int32} {nm : Int64} (ht : t < 12) (hy : y ≤ 999) (h : pn_sI K Y P S O N n t y c b pr nm) (h1 : ¬ (pn_owy Y S O n t y = pr ∧ pn_nmy K Y P S O N n t y = nm)) : pn_sI K Y P S O N n t (y + 1) (c + 1) y (pn_owy Y S O n t y) (pn_nmy K Y P S O N n t y) := by
  have hlast : ∀ z, y ≤ z → z < y + 1 → pn_owy Y S O n t z = pn_owy Y S O n t y ∧ pn_nmy K Y P S O N n t z = pn_nmy K Y P S O N n t y := by
    intro z q1 q2
    obtain rfl : z = y := by omega
    exact ⟨rfl, rfl⟩
  have hle := pn_st_le Y (nI 0) n
  by_cases hc : 1 ≤ c
  · obtain ⟨g, eg, hg, hby, hBg, hBg1, hpr, hnm, hsm, h8⟩ := pn_sI_g hR (by omega) hc h
    obtain ⟨q1, q2, q3⟩ := pn_sI_c hR hy hc h h1
    refine Or.inr ⟨by omega, by omega, pn_sm_up hR.n30 hsm q1, ?_, ?_, rfl, rfl, hlast⟩
    · rw [Nat.add_sub_cancel]; exact q3
    · rw [Nat.add_sub_cancel, pn_fy_B hR q1, q2]
  · obtain rfl : c = 0 := by omega
    have hy0 : y = 0 := by
      rcases h with q | q
      · exact q.1
      · omega
    subst hy0
    obtain ⟨j, hj, b1, b2, hst⟩ := pn_B_at hR (show 0 < 1000 by omega)
    refine Or.inr ⟨by omega, by omega, pn_cw_gt (k := 0) (fun i hi => decide_eq_true ?_) (by omega), rfl, ?_, rfl, rfl, hlast⟩
    · obtain rfl : i = 0 := by omega
      exact hle
    · show pn_fy Y n (pn_st Y (nI 0) n) = nI 0
      rw [hst, pn_fy_B hR hj, show pn_B Y n j = 0 by omega]
theorem pn_spR_in (hR : pn_rel St K Y P S O N n F) {c w : Nat} {i : Int32} (hc : 1 ≤ c) (hsm : c ≤ pn_sm K Y P S O N n t) (hi : nI (c - 1) = i) : pn_spR K Y P S O N n t i w = pn_sf Y S O n t (pn_sq K Y P S O N n t (c - 1)) (pn_sq K Y P S O N n t c) w := by
  have h32 : pn_sm K Y P S O N n t ≤ 32 := pn_cw_le _ _
  unfold pn_spR
  have hcl : i.toNatClampNeg = c - 1 := by rw [← hi]; exact nI_clamp (by omega)
  rw [hcl, show c - 1 + 1 = c by omega, pn_in ?_]
  rw [← hi]
  rintro (q | q)
  · exact nI_ge (by omega) (by omega) q
  · exact nI_pos (by omega) q
theorem pn_sI_r (hR : pn_rel St K Y P S O N n F) {y c b : Nat} {pr i : Int32} {nm : Int64} (ht : t < 12) (hy : y ≤ 999) (h : pn_sI K Y P S O N n t y c b pr nm) (h1 : ¬ (pn_owy Y S O n t y = pr ∧ pn_nmy K Y P S O N n t y = nm)) (hc : 1 ≤ c) (hi : nI (c - 1) = i) : nI b = pn_spR K Y P S O N n t i 0 ∧ nI (y - 1) = pn_spR K Y P S O N n t i 1 ∧ pr = pn_spR K Y P S O N n t i 2 := by
  obtain ⟨g, eg, hg, hby, hBg, hBg1, hpr, hnm, hsm, h8⟩ := pn_sI_g hR (by omega) hc h
  obtain ⟨q1, q2, q3⟩ := pn_sI_c hR hy hc h h1
  rw [pn_spR_in hR hc hsm hi, pn_spR_in hR hc hsm hi, pn_spR_in hR hc hsm hi, ← eg]
  refine ⟨?_, ?_, ?_⟩
  · show _ = pn_fy Y n g
    rw [pn_fy_B hR hg, hBg]
  · show _ = if n < pn_sq K Y P S O N n t c then nI 999 else pn_fy Y n (pn_sq K Y P S O N n t c) - nI 1
    rw [if_neg (by omega), pn_fy_B hR q1, q2, pk_sub (by omega)]
  · show _ = pn_own S O t g
    exact hpr
theorem pn_sI_z (hR : pn_rel St K Y P S O N n F) {c b : Nat} {pr : Int32} {nm : Int64} (hc : 1 ≤ c) (h : pn_sI K Y P S O N n t 1000 c b pr nm) : pn_sq K Y P S O N n t c = n + 1 := by
  obtain ⟨g, eg, hg, hby, hBg, hBg1, hpr, hnm, hsm, h8⟩ := pn_sI_g hR (Nat.le_refl _) hc h
  have hnx : n + 1 = pn_nxt K Y P S O N n t g := pn_nxt_eq hg (by omega) (by omega) (fun i h1 h2 => by
    intro hch
    have hi : i ≤ n := by omega
    have hh := (pn_hold_B hR hi).mp hch.1
    have hm := pn_B_le hR (i + 1)
    exact pn_sI_i hR hg hBg1 hpr hnm h8 h1 hi (by omega) hch) (Or.inl rfl)
  obtain ⟨d, rfl⟩ : ∃ d, c = d + 1 := ⟨c - 1, by omega⟩
  show pn_nxt K Y P S O N n t (pn_sq K Y P S O N n t d) = n + 1
  rw [Nat.add_sub_cancel] at eg
  rw [← eg]; exact hnx.symm
theorem pn_sI_e (hR : pn_rel St K Y P S O N n F) {c b : Nat} {pr i : Int32} {nm : Int64} (ht : t < 12) (h : pn_sI K Y P S O N n t 1000 c b pr nm) (hi : nI (c - 1) = i) : nI b = pn_spR K Y P S O N n t i 0 ∧ nI 999 = pn_spR K Y P S O N n t i 1 ∧ pr = pn_spR K Y P S O N n t i 2 := by
  have hc := (pn_c1e h (by omega)).1
  obtain ⟨g, eg, hg, hby, hBg, hBg1, hpr, hnm, hsm, h8⟩ := pn_sI_g hR (Nat.le_refl _) hc h
  have hz := pn_sI_z hR hc h
  rw [pn_spR_in hR hc hsm hi, pn_spR_in hR hc hsm hi, pn_spR_in hR hc hsm hi, ← eg, hz]
  refine ⟨?_, ?_, ?_⟩
  · show _ = pn_fy Y n g
    rw [pn_fy_B hR hg, hBg]
  · show _ = if n < n + 1 then nI 999 else pn_fy Y n (n + 1) - nI 1
    rw [if_pos (by omega)]
  · show _ = pn_own S O t g
    exact hpr
theorem pn_sI_x (hR : pn_rel St K Y P S O N n F) {c b : Nat} {pr i : Int32} {nm : Int64} (ht : t < 12) (h : pn_sI K Y P S O N n t 1000 c b pr nm) (hl : ∀ d, 1 ≤ d → d ≤ c → ¬ nI (d - 1) = i) (w : Nat) : pn_if (i = (-1)) (nI c) (-6) = pn_spR K Y P S O N n t i w := by
  have hc := (pn_c1e h (by omega)).1
  obtain ⟨g, eg, hg, hby, hBg, hBg1, hpr, hnm, hsm, h8⟩ := pn_sI_g hR (Nat.le_refl _) hc h
  have hz := pn_sI_z hR hc h
  have h32 : pn_sm K Y P S O N n t ≤ 32 := pn_cw_le _ _
  have hm : pn_sm K Y P S O N n t = c := pn_cw_eq (fun j hj => decide_eq_true (pn_sm_lt (by omega))) (by omega) (Or.inr (by rw [decide_eq_true_iff, hz]; omega))
  unfold pn_spR
  rw [hm, pn_ip (pn_outR (by omega) (fun j hj => by have q := hl (j + 1) (by omega) (by omega); rw [Nat.add_sub_cancel] at q; exact q))]
end PNSP
