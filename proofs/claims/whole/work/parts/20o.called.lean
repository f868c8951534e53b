section PNYCE
variable {St K Y P S O : Nat → Int32} {N : Nat → Int64} {n F t a : Nat} {pd : Int64} {how : Int32}
theorem pn_yc_no (hR : pn_rel St K Y P S O N n F) {j d yc : Nat} {fs la : Int32} (hj : j ≤ n) (hB : pn_B Y n j ≤ a + d) (e : (yc, fs, la) = pn_yc K Y P S O N n t pd how a d) (hq : ¬ pn_like (pn_nam K P O N (pn_own S O t j) j) pd how) : ∀ x, a + d + x ≤ pn_B Y n (j + 1) → (yc, fs, la) = pn_yc K Y P S O N n t pd how a (d + x) := by
  intro x
  induction x with
  | zero => intro _; exact e
  | succ x ih =>
    intro hx
    have hst := pn_st_B hR (y := a + (d + x)) hj (by omega) (by omega)
    have hq2 : ¬ pn_like (pn_nmy K Y P S O N n t (a + (d + x))) pd how := by unfold pn_nmy; rw [hst]; exact hq
    exact pn_yc_n (ih (by omega)) hq2
theorem pn_yc_yes (hR : pn_rel St K Y P S O N n F) {j d yc : Nat} {fs la : Int32} (hj : j ≤ n) (hB : pn_B Y n j ≤ a + d) (e : (yc, fs, la) = pn_yc K Y P S O N n t pd how a d) (hq : pn_like (pn_nam K P O N (pn_own S O t j) j) pd how) : ∀ x, a + d + (x + 1) ≤ pn_B Y n (j + 1) → (yc + (x + 1), (if fs < 0 then nI (a + d) else fs), nI (a + d + x)) = pn_yc K Y P S O N n t pd how a (d + (x + 1)) := by
  intro x
  have hle := pn_B_le hR (j + 1)
  induction x with
  | zero =>
    intro hx
    have hst := pn_st_B hR (y := a + d) hj (by omega) (by omega)
    have hq2 : pn_like (pn_nmy K Y P S O N n t (a + d)) pd how := by unfold pn_nmy; rw [hst]; exact hq
    by_cases h0 : fs < 0
    · rw [if_pos h0]; exact pn_yc_1 e hq2 h0
    · rw [if_neg h0]; exact pn_yc_2 e hq2 (Int32.not_lt.mp h0)
  | succ x ih =>
    intro hx
    have hst := pn_st_B hR (y := a + (d + (x + 1))) hj (by omega) (by omega)
    have hq2 : pn_like (pn_nmy K Y P S O N n t (a + (d + (x + 1)))) pd how := by unfold pn_nmy; rw [hst]; exact hq
    have hf : 0 ≤ (if fs < 0 then nI (a + d) else fs) := by
      split
      · exact nI_pos' (by omega)
      · rename_i h; exact Int32.not_lt.mp h
    have q := pn_yc_2 (ih (by omega)) hq2 hf
    rw [show a + (d + (x + 1)) = a + d + (x + 1) by omega] at q
    exact q
theorem pn_cal_B (hR : pn_rel St K Y P S O N n F) {b : Nat} (hab : a ≤ b) (hb : b ≤ 999) : ∀ j, j ≤ n + 1 → ∃ (yc : Nat) (fs la : Int32), (yc, fs, la) = pn_yc K Y P S O N n t pd how a (min (max (pn_B Y n j) a) (b + 1) - a) ∧ pn_cal K Y P S O N n t pd (nI a) (nI b) how j = (nI yc, fs, la) ∧ (yc = 0 ↔ fs < 0) ∧ yc ≤ 1000 ∧ yc ≤ min (max (pn_B Y n j) a) (b + 1) := by
  intro j
  induction j with
  | zero =>
    intro _
    refine ⟨0, (-6), (-6), ?_, rfl, ⟨fun _ => by decide, fun _ => rfl⟩, by omega, by omega⟩
    rw [pn_B0, show min (max 0 a) (b + 1) - a = 0 by omega]
    rfl
  | succ j ih =>
    intro hj
    obtain ⟨yc, fs, la, e, hc, hz, hy, hy2⟩ := ih (by omega)
    have hj2 : j ≤ n := by omega
    have h1 := pn_B_le hR j
    have h2 := pn_B_le hR (j + 1)
    have hm := pn_B_mono hR j
    by_cases hask : max a (pn_B Y n j) < min (b + 1) (pn_B Y n (j + 1))
    · have e0 : min (max (pn_B Y n j) a) (b + 1) = max a (pn_B Y n j) := by omega
      have e1 : min (max (pn_B Y n (j + 1)) a) (b + 1) = min (b + 1) (pn_B Y n (j + 1)) := by omega
      rw [e0] at e hy2
      rw [e1]
      generalize hc0 : max a (pn_B Y n j) = c0 at *
      generalize hc1 : min (b + 1) (pn_B Y n (j + 1)) = c1 at *
      have hA := pn_ask_B hR hj2 (show a ≤ 999 by omega) hb
      rw [hc0, hc1] at hA
      by_cases hq : pn_like (pn_nam K P O N (pn_own S O t j) j) pd how
      · have q := pn_yc_yes hR hj2 (by omega) e hq (c1 - c0 - 1) (by omega)
        rw [show c0 - a + (c1 - c0 - 1 + 1) = c1 - a by omega, show a + (c0 - a) = c0 by omega] at q
        refine ⟨_, _, _, q, ?_, ?_, by omega, by omega⟩
        · rw [pn_cal, pn_ip ⟨hA.mpr (by omega), hq⟩, hc, pn_bg_B hR hj2 (by omega), pn_en_B hR hj2 hb, hc0, hc1]
          show (nI yc + ((nI c1 - nI 1 - nI c0) + nI 1), (if nI yc = 0 then nI c0 else fs), nI c1 - nI 1) = _
          have hzz : (nI yc = 0) ↔ fs < 0 := by
            rw [← hz, show (0 : Int32) = nI 0 from rfl, nI_eq (by omega) (by omega)]
          have x1 : (if nI yc = 0 then nI c0 else fs) = (if fs < 0 then nI c0 else fs) := by
            by_cases c : fs < 0
            · rw [if_pos c, if_pos (hzz.mpr c)]
            · rw [if_neg c, if_neg (fun r => c (hzz.mp r))]
          rw [x1, pk_sub (by omega), pk_sub (by omega), nI_add, nI_add]
          rw [show yc + (c1 - 1 - c0 + 1) = yc + (c1 - c0 - 1 + 1) by omega, show c1 - 1 = c0 + (c1 - c0 - 1) by omega]
        · constructor
          · intro q; omega
          · intro q
            exfalso
            split at q
            · exact nI_pos (by omega) q
            · rename_i c; exact c q
      · have q := pn_yc_no hR hj2 (by omega) e hq (c1 - c0) (by omega)
        rw [show c0 - a + (c1 - c0) = c1 - a by omega] at q
        refine ⟨yc, fs, la, q, ?_, hz, hy, by omega⟩
        rw [pn_cal, pn_in (fun r => hq r.2), hc]
    · have e1 : min (max (pn_B Y n (j + 1)) a) (b + 1) = min (max (pn_B Y n j) a) (b + 1) := by omega
      rw [e1]
      refine ⟨yc, fs, la, e, ?_, hz, hy, hy2⟩
      rw [pn_cal, pn_in (fun r => hask ((pn_ask_B hR hj2 (by omega) hb).mp r.1)), hc]
theorem pn_yc_end {b yc : Nat} {fs la : Int32} (hR : pn_rel St K Y P S O N n F) (ht : t < 12) (hab : a ≤ b) (hb : b ≤ 999) (e : (yc, fs, la) = pn_yc K Y P S O N n t pd how a (b + 1 - a)) : (nI yc, fs, la) = pn_cal K Y P S O N n t pd (nI a) (nI b) how (n + 1) := by
  obtain ⟨yc', fs', la', e', hc, -⟩ := pn_cal_B (t := t) (pd := pd) (how := how) hR hab hb (n + 1) (Nat.le_refl _)
  rw [pn_B_end, show min (max 1000 a) (b + 1) - a = b + 1 - a by omega, ← e] at e'
  simp only [Prod.mk.injEq] at e'
  obtain ⟨rfl, rfl, rfl⟩ := e'
  exact hc.symm
end PNYCE
