section PNYE
variable {St K Y P S O : Nat → Int32} {N : Nat → Int64} {n F : Nat}
theorem pn_orI (a b : Int32) : ((a ||| b) ||| b) = (a ||| b) := by
  apply b_ext; intro i hi; rw [b_or, b_or]; cases bt a i <;> cases bt b i <;> rfl
theorem pn_or00 (a : Int32) : (a ||| 0) = a := by
  apply b_ext; intro i hi; rw [b_or, b_0]; simp
theorem pn_yl_st (hR : pn_rel St K Y P S O N n F) (pa : Int32) {j ct : Nat} {f la al : Int32} (hj : j ≤ n) (e : (f, la, ct, al) = pn_yl Y P S O n pa (pn_B Y n j)) : ∀ d, pn_B Y n j + d ≤ pn_B Y n (j + 1) → pn_yl Y P S O n pa (pn_B Y n j + d) = if pn_sit P S O pa j = 0 ∨ d = 0 then (f, la, ct, al) else ((if f < 0 then nI (pn_B Y n j) else f), nI (pn_B Y n j + d - 1), ct + d, (al ||| pn_sit P S O pa j)) := by
  intro d
  induction d with
  | zero => intro _; rw [if_pos (Or.inr rfl), e]; rfl
  | succ d ih =>
    intro hd
    have ih := ih (by omega)
    have hB := pn_B_le hR (j + 1)
    have hst := pn_st_B hR hj (show pn_B Y n j ≤ pn_B Y n j + d by omega) (by omega)
    show pn_yl Y P S O n pa (pn_B Y n j + d + 1) = _
    rw [pn_yl, hst]
    by_cases h0 : pn_sit P S O pa j = 0
    · rw [if_pos h0, if_pos (Or.inl h0), ih, if_pos (Or.inl h0), h0]
      show (f, la, ct, (al ||| 0)) = _
      rw [pn_or00]
    · rw [if_neg h0, if_neg (c := pn_sit P S O pa j = 0 ∨ d + 1 = 0) (fun q => q.elim h0 (fun r => by omega))]
      by_cases hd0 : d = 0
      · subst hd0
        rw [ih, if_pos (Or.inr rfl)]
        rfl
      · rw [ih, if_neg (c := pn_sit P S O pa j = 0 ∨ d = 0) (fun q => q.elim h0 hd0)]
        show ((if (if f < 0 then nI (pn_B Y n j) else f) < 0 then nI (pn_B Y n j + d) else (if f < 0 then nI (pn_B Y n j) else f)), nI (pn_B Y n j + d), ct + d + 1, ((al ||| pn_sit P S O pa j) ||| pn_sit P S O pa j)) = _
        rw [pn_orI]
        have hf : ¬ (if f < 0 then nI (pn_B Y n j) else f) < 0 := by
          split
          · exact nI_pos (by omega)
          · assumption
        rw [if_neg hf, show pn_B Y n j + (d + 1) - 1 = pn_B Y n j + d by omega, show ct + (d + 1) = ct + d + 1 by omega]
theorem pn_life_B (hR : pn_rel St K Y P S O N n F) (pa : Int32) : ∀ j, j ≤ n + 1 → ∃ (f la : Int32) (ct : Nat) (al : Int32), (f, la, ct, al) = pn_yl Y P S O n pa (pn_B Y n j) ∧ pn_life Y P S O n pa j = (f, la, nI ct, al) ∧ (ct = 0 ↔ f < 0) ∧ ct ≤ pn_B Y n j ∧ ∀ t, 12 ≤ t → t < 32 → bt al t = false := by
  intro j
  induction j with
  | zero => intro _; exact ⟨(-6), (-6), 0, nI 0, rfl, rfl, ⟨fun _ => by decide, fun _ => rfl⟩, by omega, fun t _ _ => b_0 t⟩
  | succ j ih =>
    intro hj
    obtain ⟨f, la, ct, al, e, hl, hcf, hct, hbt⟩ := ih (by omega)
    have hB := pn_B_le hR (j + 1)
    have hm := pn_B_mono hR j
    have hst := pn_yl_st hR pa (show j ≤ n by omega) e (pn_B Y n (j + 1) - pn_B Y n j) (by omega)
    rw [show pn_B Y n j + (pn_B Y n (j + 1) - pn_B Y n j) = pn_B Y n (j + 1) by omega] at hst
    have hho := pn_hold_B hR (show j ≤ n by omega)
    by_cases h0 : pn_sit P S O pa j = 0 ∨ pn_B Y n (j + 1) - pn_B Y n j = 0
    · rw [if_pos h0] at hst
      refine ⟨f, la, ct, al, hst.symm, ?_, hcf, by omega, hbt⟩
      rw [pn_life, if_pos (h0.elim Or.inl (fun q => Or.inr (by rw [hho]; omega))), hl]
    · rw [if_neg h0] at hst
      have hne : ¬ pn_sit P S O pa j = 0 := fun q => h0 (Or.inl q)
      have hlt : pn_B Y n j < pn_B Y n (j + 1) := by
        rcases Nat.lt_or_ge (pn_B Y n j) (pn_B Y n (j + 1)) with q | q
        · exact q
        · exact absurd (Or.inr (by omega)) h0
      refine ⟨_, _, _, _, hst.symm, ?_, ?_, by omega, fun t h1 h2 => ?_⟩
      · have q := pn_life_t hl.symm rfl hne (hho.mpr hlt)
        rw [← q, pn_fy_B hR (by omega), pn_ly_B hR (by omega)]
        have hz : (nI ct = 0) ↔ f < 0 := by
          rw [← hcf, show (0 : Int32) = nI 0 from rfl, nI_eq (by omega) (by omega)]
        have e1 : (if nI ct = 0 then nI (pn_B Y n j) else f) = (if f < 0 then nI (pn_B Y n j) else f) := by
          by_cases c : f < 0
          · rw [if_pos c, if_pos (hz.mpr c)]
          · rw [if_neg c, if_neg (fun r => c (hz.mp r))]
        have e2 : nI ct + ((nI (pn_B Y n (j + 1)) - nI 1 - nI (pn_B Y n j)) + nI 1) = nI (ct + (pn_B Y n (j + 1) - pn_B Y n j)) := by
          rw [pk_sub (by omega), pk_sub (by omega), nI_add, nI_add]
          congr 1
          omega
        have e3 : nI (pn_B Y n (j + 1)) - nI 1 = nI (pn_B Y n (j + 1) - 1) := pk_sub (by omega)
        rw [e1, e2, e3]
      · constructor
        · intro q; omega
        · intro q
          exfalso
          split at q
          · exact nI_pos (by omega) q
          · rename_i c; exact c q
      · rw [b_or, hbt t h1 h2, pn_sit_bt hR pa (show j ≤ n by omega) t h2, decide_eq_false (by omega)]
        rfl
theorem pn_bits_bc2 : ∀ a, a < 64 → ∀ b, b < 64 → pn_bits (nI (64 * a + b)) 16 = pn_bc (nI (64 * a + b)) := by decide +kernel
theorem pn_bits_bc : ∀ v, v < 4096 → pn_bits (nI v) 16 = pn_bc (nI v) := by
  intro v hv
  rw [show v = 64 * (v / 64) + v % 64 by omega]
  exact pn_bits_bc2 _ (by omega) _ (by omega)
theorem pn_yl_end {ct : Nat} {pa f la al : Int32} (hR : pn_rel St K Y P S O N n F) (e : (f, la, ct, al) = pn_yl Y P S O n pa 1000) : f = pn_lifeR Y P S O n pa 0 ∧ la = pn_lifeR Y P S O n pa 1 ∧ nI ct = pn_lifeR Y P S O n pa 2 ∧ pn_bits al 16 = pn_lifeR Y P S O n pa 4 := by
  obtain ⟨f', la', ct', al', e', hl, -, -, hbt⟩ := pn_life_B hR pa (n + 1) (Nat.le_refl _)
  rw [pn_B_end, ← e] at e'
  simp only [Prod.mk.injEq] at e'
  obtain ⟨rfl, rfl, rfl, rfl⟩ := e'
  refine ⟨?_, ?_, ?_, ?_⟩
  · show _ = (pn_life Y P S O n pa (n + 1)).1; rw [hl]
  · show _ = (pn_life Y P S O n pa (n + 1)).2.1; rw [hl]
  · show _ = (pn_life Y P S O n pa (n + 1)).2.2.1; rw [hl]
  · show _ = pn_bc (pn_life Y P S O n pa (n + 1)).2.2.2
    rw [hl]
    have ha : al' = al' &&& nI 4095 := by
      apply b_ext
      intro i hi
      rw [b_and, pn_4095 i hi]
      by_cases q : i < 12
      · simp [q]
      · rw [hbt i (by omega) hi]; rfl
    obtain ⟨v, hv, ev⟩ := pk_andE al' (m := nI 4095) 12 (by decide)
    rw [ev] at ha
    rw [ha]
    exact pn_bits_bc v (by omega)
end PNYE
