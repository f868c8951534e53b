theorem pn_tbS (x : Int32) {t : Nat} (ht : t < 31) : ((x >>> (nI t &&& 31)) &&& nI 1) = nI 1 ↔ pn_tb x t = true := by
  rw [pn_bitS x ht, pn_bit_bt' x (by omega)]
  rfl
section PNFS2
variable {K Y P S O : Nat → Int32} {N : Nat → Int64} {n F : Nat} {pd : Int64} {how : Int32} {a y k : Nat} {se : Int32}
theorem pn_fS_0 : pn_fS K Y P S O N n F pd how a a 0 (nI 0) := by
  intro p
  constructor
  · intro h
    have h2 : bt 0 p = true := h
    rw [b_0] at h2
    cases h2
  · rintro ⟨-, ⟨z, h1, h2, -⟩ | ⟨h, -⟩⟩
    · omega
    · omega
theorem pn_fS_t (h : pn_fS K Y P S O N n F pd how a y k se) (hk : k < F) (hF : F ≤ 16) (h1 : ¬ pn_sit P S O (nI k) (pn_st Y (nI y) n) = 0) (h2 : pn_like (pn_mn K P O N k (pn_st Y (nI y) n)) pd how) : pn_fS K Y P S O N n F pd how a y (k + 1) (se ||| (nI 1 <<< (nI k &&& 31))) := by
  intro p
  have hp := h p
  by_cases h32 : p < 32
  · have e : pn_tb (se ||| (nI 1 <<< (nI k &&& 31))) p = (pn_tb se p || decide (p = k)) := by
      show bt (se ||| (nI 1 <<< (nI k &&& 31))) p = (bt se p || _)
      rw [b_or, b_shl k (by omega) _ h32]
      congr 1
      by_cases c : k ≤ p
      · rw [pn_b1i _ (by omega)]
        by_cases d : p = k
        · subst d; simp
        · have : ¬ p - k = 0 := by omega
          simp [c, d, this]
      · have : ¬ p = k := by omega
        simp [c, this]
    rw [e, Bool.or_eq_true, decide_eq_true_iff, hp]
    constructor
    · rintro (⟨q1, q2 | ⟨q2, q3⟩⟩ | rfl)
      · exact ⟨q1, Or.inl q2⟩
      · exact ⟨q1, Or.inr ⟨by omega, q3⟩⟩
      · exact ⟨hk, Or.inr ⟨by omega, h1, h2⟩⟩
    · rintro ⟨q1, q2 | ⟨q2, q3⟩⟩
      · exact Or.inl ⟨q1, Or.inl q2⟩
      · by_cases c : p = k
        · exact Or.inr c
        · exact Or.inl ⟨q1, Or.inr ⟨by omega, q3⟩⟩
  · have e : pn_tb (se ||| (nI 1 <<< (nI k &&& 31))) p = false := b_big (by omega)
    rw [e]
    constructor
    · intro q; cases q
    · rintro ⟨q, -⟩; omega
theorem pn_fS_f (h : pn_fS K Y P S O N n F pd how a y k se) (h1 : ¬ pn_fq K Y P S O N n pd how y k) : pn_fS K Y P S O N n F pd how a y (k + 1) (se ||| nI 0) := by
  rw [pn_or0]
  intro p
  rw [h p]
  constructor
  · rintro ⟨q1, q2 | ⟨q2, q3⟩⟩
    · exact ⟨q1, Or.inl q2⟩
    · exact ⟨q1, Or.inr ⟨by omega, q3⟩⟩
  · rintro ⟨q1, q2 | ⟨q2, q3⟩⟩
    · exact ⟨q1, Or.inl q2⟩
    · by_cases c : p = k
      · subst c; exact absurd q3 h1
      · exact ⟨q1, Or.inr ⟨by omega, q3⟩⟩
theorem pn_fS_n (h : pn_fS K Y P S O N n F pd how a y k se) (ha : a ≤ y) (hk : F ≤ k) : pn_fS K Y P S O N n F pd how a (y + 1) 0 se := by
  intro p
  rw [h p]
  constructor
  · rintro ⟨q1, ⟨z, a1, a2, a3⟩ | ⟨q2, q3⟩⟩
    · exact ⟨q1, Or.inl ⟨z, a1, by omega, a3⟩⟩
    · exact ⟨q1, Or.inl ⟨y, ha, by omega, q3⟩⟩
  · rintro ⟨q1, ⟨z, a1, a2, a3⟩ | ⟨q2, -⟩⟩
    · by_cases c : z < y
      · exact ⟨q1, Or.inl ⟨z, a1, c, a3⟩⟩
      · obtain rfl : z = y := by omega
        exact ⟨q1, Or.inr ⟨by omega, a3⟩⟩
    · omega
end PNFS2
section PNAS
variable {St K Y P S O : Nat → Int32} {N : Nat → Int64} {n F : Nat}
theorem pn_bg_B (hR : pn_rel St K Y P S O N n F) {j a : Nat} (hj : j ≤ n) (ha : a ≤ 999) : pn_bg Y n (nI a) j = nI (max a (pn_B Y n j)) := by
  have := pn_B_le hR j
  unfold pn_bg
  rw [pn_fy_B hR hj, pn_maxI (by omega) (by omega)]
theorem pn_en_B (hR : pn_rel St K Y P S O N n F) {j b : Nat} (hj : j ≤ n) (hb : b ≤ 999) : pn_en Y n (nI b) j = nI (min (b + 1) (pn_B Y n (j + 1))) - nI 1 := by
  have h1 := pn_B_le hR (j + 1)
  unfold pn_en
  rw [pn_ly_B hR hj]
  by_cases h : pn_B Y n (j + 1) < b + 1
  · rw [if_pos (by rw [fa_ltP, pk_sub_toInt (by omega) (by omega), nI_toInt (by omega)]; omega), Nat.min_eq_right (by omega)]
  · rw [if_neg (by rw [fa_ltP, pk_sub_toInt (by omega) (by omega), nI_toInt (by omega)]; omega), Nat.min_eq_left (by omega), pk_sub (by omega)]
    congr 1
/-- a stage is asked for where its years meet those from a to b -/
theorem pn_ask_B (hR : pn_rel St K Y P S O N n F) {j a b : Nat} (hj : j ≤ n) (ha : a ≤ 999) (hb : b ≤ 999) : ¬ pn_en Y n (nI b) j < pn_bg Y n (nI a) j ↔ max a (pn_B Y n j) < min (b + 1) (pn_B Y n (j + 1)) := by
  have h1 := pn_B_le hR j
  have h2 := pn_B_le hR (j + 1)
  rw [pn_bg_B hR hj ha, pn_en_B hR hj hb, fa_ltP, pk_sub_toInt (by omega) (by omega), nI_toInt (by omega)]
  omega
theorem pn_was_y (hR : pn_rel St K Y P S O N n F) {a b p : Nat} {pd : Int64} {how : Int32} (hab : a ≤ b) (hb : b ≤ 999) (hp : p < 16) : pn_was K Y P S O N n (nI p) pd (nI a) (nI b) how ↔ ∃ z, a ≤ z ∧ z < b + 1 ∧ pn_fq K Y P S O N n pd how z p := by
  constructor
  · rintro ⟨j, hj, h1, h2, h3⟩
    rw [pn_ask_B hR hj (by omega) hb] at h1
    have hst := pn_st_B hR (y := max a (pn_B Y n j)) hj (by omega) (by omega)
    refine ⟨max a (pn_B Y n j), by omega, by omega, ?_, ?_⟩
    · rw [hst]; exact h2
    · rw [hst, ← pn_mn_eq hR hj hp h2]; exact h3
  · rintro ⟨z, h1, h2, h3, h4⟩
    obtain ⟨j, hj, b1, b2, hst⟩ := pn_B_at hR (show z < 1000 by omega)
    rw [hst] at h3 h4
    refine ⟨j, hj, ?_, h3, ?_⟩
    · rw [pn_ask_B hR hj (by omega) hb]; omega
    · rw [pn_mn_eq hR hj hp h3]; exact h4
theorem pn_cnt_cg {Q Q' : Nat → Prop} : ∀ {k : Nat}, (∀ p, p < k → (Q p ↔ Q' p)) → pn_cnt Q k = pn_cnt Q' k := by
  intro k
  induction k with
  | zero => intro _; rfl
  | succ k ih =>
    intro h
    have e := ih (fun p hp => h p (by omega))
    rw [pn_cnt, pn_cnt, e]
    by_cases c : Q k
    · rw [if_pos c, if_pos ((h k (by omega)).mp c)]
    · rw [if_neg c, if_neg (fun r => c ((h k (by omega)).mpr r))]
theorem pn_cnt_ex {Q : Nat → Prop} {F : Nat} (h : ∀ p, Q p → p < F) : ∀ {k : Nat}, F ≤ k → pn_cnt Q k = pn_cnt Q F := by
  intro k
  induction k with
  | zero => intro hk; obtain rfl : F = 0 := by omega
            rfl
  | succ k ih =>
    intro hk
    by_cases e : F = k + 1
    · rw [e]
    · rw [pn_cnt, if_neg (fun q => by have := h k q; omega)]
      exact ih (by omega)
theorem pn_fnd_eq {a b : Nat} {pd : Int64} {how i r se : Int32} (hR : pn_rel St K Y P S O N n F) (hab : a ≤ b) (hb : b ≤ 999) (h : pn_fS K Y P S O N n F pd how a (b + 1) 0 se) (hr : pn_fnd (fun p => pn_tb se p = true) 16 i r) : pn_fnd (fun b_1 => pn_was K Y P S O N n (nI b_1) pd (nI a) (nI b) how) F i r := by
  have hF := hR.F16
  have hQ : ∀ p, pn_tb se p = true ↔ p < F ∧ pn_was K Y P S O N n (nI p) pd (nI a) (nI b) how := by
    intro p
    rw [h p]
    constructor
    · rintro ⟨q1, q2 | ⟨q2, -⟩⟩
      · exact ⟨q1, (pn_was_y hR hab hb (by omega)).mpr q2⟩
      · omega
    · rintro ⟨q1, q2⟩
      exact ⟨q1, Or.inl ((pn_was_y hR hab hb (by omega)).mp q2)⟩
  have hc : ∀ k, k ≤ F → pn_cnt (fun p => pn_tb se p = true) k = pn_cnt (fun b_1 => pn_was K Y P S O N n (nI b_1) pd (nI a) (nI b) how) k := by
    intro k hk
    refine pn_cnt_cg (fun p hp => ?_)
    rw [hQ p]
    exact ⟨fun q => q.2, fun q => ⟨by omega, q⟩⟩
  rcases hr with ⟨j, hj, hq, he, hr⟩ | ⟨ha, hr⟩
  · have hq2 := (hQ j).mp hq
    refine Or.inl ⟨j, hq2.1, hq2.2, ?_, hr⟩
    rw [← hc j (by omega)]; exact he
  · refine Or.inr ⟨fun j hj hq => ?_, ?_⟩
    · rw [← hc j (by omega)]
      exact ha j (by omega) ((hQ j).mpr ⟨hj, hq⟩)
    · rw [hr, pn_cnt_ex (F := F) (fun p q => ((hQ p).mp q).1) hF, hc F (Nat.le_refl _)]
end PNAS
