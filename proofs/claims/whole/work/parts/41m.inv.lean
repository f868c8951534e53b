/-! what the calls that change something leave behind: the relation goes on -/
theorem pn_ifn {C : Prop} {a : Int32} {b : Option Int32} (h : pn_if C (some a) b = none) : ¬ C ∧ b = none := by
  by_cases q : C
  · rw [pn_ip q] at h; cases h
  · rw [pn_in q] at h; exact ⟨q, h⟩
theorem pn_cnt_cq {Q R : Nat → Prop} : ∀ {k : Nat}, (∀ i, i < k → (Q i ↔ R i)) → pn_cnt Q k = pn_cnt R k := by
  intro k
  induction k with
  | zero => intro _; rfl
  | succ k ih =>
    intro h
    have e := ih (fun i hi => h i (by omega))
    have hk := h k (by omega)
    by_cases c : Q k
    · rw [pn_cnt, if_pos c, pn_cnt, if_pos (hk.mp c), e]
    · rw [pn_cnt, if_neg c, pn_cnt, if_neg (fun r => c (hk.mpr r)), e]
theorem pn_fc_cg {K K' : Nat → Int32} {k : Nat} (h : ∀ i, i < k → K i = K' i) : pn_fc K k = pn_fc K' k := by
  unfold pn_fc
  rw [pn_cnt_cq (fun i hi => by rw [h i hi])]
theorem pn_own_cg {S S' O O' : Nat → Int32} (t : Nat) : ∀ {k : Nat}, (∀ i, i < k → S i = S' i) → (∀ i, i < k → O i = O' i) → pn_own S O t k = pn_own S' O' t k := by
  intro k
  induction k with
  | zero => intro _ _; rfl
  | succ k ih =>
    intro h1 h2
    have e := ih (fun i hi => h1 i (by omega)) (fun i hi => h2 i (by omega))
    rw [pn_own, pn_own, h1 k (by omega), h2 k (by omega), e]
theorem pn_ev_cg {St St' K K' Y Y' P P' S S' O O' : Nat → Int32} {N N' : Nat → Int64} {i : Nat} (h : pn_ev St K Y P S O N i) (hs : ∀ j, (j = i ∨ j = 30 + i ∨ j = 60 + i ∨ j = 90 + i ∨ j = 120 + i ∨ j = 390 + i ∨ (150 + 8 * i ≤ j ∧ j < 158 + 8 * i)) → St' j = St j) (hk : ∀ j, j ≤ i → K' j = K j ∧ Y' j = Y j ∧ P' j = P j ∧ S' j = S j ∧ O' j = O j ∧ N' j = N j) : pn_ev St' K' Y' P' S' O' N' i := by
  have f1 : pn_fc K' i = pn_fc K i := pn_fc_cg (fun j hj => (hk j (by omega)).1)
  have f2 : pn_fc K' (i + 1) = pn_fc K (i + 1) := pn_fc_cg (fun j hj => (hk j (by omega)).1)
  have ow : ∀ t, pn_own S' O' t i = pn_own S O t i := fun t => pn_own_cg t (fun j hj => (hk j (by omega)).2.2.2.1) (fun j hj => (hk j (by omega)).2.2.2.2.1)
  obtain ⟨k1, k2, k3, k4, k5, k6⟩ := hk i (Nat.le_refl _)
  obtain ⟨a1, a2, a3, a4, a5, a6, a7⟩ := h
  refine ⟨?_, ?_, ?_, ?_, ?_, ?_, ?_⟩
  · rw [hs i (Or.inl rfl), k1]; exact a1
  · rw [hs (30 + i) (by omega), k2]; exact a2
  · rw [hs (60 + i) (by omega), k3]; exact a3
  · rw [k2]; exact a4
  · rw [k3, f1]; exact a5
  · rw [k1, k4, k5, k3, f1, f2, hs (90 + i) (by omega), hs (120 + i) (by omega)]
    rcases a6 with q | ⟨q1, q2, q3, q4, q5, q6, q7, q8⟩
    · exact Or.inl q
    · exact Or.inr ⟨q1, q2, q3, q4, q5, q6, q7, fun t ht hb => by rw [ow t]; exact q8 t ht hb⟩
  · rw [k1, k6]
    intro hh
    obtain ⟨b1, b2, b3⟩ := a7 hh
    refine ⟨b1, ?_, fun j hj => ?_⟩
    · rw [hs (390 + i) (by omega)]; exact b2
    · have := pn_len8 (N i)
      rw [hs (150 + 8 * i + j) (by omega)]; exact b3 j hj
section PNINVM
variable {St K Y P S O : Nat → Int32} {N : Nat → Int64} {n F : Nat}
theorem pn_rel_cg {St' : Nat → Int32} (hR : pn_rel St K Y P S O N n F) (h : ∀ i, i < 422 → St' i = St i) : pn_rel St' K Y P S O N n F := by
  have hn := hR.n30
  refine ⟨hR.1, hR.2.1, hR.2.2.1, ?_, ?_, hR.2.2.2.2.2.1, fun i hi => ?_⟩
  · rw [h 420 (by omega)]; exact hR.n0
  · rw [h 421 (by omega)]; exact hR.F0
  · exact pn_ev_cg (hR.ev hi) (fun j hj => h j (by omega)) (fun j _ => ⟨rfl, rfl, rfl, rfl, rfl, rfl⟩)
theorem pn_fc_old (hR : pn_rel St K Y P S O N n F) (kd : Int32) : pn_fc (upd K n kd) n = F := by
  rw [hR.2.1]; exact pn_fc_cg (fun i hi => pk_un (by omega))
theorem pn_fc_1 (hR : pn_rel St K Y P S O N n F) {kd : Int32} (h : kd = nI 1) : pn_fc (upd K n kd) (n + 1) = F + 1 := by
  have e := pn_fc_old hR kd
  have u : upd K n kd n = nI 1 := by rw [pk_us]; exact h
  unfold pn_fc at e ⊢
  rw [pn_cnt, if_pos u]
  omega
theorem pn_fc_0 (hR : pn_rel St K Y P S O N n F) {kd : Int32} (h : ¬ kd = nI 1) : pn_fc (upd K n kd) (n + 1) = F := by
  have e := pn_fc_old hR kd
  have u : ¬ upd K n kd n = nI 1 := by rw [pk_us]; exact h
  unfold pn_fc at e ⊢
  rw [pn_cnt, if_neg u]
  omega
theorem pn_ev_new (hR : pn_rel St K Y P S O N n F) {St' : Nat → Int32} {kd yr pa se ow sse sow : Int32} {nm : Int64}
    (c1 : St' n = kd) (c2 : St' (30 + n) = yr) (c3 : St' (60 + n) = pa) (c4 : St' (90 + n) = sse) (c5 : St' (120 + n) = sow) (hyr : pn_yr yr) (hpa : ∃ p, p < F ∧ pa = nI p)
    (hmid : (kd = 0 ∧ se = 0 ∧ ow = (-6) ∧ sse = (-6) ∧ sow = (-6)) ∨ ((kd = nI 1 ∨ kd = nI 2 ∨ kd = nI 3) ∧ pn_se se ∧ sse = se ∧ sow = ow ∧ (∃ o, o < pn_fc (upd K n kd) (n + 1) ∧ ow = nI o) ∧ ¬ ow = pa ∧ (kd = nI 1 → ow = nI F) ∧ ∀ t, t < 12 → ¬ pn_bit se t = 0 → pn_own S O t n = pa))
    (hnm : (kd = 0 ∨ kd = nI 1) → pn_wn nm ∧ St' (390 + n) = nI (pn_len nm) ∧ ∀ j, j < pn_len nm → St' (150 + 8 * n + j) = pn_let nm j) : pn_ev St' (upd K n kd) (upd Y n yr) (upd P n pa) (upd S n se) (upd O n ow) (vp_updL N n nm) n := by
  have f1 := pn_fc_old hR kd
  have w : ∀ t, pn_own (upd S n se) (upd O n ow) t n = pn_own S O t n := fun t => pn_own_cg t (fun j hj => pk_un (by omega)) (fun j hj => pk_un (by omega))
  have u1 : upd K n kd n = kd := pk_us
  have u2 : upd Y n yr n = yr := pk_us
  have u3 : upd P n pa n = pa := pk_us
  have u4 : upd S n se n = se := pk_us
  have u5 : upd O n ow n = ow := pk_us
  have u6 : vp_updL N n nm n = nm := pk_uLs
  refine ⟨?_, ?_, ?_, ?_, ?_, ?_, ?_⟩
  · rw [u1]; exact c1
  · rw [u2]; exact c2
  · rw [u3]; exact c3
  · rw [u2]; exact hyr
  · rw [u3, f1]; exact hpa
  · rw [u1, u4, u5, u3, f1, c4, c5]
    rcases hmid with q | ⟨q1, q2, q3, q4, q5, q6, q7, q8⟩
    · exact Or.inl q
    · exact Or.inr ⟨q1, q2, q3, q4, q5, q6, q7, fun t ht hb => by rw [w t]; exact q8 t ht hb⟩
  · rw [u1, u6]; exact hnm
theorem pn_rel_add (hR : pn_rel St K Y P S O N n F) (hn : n < 30) {St' : Nat → Int32} {kd yr pa se ow : Int32} {nm : Int64} {F' : Nat}
    (hs : ∀ j, j < 420 → ¬ (j = n ∨ j = 30 + n ∨ j = 60 + n ∨ j = 90 + n ∨ j = 120 + n ∨ j = 390 + n ∨ (150 + 8 * n ≤ j ∧ j < 158 + 8 * n)) → St' j = St j)
    (h420 : St' 420 = nI (n + 1)) (h421 : St' 421 = nI F') (hF' : F' = pn_fc (upd K n kd) (n + 1)) (hF16 : F' ≤ 16) (hy : pn_lY Y n ≤ yr)
    (hev : pn_ev St' (upd K n kd) (upd Y n yr) (upd P n pa) (upd S n se) (upd O n ow) (vp_updL N n nm) n) : pn_rel St' (upd K n kd) (upd Y n yr) (upd P n pa) (upd S n se) (upd O n ow) (vp_updL N n nm) (n + 1) F' := by
  refine ⟨by omega, hF', hF16, h420, h421, fun i hi => ?_, fun i hi => ?_⟩
  · by_cases e : i + 1 = n
    · rw [pk_un (show i ≠ n by omega), e, pk_us]
      unfold pn_lY at hy
      rw [if_neg (by omega), show n - 1 = i by omega] at hy
      exact hy
    · rw [pk_un (show i ≠ n by omega), pk_un e]
      exact hR.2.2.2.2.2.1 i (by omega)
  · by_cases e : i = n
    · subst e; exact hev
    · exact pn_ev_cg (hR.ev (by omega)) (fun j hj => hs j (by omega) (by omega)) (fun j hj => ⟨pk_un (by omega), pk_un (by omega), pk_un (by omega), pk_un (by omega), pk_un (by omega), pk_uLn (by omega)⟩)
theorem pn_cpN_in (St Pd : Nat → Int32) (e : Nat) : ∀ (sd j : Nat), j < sd → pn_cpN St Pd e sd (150 + 8 * e + j) = Pd j := by
  intro sd
  induction sd with
  | zero => intro j h; exact absurd h (Nat.not_lt_zero _)
  | succ k ih =>
    intro j h
    rw [pn_cpN]
    by_cases e2 : j = k
    · subst e2; exact pk_us
    · rw [pk_un (by omega)]; exact ih j (by omega)
section ADDS
variable {a b c d e : Int32}
theorem pn_addS_o {j : Nat} (h : ¬ (j = n ∨ j = 30 + n ∨ j = 60 + n ∨ j = 90 + n ∨ j = 120 + n ∨ j = 420)) : pn_addS St n a b c d e j = St j := by
  unfold pn_addS
  rw [pk_un (by omega), pk_un (by omega), pk_un (by omega), pk_un (by omega), pk_un (by omega), pk_un (by omega)]
theorem pn_addS_0 (h : n < 30) : pn_addS St n a b c d e n = a := by
  unfold pn_addS
  rw [pk_un (by omega), pk_un (by omega), pk_un (by omega), pk_un (by omega), pk_un (by omega), pk_us]
theorem pn_addS_1 (h : n < 30) : pn_addS St n a b c d e (30 + n) = b := by
  unfold pn_addS
  rw [pk_un (by omega), pk_un (by omega), pk_un (by omega), pk_un (by omega), pk_us]
theorem pn_addS_2 (h : n < 30) : pn_addS St n a b c d e (60 + n) = c := by
  unfold pn_addS
  rw [pk_un (by omega), pk_un (by omega), pk_un (by omega), pk_us]
theorem pn_addS_3 (h : n < 30) : pn_addS St n a b c d e (90 + n) = d := by
  unfold pn_addS
  rw [pk_un (by omega), pk_un (by omega), pk_us]
theorem pn_addS_4 (h : n < 30) : pn_addS St n a b c d e (120 + n) = e := by
  unfold pn_addS
  rw [pk_un (by omega), pk_us]
theorem pn_addS_5 : pn_addS St n a b c d e 420 = nI (n + 1) := by
  unfold pn_addS
  exact pk_us
end ADDS
theorem pn_takS_o {Pd : Nat → Int32} {sd j : Nat} (hs : sd ≤ 8) (h : ¬ (j = 390 + n ∨ (150 + 8 * n ≤ j ∧ j < 158 + 8 * n))) : pn_takS St Pd n sd j = St j := by
  unfold pn_takS
  rw [pk_un (by omega), pn_cpN_out _ _ _ _ _ (by omega)]
theorem pn_takS_l {Pd : Nat → Int32} {sd : Nat} : pn_takS St Pd n sd (390 + n) = nI sd := by
  unfold pn_takS
  exact pk_us
theorem pn_takS_i {Pd : Nat → Int32} {sd j : Nat} (hn : n < 30) (hs : sd ≤ 8) (hj : j < sd) : pn_takS St Pd n sd (150 + 8 * n + j) = Pd j := by
  unfold pn_takS
  rw [pk_un (by omega)]
  exact pn_cpN_in _ _ _ _ _ hj
theorem pn_sub_own (hR : pn_rel St K Y P S O N n F) {pa se : Int32} (h : (se &&& (pn_sit P S O pa n ^^^ (-1))) = 0) : ∀ t, t < 12 → ¬ pn_bit se t = 0 → pn_own S O t n = pa := by
  intro t ht hb
  have h1 := (pn_bit_bt' se (show t < 32 by omega)).mp hb
  have h2 := congrArg (fun z => bt z t) h
  simp only [b_and, b_xor, b_0, b_m1 t (show t < 32 by omega), h1, pn_sit_bt hR pa (Nat.le_refl n) t (show t < 32 by omega)] at h2
  simpa [ht] using h2
theorem pn_sit_own (hR : pn_rel St K Y P S O N n F) {pa : Int32} : ∀ t, t < 12 → ¬ pn_bit (pn_sit P S O pa n) t = 0 → pn_own S O t n = pa := by
  intro t ht hb
  have h1 := (pn_bit_bt' _ (show t < 32 by omega)).mp hb
  rw [pn_sit_bt hR pa (Nat.le_refl n) t (show t < 32 by omega)] at h1
  exact (of_decide_eq_true h1).2
theorem pn_bt_se {x : Int32} (h : ∀ t, t < 32 → 12 ≤ t → bt x t = false) : pn_se x := by
  have e : x = (x &&& nI 4095) := by
    apply b_ext
    intro t ht
    rw [b_and, pn_4095 t ht]
    by_cases q : t < 12
    · simp [q]
    · rw [h t ht (by omega)]; rfl
  have e2 : x = nI x.toBitVec.toNat := by
    apply Int32.toBitVec_inj.mp
    show _ = BitVec.ofNat 32 _
    rw [BitVec.ofNat_toNat, BitVec.setWidth_eq]
  have e3 : x.toBitVec.toNat ≤ 4095 := by
    rw [e, Int32.toBitVec_and, BitVec.toNat_and]
    exact Nat.and_le_right
  rw [e2]
  exact ⟨nI_pos (by omega), fun q => by have := (nI_ltI (by omega) (by omega)).mp q; omega⟩
theorem pn_sit_se (hR : pn_rel St K Y P S O N n F) (pa : Int32) : pn_se (pn_sit P S O pa n) := by
  apply pn_bt_se
  intro t ht h12
  rw [pn_sit_bt hR pa (Nat.le_refl n) t ht]
  exact decide_eq_false (fun q => by omega)
theorem pn_kn_n {F : Nat} {pa : Int32} (hF : F ≤ 16) (h : pn_kn F pa) : ∃ p, p < F ∧ pa = nI p := pn_ofJ h.1 h.2 (by omega)
end PNINVM
theorem pn_padZ (Pd : Nat → Int32) : pn_pad Pd 0 0 := ⟨by decide +kernel, Or.inl rfl, fun j h => absurd h (Nat.not_lt_zero _)⟩
theorem pn_let0 : ∀ j, j < 8 → pn_let 0 j = 0 := by decide +kernel
theorem pn_i64 : ∀ c, c < 128 → (nI c).toInt64 = Int64.ofNat c := by decide +kernel
theorem pn_let_hi (X : Int64) (j : Nat) {i : Nat} (hi : i < 32) (h8 : 8 ≤ i) : bt (pn_let X j) i = false := by
  unfold pn_let
  rw [b_and, pn_bt_nI 255 hi]
  have h255 : ∀ i, i < 32 → 8 ≤ i → (255 : Nat).testBit i = false := by decide
  rw [h255 i hi h8, Bool.and_false]
theorem pn_wl_bt (X : Int64) {L c k : Nat} (hL : L < 8) (hc : c < 128) (hk : k < 64) : (pn_wl X L (nI c)).toBitVec.getLsbD k = (X.toBitVec.getLsbD k || (decide (8 * L ≤ k) && c.testBit (k - 8 * L))) := by
  unfold pn_wl
  rw [Int64.toBitVec_or, BitVec.getLsbD_or, Int64.toBitVec_shiftLeft, pn_i64 c hc]
  congr 1
  show ((BitVec.ofNat 64 c) <<< (((nI (8 * L)).toInt64 &&& 63).toBitVec.smod 64).toNat).getLsbD k = _
  have hs : ∀ j, j < 8 → (((nI (8 * j)).toInt64 &&& 63).toBitVec.smod 64).toNat = 8 * j := by decide +kernel
  rw [hs L hL, BitVec.getLsbD_shiftLeft, BitVec.getLsbD_ofNat]
  rcases Nat.lt_or_ge k (8 * L) with h | h
  · simp [h, Nat.not_le.mpr h]
  · simp [hk, h, Nat.not_lt.mpr h, show k - 8 * L < 64 by omega]
theorem pn_wl_let (X : Int64) {L c j : Nat} (hL : L < 8) (hc : c < 128) (hj : j < 8) (h0 : pn_let X L = 0) : pn_let (pn_wl X L (nI c)) j = if j = L then nI c else pn_let X j := by
  have ht : ∀ k, 7 ≤ k → c.testBit k = false := fun k hk => Nat.testBit_lt_two_pow (Nat.lt_of_lt_of_le (show c < 2 ^ 7 by omega) (Nat.pow_le_pow_right (by omega) hk))
  apply b_ext
  intro i hi
  rcases Nat.lt_or_ge i 8 with h8 | h8
  · rw [pn_let_bt _ hj h8, pn_wl_bt X hL hc (by omega)]
    by_cases e : j = L
    · subst e
      rw [if_pos rfl, pn_bt_nI c hi, ← pn_let_bt X hj h8, h0, b_0, Bool.false_or, decide_eq_true (by omega), Bool.true_and, Nat.add_sub_cancel_left]
    · rw [if_neg e, pn_let_bt X hj h8]
      by_cases q : 8 * L ≤ 8 * j + i
      · rw [ht (8 * j + i - 8 * L) (by omega), Bool.and_false, Bool.or_false]
      · rw [decide_eq_false q, Bool.false_and, Bool.or_false]
  · rw [pn_let_hi _ _ hi h8]
    by_cases e : j = L
    · rw [if_pos e, pn_bt_nI c hi, ht i (by omega)]
    · rw [if_neg e, pn_let_hi _ _ hi h8]
theorem pn_pad_say {Pd : Nat → Int32} {sd c : Nat} {pd : Int64} (hp : pn_pad Pd sd pd) (h1 : 97 ≤ c) (h2 : c ≤ 122) (h8 : pn_len pd < 8) : pn_pad (upd Pd sd (nI c)) (sd + 1) (pn_wl pd (pn_len pd) (nI c)) := by
  obtain ⟨p1, p2, p3⟩ := hp
  have hz : ∀ j, pn_len pd ≤ j → j < 8 → pn_let pd j = 0 := by
    intro j a b
    rcases p2 with q | q
    · rw [q]; exact pn_let0 j b
    · exact q.2.2 j a b
  have hnz : ∀ j, j < pn_len pd → ¬ pn_let pd j = 0 := fun j hj => of_decide_eq_true (pn_cw_lt _ 8 j hj)
  have hl : ∀ j, j < pn_len pd → ∃ c : Nat, 97 ≤ c ∧ c ≤ 122 ∧ pn_let pd j = nI c := by
    intro j hj
    rcases p2 with q | q
    · exact absurd (by rw [q]; exact pn_let0 j (by omega)) (hnz j hj)
    · exact q.2.1 j hj
  generalize pn_len pd = L at *
  have hw : ∀ j, j < 8 → pn_let (pn_wl pd L (nI c)) j = if j = L then nI c else pn_let pd j := fun j hj => pn_wl_let pd h8 (by omega) hj (hz L (Nat.le_refl _) h8)
  generalize pn_wl pd L (nI c) = X at *
  have hc0 : ¬ nI c = 0 := fun q => by have := (nI_eq (a := c) (b := 0) (by omega) (by omega)).mp q; omega
  have hlen : pn_len X = L + 1 := by
    refine pn_cw_eq (fun i hi => decide_eq_true ?_) (by omega) ?_
    · rw [hw i (by omega)]
      by_cases e : i = L
      · rw [if_pos e]; exact hc0
      · rw [if_neg e]; exact hnz i (by omega)
    · by_cases e : L + 1 = 8
      · exact Or.inl e
      · refine Or.inr (fun q => of_decide_eq_true q ?_)
        rw [hw (L + 1) (by omega), if_neg (by omega)]
        exact hz (L + 1) (by omega) (by omega)
  refine ⟨by rw [hlen, p1], Or.inr ⟨by rw [hlen]; omega, fun j hj => ?_, fun j hj hj8 => ?_⟩, fun j hj => ?_⟩
  · rw [hlen] at hj
    rw [hw j (by omega)]
    by_cases e : j = L
    · rw [if_pos e]; exact ⟨c, h1, h2, rfl⟩
    · rw [if_neg e]; exact hl j (by omega)
  · rw [hlen] at hj
    rw [hw j hj8, if_neg (by omega)]
    exact hz j (by omega) hj8
  · rw [hw j (by omega)]
    by_cases e : j = L
    · rw [if_pos e, e, ← p1]; exact pk_us
    · rw [if_neg e, pk_un (by omega)]; exact p3 j (by omega)
theorem pn_cpI_in (Im St : Nat → Int32) (b : Nat) : ∀ (k i : Nat), i < k → pn_cpI Im St b k (422 * b + i) = St i := by
  intro k
  induction k with
  | zero => intro i h; exact absurd h (Nat.not_lt_zero _)
  | succ k ih =>
    intro i h
    rw [pn_cpI]
    by_cases e : i = k
    · subst e; exact pk_us
    · rw [pk_un (by omega)]; exact ih i (by omega)
theorem pn_cpI_out (Im St : Nat → Int32) (b : Nat) : ∀ (k i : Nat), ¬ (422 * b ≤ i ∧ i < 422 * b + k) → pn_cpI Im St b k i = Im i := by
  intro k
  induction k with
  | zero => intro i _; rfl
  | succ k ih =>
    intro i h
    rw [pn_cpI, pk_un (by omega)]
    exact ih i (by omega)
theorem pn_cpR_in (St Im : Nat → Int32) (b : Nat) : ∀ (k i : Nat), i < k → pn_cpR St Im b k i = Im (422 * b + i) := by
  intro k
  induction k with
  | zero => intro i h; exact absurd h (Nat.not_lt_zero _)
  | succ k ih =>
    intro i h
    rw [pn_cpR]
    by_cases e : i = k
    · subst e; exact pk_us
    · rw [pk_un (by omega)]; exact ih i (by omega)
theorem pn_ks_0 {Kp : Nat → Int32} {ks : Int32} (h : pn_ksr Kp ks) : pn_ksr (upd Kp 0 (nI 1)) (ks ||| ((nI 1) <<< ((nI 0) &&& 31))) := by
  unfold pn_ksr at h ⊢
  rw [pk_us, pk_un (by omega), if_neg (show ¬ nI 1 = 0 by decide), h]
  by_cases h0 : Kp 0 = 0 <;> by_cases h1 : Kp 1 = 0 <;> simp only [h0, h1, if_true, if_false] <;> decide
theorem pn_ks_1 {Kp : Nat → Int32} {ks : Int32} (h : pn_ksr Kp ks) : pn_ksr (upd Kp 1 (nI 1)) (ks ||| ((nI 1) <<< ((nI 1) &&& 31))) := by
  unfold pn_ksr at h ⊢
  rw [pk_us, pk_un (by omega), if_neg (show ¬ nI 1 = 0 by decide), h]
  by_cases h0 : Kp 0 = 0 <;> by_cases h1 : Kp 1 = 0 <;> simp only [h0, h1, if_true, if_false] <;> decide
