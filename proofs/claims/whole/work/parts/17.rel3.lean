/-! names as the reference lays them -/
section PNZ
variable {p : Program} {l : Launch} {e : Env} {R : Room} {s : State} {m : MethodId} {args : Array Value} {below : List Frame} {meth : Method} {c : Code} {H : Heap} {locs : List Loc} {cells slots : Nat} {Q : State → Prop}
variable {cc : ByteArray} {pc : Nat} {ls : Array Slot} {rest : List Value} {D : va_G} {cl : List vw_C} {A : Nat → Prop} {a : Nat} {tys : List (ClassId × FieldType)} {ws : va_W} {H0 : Heap}
theorem pn_zast1 (hexec : p.tables.exec = Jvm.exec) (hb : c.code = cc) (hK : va_K D cl tys s) (hP : va_P D cl ws H) (hD : va_D A ws) (hS : va_S A H0 H locs) (q0 t0 : Nat) {cA : ClassId} {n : Nat} {f : Nat → Int32} (ha : ws[q0]? = some (a, .inl (cA, n, .inl f))) (ht : tys[t0]? = some (cA, .boolean)) {i : Nat} (hin : i < n) (hn : n < 2 ^ 31) (hdg : decode cc pc = .ok (.bastore, 1))
    (kk : ∀ (H1 : Heap) (locs1 : List Loc), va_P D cl (ws.set q0 (a, .inl (cA, n, .inl (upd f i (nI 1))))) H1 → va_S A H0 H1 locs1 → W p l e R s m args below meth c H1 locs1 cells slots Q (F0 m (pc + 1) ls rest)) : W p l e R s m args below meth c H locs cells slots Q (F0 m pc ls (.int (nI 1) :: .int (nI i) :: .ref a :: rest)) := by
  refine va_zast hexec hb hK hP hD hS q0 t0 ha ht (vp_in_nI hin hn) hdg (fun H1 locs1 h1 _ h3 => ?_)
  rw [nI_clamp (Nat.lt_trans hin hn), show vp_nar .boolean (nI 1) = nI 1 from by decide] at h1
  exact kk H1 locs1 h1 h3
end PNZ
theorem pn_or0 (x : Int32) : (x ||| nI 0) = x := by
  rw [show nI 0 = 0 from rfl]
  exact Int32.or_zero
def pn_cpI (Im St : Nat → Int32) (b : Nat) : Nat → (Nat → Int32)
  | 0 => Im
  | j + 1 => upd (pn_cpI Im St b j) ((422 * b) + j) (St j)
def pn_cpR (St Im : Nat → Int32) (b : Nat) : Nat → (Nat → Int32)
  | 0 => St
  | j + 1 => upd (pn_cpR St Im b j) j (Im ((422 * b) + j))
def pn_bits (x : Int32) : Nat → Int32
  | 0 => nI 0
  | k + 1 => pn_bits x k + ((x >>> (nI k &&& 31)) &&& nI 1)
def pn_lay (X : Int64) (f : Nat → Int32) : Nat → Int32 := fun j => if j < pn_len X then pn_let X j else f j
def pn_layS (X : Int64) (f : Nat → Int32) : Nat → Int32 := fun c => if c < pn_lsd (pn_snd X) then pn_cs (pn_snd X) c else f c
theorem pn_lay_ok (X : Int64) (f : Nat → Int32) : ∀ j, j < pn_len X → pn_lay X f j = pn_let X j := by
  intro j h; unfold pn_lay; rw [if_pos h]
theorem pn_layS_ok (X : Int64) (f : Nat → Int32) : ∀ c, c < pn_lsd (pn_snd X) → pn_layS X f c = pn_cs (pn_snd X) c := by
  intro j h; unfold pn_layS; rw [if_pos h]
theorem pn_lay_eq {X : Int64} {f g : Nat → Int32} {k : Nat} (h1 : ∀ j, j < k → g j = pn_let X j) (h2 : ∀ j, k ≤ j → g j = f j) (hk : k = pn_len X) : ∀ j, j < 8 → g j = pn_lay X f j := by
  intro j _
  subst hk
  unfold pn_lay
  by_cases h : j < pn_len X
  · rw [if_pos h]; exact h1 j h
  · rw [if_neg h]; exact h2 j (by omega)
theorem pn_up1 {X : Int64} {g : Nat → Int32} {k : Nat} (h : ∀ j, j < k → g j = pn_let X j) : ∀ j, j < k + 1 → upd g k (pn_let X k) j = pn_let X j := by
  intro j hj
  by_cases e : j = k
  · subst e; exact pk_us
  · rw [pk_un e]; exact h j (by omega)
theorem pn_up2 {f g : Nat → Int32} {k : Nat} {v : Int32} (h : ∀ j, k ≤ j → g j = f j) : ∀ j, k + 1 ≤ j → upd g k v j = f j := by
  intro j hj
  rw [pk_un (by omega)]; exact h j (by omega)
/-- how many classes, and which, behind k letters -/
def pn_sl (X : Int64) : Nat → Nat
  | 0 => 0
  | k + 1 => (pn_sd X k).2
def pn_sh (X : Int64) : Nat → Int32
  | 0 => 0
  | k + 1 => (pn_sd X k).1
section PNLS
variable {X : Int64} {c k : Nat} {Ta : Nat → Int32}
theorem pn_ls_f (hw : pn_wn X) (hc : c = pn_sl X k) (hk : k = 0) : c + 1 = pn_sl X (k + 1) := by subst hk; rw [hc]; rfl
theorem pn_ls_fe (hw : pn_wn X) (hc : c = pn_sl X k) (hk : k = 0) : ∀ i, i < c + 1 → upd Ta c (pn_cls (pn_let X k)) i = pn_cs (pn_sh X (k + 1)) i := by
  subst hk
  have hc0 : c = 0 := hc
  subst hc0
  intro i hi
  obtain rfl : i = 0 := by omega
  rw [pk_us]
  obtain ⟨d, hd, e⟩ := pn_cls_n (pn_let X 0)
  show _ = pn_cs (pn_cls (pn_let X 0) + nI 1) 0
  rw [e, nI_add, pn_cs_pos (by omega) (by omega) ((pn_sn_0 hd).2.2.2 0 (by omega))]
  congr 1
  unfold pn_dg
  omega
theorem pn_ls_a (hw : pn_wn X) (hc : c = pn_sl X k) (h4 : ¬ 4 ≤ c) (hk : ¬ k = 0) (h0 : ¬ pn_cls (pn_let X k) = 0) (h1 : ¬ pn_cls (pn_let X k) = pn_cls (pn_let X (k - 1))) : c + 1 = pn_sl X (k + 1) := by
  obtain ⟨j, rfl⟩ : ∃ j, k = j + 1 := ⟨k - 1, by omega⟩
  rw [Nat.add_sub_cancel] at h1
  have hc : c = (pn_sd X j).2 := hc
  show c + 1 = (pn_sd X (j + 1)).2
  rw [pn_sd_s, if_pos ⟨by omega, h0, h1⟩, hc]
theorem pn_ls_ae (hw : pn_wn X) (hkl : k < pn_len X) (hc : c = pn_sl X k) (h4 : ¬ 4 ≤ c) (hk : ¬ k = 0) (h0 : ¬ pn_cls (pn_let X k) = 0) (h1 : ¬ pn_cls (pn_let X k) = pn_cls (pn_let X (k - 1))) (e : ∀ i, i < c → Ta i = pn_cs (pn_sh X k) i) : ∀ i, i < c + 1 → upd Ta c (pn_cls (pn_let X k)) i = pn_cs (pn_sh X (k + 1)) i := by
  obtain ⟨j, rfl⟩ : ∃ j, k = j + 1 := ⟨k - 1, by omega⟩
  rw [Nat.add_sub_cancel] at h1
  have hc : c = (pn_sd X j).2 := hc
  obtain ⟨H, eH, hs⟩ := pn_sd_sn X j
  obtain ⟨d, hd, e2⟩ := pn_cls_n (pn_let X (j + 1))
  have e3 : pn_sh X (j + 1 + 1) = nI (H + (d + 1) * 16 ^ c) := by
    show (pn_sd X (j + 1)).1 = _
    rw [pn_sd_s, if_pos ⟨by omega, h0, h1⟩]
    show ((pn_sd X j).1 ||| ((pn_cls (pn_let X (j + 1)) + nI 1) <<< (nI (4 * (pn_sd X j).2) &&& 31))) = _
    have := hs.1
    rw [eH, e2, nI_add, pn_or_add (by omega) hs.2.2.1 hd, hc]
  rw [← hc] at hs
  have hsn := pn_sn_add hs (by omega) hd
  have hlt := pn_sn_lt hsn
  intro i hi
  rw [e3]
  by_cases q : i = c
  · subst q
    rw [pk_us, pn_cs_pos (by omega) (by omega) (hsn.2.2.2 _ (by omega)), pn_dg_hi hs.2.2.1 hd, e2]
    congr 1
  · have hlt2 := pn_sn_lt hs
    rw [pk_un q, e i (by omega)]
    show pn_cs (pn_sd X j).1 i = _
    rw [eH, pn_cs_pos (by omega) (by omega) (hs.2.2.2 i (by omega)), pn_cs_pos (by omega) (by omega) (hsn.2.2.2 i (by omega)), pn_dg_lo (by omega)]
theorem pn_ls_s (hc : c = pn_sl X k) (hk : ¬ k = 0) (h : pn_cls (pn_let X k) = 0 ∨ pn_cls (pn_let X k) = pn_cls (pn_let X (k - 1))) : c = pn_sl X (k + 1) ∧ pn_sh X (k + 1) = pn_sh X k := by
  obtain ⟨j, rfl⟩ : ∃ j, k = j + 1 := ⟨k - 1, by omega⟩
  rw [Nat.add_sub_cancel] at h
  have e : pn_sd X (j + 1) = pn_sd X j := by
    rw [pn_sd_s, if_neg (fun q => h.elim q.2.1 q.2.2)]
  exact ⟨by show c = (pn_sd X (j + 1)).2; rw [e]; exact hc, by show (pn_sd X (j + 1)).1 = (pn_sd X j).1; rw [e]⟩
theorem pn_ls_end (hw : pn_wn X) (hkl : k ≤ pn_len X) (hc : c = pn_sl X k) (e : ∀ i, i < c → Ta i = pn_cs (pn_sh X k) i) (h : pn_len X ≤ k ∨ 4 ≤ c) : c = pn_lsd (pn_snd X) ∧ ∀ i, i < c → Ta i = pn_cs (pn_snd X) i := by
  have hl1 := hw.1
  have hk : ¬ k = 0 := by
    intro q
    subst q
    have hc0 : c = 0 := hc
    omega
  obtain ⟨j, rfl⟩ : ∃ j, k = j + 1 := ⟨k - 1, by omega⟩
  have hc : c = (pn_sd X j).2 := hc
  have e2 : pn_sd X (pn_len X - 1) = pn_sd X j := by
    rcases h with h | h
    · rw [show pn_len X - 1 = j by omega]
    · have hs := pn_sd_stop X (j := j) (by omega) (pn_len X - 1 - j)
      rw [show j + (pn_len X - 1 - j) = pn_len X - 1 by omega] at hs
      exact hs
  obtain ⟨H, eH, hs⟩ := pn_sd_sn X j
  have e3 : pn_snd X = (pn_sd X j).1 := by unfold pn_snd; rw [e2]
  refine ⟨?_, fun i hi => ?_⟩
  · rw [e3, eH, pn_sn_lsd hs, hc]
  · rw [e3]; exact e i hi
end PNLS
theorem pn_layS_eq {X : Int64} {f g : Nat → Int32} {c : Nat} (h1 : c = pn_lsd (pn_snd X) ∧ ∀ i, i < c → g i = pn_cs (pn_snd X) i) (h2 : ∀ j, c ≤ j → g j = f j) : ∀ j, j < 4 → g j = pn_layS X f j := by
  intro j _
  obtain ⟨hk, h1⟩ := h1
  unfold pn_layS
  rw [← hk]
  by_cases h : j < c
  · rw [if_pos h]; exact h1 j h
  · rw [if_neg h]; exact h2 j (by omega)
theorem pn_let_bt (X : Int64) {j i : Nat} (hj : j < 8) (hi : i < 8) : bt (pn_let X j) i = X.toBitVec.getLsbD (8 * j + i) := by
  unfold pn_let
  rw [b_and, pn_bt_nI 255 (by omega)]
  have h255 : ∀ i, i < 8 → (255 : Nat).testBit i = true := by decide
  rw [h255 i hi, Bool.and_true]
  show ((X.toUInt64 >>> ((nI (8 * j)).toInt64.toUInt64 &&& Int64.toUInt64 63)).toInt64.toInt32).toBitVec.getLsbD i = _
  have hs : ∀ j, j < 8 → (((nI (8 * j)).toInt64.toUInt64 &&& Int64.toUInt64 63).toBitVec % 64).toNat = 8 * j := by decide +kernel
  rw [Int64.toBitVec_toInt32, BitVec.getLsbD_signExtend]
  show (decide (i < 32) && if i < 64 then (X.toUInt64 >>> ((nI (8 * j)).toInt64.toUInt64 &&& Int64.toUInt64 63)).toBitVec.getLsbD i else _) = _
  rw [if_pos (by omega), UInt64.toBitVec_shiftRight]
  show (decide (i < 32) && (X.toBitVec >>> (((nI (8 * j)).toInt64.toUInt64 &&& Int64.toUInt64 63).toBitVec % 64).toNat).getLsbD i) = _
  rw [hs j hj, BitVec.getLsbD_ushiftRight]
  simp [show i < 32 by omega]
theorem pn_let_ext {X Z : Int64} (h : ∀ j, j < 8 → pn_let X j = pn_let Z j) : X = Z := by
  apply Int64.toBitVec_inj.mp
  apply BitVec.eq_of_getLsbD_eq
  intro i hi
  have e : i = 8 * (i / 8) + i % 8 := by omega
  rw [e, ← pn_let_bt X (by omega) (by omega), ← pn_let_bt Z (by omega) (by omega), h (i / 8) (by omega)]
theorem pn_eqN {X Z : Int64} (hx : pn_wn X) (hz : pn_wn Z) (hl : pn_len X = pn_len Z) (h : ∀ j, j < pn_len X → pn_let X j = pn_let Z j) : X = Z := by
  have hall : ∀ j, j < 8 → pn_let X j = pn_let Z j := by
    intro j hj
    by_cases q : j < pn_len X
    · exact h j q
    · rw [hx.2.2 j (by omega) hj, hz.2.2 j (by omega) hj]
  exact pn_let_ext hall
theorem pn_eqS {X Z : Int64} (hx : pn_wn X) (hz : pn_wn Z) (hl : pn_lsd (pn_snd X) = pn_lsd (pn_snd Z)) (h : ∀ c, c < pn_lsd (pn_snd X) → pn_cs (pn_snd X) c = pn_cs (pn_snd Z) c) : pn_snd X = pn_snd Z := by
  obtain ⟨H, eH, hs⟩ := pn_sd_sn X (pn_len X - 1)
  obtain ⟨H2, eH2, hs2⟩ := pn_sd_sn Z (pn_len Z - 1)
  have e1 : pn_snd X = nI H := eH
  have e2 : pn_snd Z = nI H2 := eH2
  have l1 := pn_sn_lsd hs
  have l2 := pn_sn_lsd hs2
  rw [e1, e2] at hl h
  rw [l1] at hl h
  rw [l2] at hl
  rw [e1, e2]
  have hlt := pn_sn_lt hs
  have hlt2 := pn_sn_lt hs2
  have hd : ∀ i, i < (pn_sd X (pn_len X - 1)).2 → pn_dg H i = pn_dg H2 i := by
    intro i hi
    have q := h i hi
    have a1 := hs.2.2.2 i hi
    have a2 := hs2.2.2.2 i (by omega)
    have h4 := hs.2.1
    rw [pn_cs_pos (by omega) (by omega) a1, pn_cs_pos (by omega) (by omega) a2] at q
    have b1 : pn_dg H i < 16 := Nat.mod_lt _ (by omega)
    have b2 : pn_dg H2 i < 16 := Nat.mod_lt _ (by omega)
    have := (nI_eq (by omega) (by omega)).mp q
    omega
  generalize (pn_sd X (pn_len X - 1)).2 = n at *
  rw [← hl] at hs2
  obtain ⟨h1, h2, h3, -⟩ := hs
  obtain ⟨-, -, h5, -⟩ := hs2
  congr 1
  unfold pn_dg at hd
  have d0 := hd 0
  have d1 := hd 1
  have d2 := hd 2
  have d3 := hd 3
  rcases (show n = 1 ∨ n = 2 ∨ n = 3 ∨ n = 4 by omega) with rfl | rfl | rfl | rfl
  · have := d0 (by omega); omega
  · have := d0 (by omega); have := d1 (by omega); omega
  · have := d0 (by omega); have := d1 (by omega); have := d2 (by omega); omega
  · have := d0 (by omega); have := d1 (by omega); have := d2 (by omega); have := d3 (by omega); omega
theorem pn_lev_m {a b : Nat → Int32} {i j d : Nat} (hi : ¬ i = 0) (hj : ¬ j = 0) (hd : (a (i - 1) = b (j - 1) ∧ d = 0) ∨ (¬ a (i - 1) = b (j - 1) ∧ d = 1)) : min (min (pn_lev a b (i - 1) j + 1) (pn_lev a b i (j - 1) + 1)) (pn_lev a b (i - 1) (j - 1) + d) = pn_lev a b i j := by
  obtain ⟨i, rfl⟩ : ∃ k, i = k + 1 := ⟨i - 1, by omega⟩
  obtain ⟨j, rfl⟩ : ∃ k, j = k + 1 := ⟨j - 1, by omega⟩
  simp only [Nat.add_sub_cancel] at *
  rw [pn_lev_ss]
  rcases hd with ⟨h, rfl⟩ | ⟨h, rfl⟩
  · rw [if_pos h]; omega
  · rw [if_neg h]; omega
theorem pn_lev_z {a b : Nat → Int32} {i j : Nat} (h : i = 0 ∨ j = 0) : i + j = pn_lev a b i j := by
  rcases h with rfl | rfl
  · rw [pn_lev_0j]; omega
  · rw [pn_lev_i0]; omega
theorem pn_cost {f : Nat → Int32} {g : Nat → Nat} {i j v : Nat} (h : ∀ b, b < j → f (9 * i + b) = nI (g b)) (e : v = g j) : ∀ b, b < j + 1 → upd f (9 * i + j) (nI v) (9 * i + b) = nI (g b) := by
  intro b hb
  by_cases c : b = j
  · subst c; rw [pk_us, e]
  · rw [pk_un (by omega)]; exact h b (by omega)
theorem pn_cost2 {f : Nat → Int32} {G : Nat → Nat → Nat} {i j s : Nat} {v : Int32} (hs : s ≤ 8) (h : ∀ a b, a < i → b ≤ s → f (9 * a + b) = nI (G a b)) : ∀ a b, a < i → b ≤ s → upd f (9 * i + j) v (9 * a + b) = nI (G a b) := by
  intro a b ha hb
  rw [pk_un (by omega)]; exact h a b ha hb
theorem pn_lt2 {x : Int32} (h : ¬ nI 1 < x) : x < nI 2 := by
  rw [fa_ltP] at *
  rw [show ((nI 1).toInt) = 1 from by decide] at h
  rw [show ((nI 2).toInt) = 2 from by decide]
  omega
def pn_ksr (Kp : Nat → Int32) (ks : Int32) : Prop := ks = nI ((if Kp 0 = 0 then 0 else 1) + (if Kp 1 = 0 then 0 else 2))
theorem pn_ks6 {Kp : Nat → Int32} {ks : Int32} (h : pn_ksr Kp ks) (a b : Nat) (ha : (Kp 0 = 0 ∧ a = 0) ∨ (¬ Kp 0 = 0 ∧ a = 1)) (hb : (Kp 1 = 0 ∧ b = 0) ∨ (¬ Kp 1 = 0 ∧ b = 2)) : nI (a + b) = ks := by
  unfold pn_ksr at h
  rw [h]
  rcases ha with ⟨h1, rfl⟩ | ⟨h1, rfl⟩ <;> rcases hb with ⟨h2, rfl⟩ | ⟨h2, rfl⟩ <;> simp [h1, h2]
theorem pn_1013 {wh : Int32} (h : ¬ wh < nI 10 ∧ ¬ nI 13 < wh) : wh = nI 10 ∨ wh = nI 11 ∨ wh = nI 12 ∨ wh = nI 13 := by
  simp only [fa_ltP, fa_eqP, show ((nI 10).toInt) = 10 from by decide, show ((nI 11).toInt) = 11 from by decide, show ((nI 12).toInt) = 12 from by decide, show ((nI 13).toInt) = 13 from by decide] at *
  omega
theorem pn_1013r {wh : Int32} (h : wh = nI 10 ∨ wh = nI 11 ∨ wh = nI 12 ∨ wh = nI 13) : ¬ wh < nI 10 ∧ ¬ nI 13 < wh := by
  simp only [fa_ltP, fa_eqP, show ((nI 10).toInt) = 10 from by decide, show ((nI 11).toInt) = 11 from by decide, show ((nI 12).toInt) = 12 from by decide, show ((nI 13).toInt) = 13 from by decide] at *
  omega
theorem pn_n10 {wh : Int32} (h : ¬ wh < nI 10 ∧ ¬ nI 13 < wh) {c : Nat} (hc : c < 10) : ¬ wh = nI c := by
  intro e
  rw [e] at h
  exact h.1 ((nI_ltI (by omega) (by omega)).mpr hc)
