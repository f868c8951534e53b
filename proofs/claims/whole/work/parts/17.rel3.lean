/-! names as the reference lays them -/
section PNZ
variable {p : Program} {l : Launch} {e : Env} {R : Room} {s : State} {m : MethodId} {args : Array Value} {below : List Frame} {meth : Method} {c : Code} {H : Heap} {locs : List Loc} {cells slots : Nat} {Q : State → Prop}
variable {cc : ByteArray} {pc : Nat} {ls : Array Slot} {rest : List Value} {D : va_G} {cl : List vw_C} {A : Nat → Prop} {a : Nat} {tys : List (ClassId × FieldType)} {ws : va_W} {H0 : Heap}
theorem pn_zast1 (hexec : p.tables.exec = Jvm.exec) (hb : c.code = cc) (hK : va_K D cl tys s) (hP : va_P D cl ws H) (hD : va_D A ws) (hS : va_S A H0 H locs) (q0 t0 : Nat) {cA : ClassId} {n : Nat} {f : Nat → Int32} (ha : ws[q0]? = some (a, .inl (cA, n, .inl f))) (ht : tys[t0]? = some (cA, .boolean)) {i : Nat} (hin : i < n) (hn : n < 2 ^ 31) (hdg : decode cc pc = .ok (.bastore, 1))
    (kk : ∀ (H1 : Heap) (locs1 : List Loc), va_P D cl (ws.set q0 (a, .inl (cA, n, .inl (upd f i (nI 1))))) H1 → va_S A H0 H1 locs1 → W p l e R s m args below meth c H1 locs1 cells slots Q (F0 m (pc + 1) ls rest)) : W p l e R s m args below meth c H locs cells slots Q (F0 m pc ls (.int (nI 1) :: .int (nI i) :: .ref a :: rest)) := by
  refine va_zast hexec hb hK hP hD hS q0 t0 ha ht (vp_in_nI hin hn) hdg (fun H1 locs1 h1 _ h3 => ?_)
  rw [nI_clamp (Nat.lt_trans hin hn), show vp_nar .boolean (nI 1) = nI 1 from by decide] at h1
  exact kk H1 locs1 h1 h3
end PNZ
theorem pn_or0 (x : Int32) : (x ||| nI 0) = x := by
  rw [show nI 0 = 0 from rfl]
  exact Int32.or_zero
def pn_cpI (Im St : Nat → Int32) (b : Nat) : Nat → (Nat → Int32)
  | 0 => Im
  | j + 1 => upd (pn_cpI Im St b j) ((422 * b) + j) (St j)
def pn_cpR (St Im : Nat → Int32) (b : Nat) : Nat → (Nat → Int32)
  | 0 => St
  | j + 1 => upd (pn_cpR St Im b j) j (Im ((422 * b) + j))
def pn_bits (x : Int32) : Nat → Int32
  | 0 => nI 0
  | k + 1 => pn_bits x k + ((x >>> (nI k &&& 31)) &&& nI 1)
def pn_lay (X : Int64) (f : Nat → Int32) : Nat → Int32 := fun j => if j < pn_len X then pn_let X j else f j
def pn_layS (X : Int64) (f : Nat → Int32) : Nat → Int32 := fun c => if c < pn_lsd (pn_snd X) then pn_cs (pn_snd X) c else f c
theorem pn_lay_ok (X : Int64) (f : Nat → Int32) : ∀ j, j < pn_len X → pn_lay X f j = pn_let X j := by
  intro j h; unfold pn_lay; rw [if_pos h]
theorem pn_layS_ok (X : Int64) (f : Nat → Int32) : ∀ c, c < pn_lsd (pn_snd X) → pn_layS X f c = pn_cs (pn_snd X) c := by
  intro j h; unfold pn_layS; rw [if_pos h]
theorem pn_lay_eq {X : Int64} {f g : Nat → Int32} {k : Nat} (h1 : ∀ j, j < k → g j = pn_let X j) (h2 : ∀ j, k ≤ j → g j = f j) (hk : k = pn_len X) : ∀ j, j < 8 → g j = pn_lay X f j := by
  intro j _
  subst hk
  unfold pn_lay
  by_cases h : j < pn_len X
  · rw [if_pos h]; exact h1 j h
  · rw [if_neg h]; exact h2 j (by omega)
theorem pn_up1 {X : Int64} {g : Nat → Int32} {k : Nat} (h : ∀ j, j < k → g j = pn_let X j) : ∀ j, j < k + 1 → upd g k (pn_let X k) j = pn_let X j := by
  intro j hj
  by_cases e : j = k
  · subst e; exact pk_us
  · rw [pk_un e]; exact h j (by omega)
theorem pn_up2 {f g : Nat → Int32} {k : Nat} {v : Int32} (h : ∀ j, k ≤ j → g j = f j) : ∀ j, k + 1 ≤ j → upd g k v j = f j := by
  intro j hj
  rw [pk_un (by omega)]; exact h j (by omega)
/-- how many classes, and which, behind k letters -/
def pn_sl (X : Int64) : Nat → Nat
  | 0 => 0
  | k + 1 => (pn_sd X k).2
def pn_sh (X : Int64) : Nat → Int32
  | 0 => 0
  | k + 1 => (pn_sd X k).1
section PNLS
variable {X : Int64} {c k : Nat} {Ta : Nat → Int32}
theorem pn_ls_f (hw : pn_wn X) (hc : c = pn_sl X k) (hk : k = 0) : c + 1 = pn_sl X (k + 1) := by subst hk; rw [hc]; rfl
theorem pn_ls_fe (hw : pn_wn X) (hc : c = pn_sl X k) (hk : k = 0) : ∀ i, i < c + 1 → upd Ta c (pn_cls (pn_let X k)) i = pn_cs (pn_sh X (k + 1)) i := by
  sorry
theorem pn_ls_a (hw : pn_wn X) (hc : c = pn_sl X k) (h4 : ¬ 4 ≤ c) (hk : ¬ k = 0) (h0 : ¬ pn_cls (pn_let X k) = 0) (h1 : ¬ pn_cls (pn_let X k) = pn_cls (pn_let X (k - 1))) : c + 1 = pn_sl X (k + 1) := by
  sorry
theorem pn_ls_ae (hw : pn_wn X) (hkl : k < pn_len X) (hc : c = pn_sl X k) (h4 : ¬ 4 ≤ c) (hk : ¬ k = 0) (h0 : ¬ pn_cls (pn_let X k) = 0) (h1 : ¬ pn_cls (pn_let X k) = pn_cls (pn_let X (k - 1))) (e : ∀ i, i < c → Ta i = pn_cs (pn_sh X k) i) : ∀ i, i < c + 1 → upd Ta c (pn_cls (pn_let X k)) i = pn_cs (pn_sh X (k + 1)) i := by
  sorry
theorem pn_ls_s (hc : c = pn_sl X k) (hk : ¬ k = 0) (h : pn_cls (pn_let X k) = 0 ∨ pn_cls (pn_let X k) = pn_cls (pn_let X (k - 1))) : c = pn_sl X (k + 1) ∧ pn_sh X (k + 1) = pn_sh X k := by
  sorry
theorem pn_ls_end (hw : pn_wn X) (hkl : k ≤ pn_len X) (hc : c = pn_sl X k) (e : ∀ i, i < c → Ta i = pn_cs (pn_sh X k) i) (h : pn_len X ≤ k ∨ 4 ≤ c) : c = pn_lsd (pn_snd X) ∧ ∀ i, i < c → Ta i = pn_cs (pn_snd X) i := by
  sorry
end PNLS
theorem pn_layS_eq {X : Int64} {f g : Nat → Int32} {c : Nat} (h1 : c = pn_lsd (pn_snd X) ∧ ∀ i, i < c → g i = pn_cs (pn_snd X) i) (h2 : ∀ j, c ≤ j → g j = f j) : ∀ j, j < 4 → g j = pn_layS X f j := by
  intro j _
  obtain ⟨hk, h1⟩ := h1
  unfold pn_layS
  rw [← hk]
  by_cases h : j < c
  · rw [if_pos h]; exact h1 j h
  · rw [if_neg h]; exact h2 j (by omega)
theorem pn_eqN {X Z : Int64} (hx : pn_wn X) (hz : pn_wn Z) (hl : pn_len X = pn_len Z) (h : ∀ j, j < pn_len X → pn_let X j = pn_let Z j) : X = Z := by
  sorry
theorem pn_eqS {X Z : Int64} (hx : pn_wn X) (hz : pn_wn Z) (hl : pn_lsd (pn_snd X) = pn_lsd (pn_snd Z)) (h : ∀ c, c < pn_lsd (pn_snd X) → pn_cs (pn_snd X) c = pn_cs (pn_snd Z) c) : pn_snd X = pn_snd Z := by
  sorry
theorem pn_lev_m {a b : Nat → Int32} {i j d : Nat} (hi : ¬ i = 0) (hj : ¬ j = 0) (hd : (a (i - 1) = b (j - 1) ∧ d = 0) ∨ (¬ a (i - 1) = b (j - 1) ∧ d = 1)) : min (min (pn_lev a b (i - 1) j + 1) (pn_lev a b i (j - 1) + 1)) (pn_lev a b (i - 1) (j - 1) + d) = pn_lev a b i j := by
  obtain ⟨i, rfl⟩ : ∃ k, i = k + 1 := ⟨i - 1, by omega⟩
  obtain ⟨j, rfl⟩ : ∃ k, j = k + 1 := ⟨j - 1, by omega⟩
  simp only [Nat.add_sub_cancel] at *
  rw [pn_lev_ss]
  rcases hd with ⟨h, rfl⟩ | ⟨h, rfl⟩
  · rw [if_pos h]; omega
  · rw [if_neg h]; omega
theorem pn_lev_z {a b : Nat → Int32} {i j : Nat} (h : i = 0 ∨ j = 0) : i + j = pn_lev a b i j := by
  rcases h with rfl | rfl
  · rw [pn_lev_0j]; omega
  · rw [pn_lev_i0]; omega
theorem pn_cost {f : Nat → Int32} {g : Nat → Nat} {i j v : Nat} (h : ∀ b, b < j → f (9 * i + b) = nI (g b)) (e : v = g j) : ∀ b, b < j + 1 → upd f (9 * i + j) (nI v) (9 * i + b) = nI (g b) := by
  intro b hb
  by_cases c : b = j
  · subst c; rw [pk_us, e]
  · rw [pk_un (by omega)]; exact h b (by omega)
theorem pn_cost2 {f : Nat → Int32} {G : Nat → Nat → Nat} {i j s : Nat} {v : Int32} (hs : s ≤ 8) (h : ∀ a b, a < i → b ≤ s → f (9 * a + b) = nI (G a b)) : ∀ a b, a < i → b ≤ s → upd f (9 * i + j) v (9 * a + b) = nI (G a b) := by
  intro a b ha hb
  rw [pk_un (by omega)]; exact h a b ha hb
theorem pn_lt2 {x : Int32} (h : ¬ nI 1 < x) : x < nI 2 := by
  rw [fa_ltP] at *
  rw [show ((nI 1).toInt) = 1 from by decide] at h
  rw [show ((nI 2).toInt) = 2 from by decide]
  omega
def pn_ksr (Kp : Nat → Int32) (ks : Int32) : Prop := ks = nI ((if Kp 0 = 0 then 0 else 1) + (if Kp 1 = 0 then 0 else 2))
theorem pn_ks6 {Kp : Nat → Int32} {ks : Int32} (h : pn_ksr Kp ks) (a b : Nat) (ha : (Kp 0 = 0 ∧ a = 0) ∨ (¬ Kp 0 = 0 ∧ a = 1)) (hb : (Kp 1 = 0 ∧ b = 0) ∨ (¬ Kp 1 = 0 ∧ b = 2)) : nI (a + b) = ks := by
  unfold pn_ksr at h
  rw [h]
  rcases ha with ⟨h1, rfl⟩ | ⟨h1, rfl⟩ <;> rcases hb with ⟨h2, rfl⟩ | ⟨h2, rfl⟩ <;> simp [h1, h2]
theorem pn_1013 {wh : Int32} (h : ¬ wh < nI 10 ∧ ¬ nI 13 < wh) : wh = nI 10 ∨ wh = nI 11 ∨ wh = nI 12 ∨ wh = nI 13 := by
  simp only [fa_ltP, fa_eqP, show ((nI 10).toInt) = 10 from by decide, show ((nI 11).toInt) = 11 from by decide, show ((nI 12).toInt) = 12 from by decide, show ((nI 13).toInt) = 13 from by decide] at *
  omega
theorem pn_1013r {wh : Int32} (h : wh = nI 10 ∨ wh = nI 11 ∨ wh = nI 12 ∨ wh = nI 13) : ¬ wh < nI 10 ∧ ¬ nI 13 < wh := by
  simp only [fa_ltP, fa_eqP, show ((nI 10).toInt) = 10 from by decide, show ((nI 11).toInt) = 11 from by decide, show ((nI 12).toInt) = 12 from by decide, show ((nI 13).toInt) = 13 from by decide] at *
  omega
theorem pn_n10 {wh : Int32} (h : ¬ wh < nI 10 ∧ ¬ nI 13 < wh) {c : Nat} (hc : c < 10) : ¬ wh = nI c := by
  intro e
  rw [e] at h
  exact h.1 ((nI_ltI (by omega) (by omega)).mpr hc)
