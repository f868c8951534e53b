/-! constructors: rows that make cells -/
theorem pn_cA {D : va_G} {cl : List vw_C} {tys : List (ClassId × FieldType)} {s : State} {cA cI : ClassId} {ty : FieldType} {t0 : Nat} (hK : va_K D cl (tys ++ [(cA, ty)]) s) (ht : tys[t0]? = some (cI, ty)) (hp : ∀ C, ty ≠ .object C) : cA = cI := by
  have h1 := (hK.2 tys.length (cA, ty) (by rw [List.getElem?_append_right (Nat.le_refl _)]; simp)).2
  have h2 := (hK.2 t0 (cI, ty) (by rw [List.getElem?_append_left (List.getElem?_eq_some_iff.mp ht).1]; exact ht)).2
  unfold va_RA at h1 h2
  cases ty with
  | object C => exact absurd rfl (hp C)
  | _ => exact Option.some.inj (h1.symm.trans h2)
section PNN
variable {p : Program} {l : Launch} {e : Env} {R : Room} {s : State} {m : MethodId} {args : Array Value} {below : List Frame} {meth : Method} {c : Code} {H : Heap} {locs : List Loc} {cells slots : Nat} {Q : State → Prop}
variable {cc : ByteArray} {pc : Nat} {ls : Array Slot} {rest : List Value} {D : va_G} {cl : List vw_C} {A : Nat → Prop} {tys : List (ClassId × FieldType)} {ws : va_W} {H0 : Heap}
theorem pn_newI (hexec : p.tables.exec = Jvm.exec) (hb : c.code = cc) (harr : (Cond.arrayClass .int).before args s = true) (hK : va_K D cl tys s) (t0 : Nat) {cI : ClassId} (ht : tys[t0]? = some (cI, .int)) (hP : va_P D cl ws H) (hD : va_D A ws) (hS : va_S A H0 H locs) (hA : ∀ q, H0.size ≤ q → A q) {n : Nat} (hn : n ≤ 1000) (hcells : cells + 1 ≤ R.cells) (hslots : slots + n ≤ R.slots) (hdg : decode cc pc = .ok (.newarray .int, 2))
    (kk : ∀ (q : Nat) (H1 : Heap), va_P D cl (ws ++ [(q, .inl (cI, n, .inl (fun _ => 0)))]) H1 → va_D A (ws ++ [(q, .inl (cI, n, .inl (fun _ => 0)))]) → va_S A H0 H1 locs → W p l e R s m args below meth c H1 locs (cells + 1) (slots + n) Q (F0 m (pc + 2) ls (.ref q :: rest))) : W p l e R s m args below meth c H locs cells slots Q (F0 m pc ls (.int (nI n) :: rest)) := by
  refine va_newa (atype := .int) (ty := .int) (a0 := (n, .inl (fun _ => 0))) hexec hb harr rfl hK hP hD hS hA (fun cA => rfl) (nI_pos (by omega)) (nI_clamp (by omega)) (by show n * 4 ≤ _; omega) hcells hslots hdg (fun q cA H1 h1 h2 h3 h4 => ?_)
  obtain rfl := pn_cA h1 ht (fun C h => by cases h)
  exact kk q H1 h2 h3 h4
theorem pn_newL (hexec : p.tables.exec = Jvm.exec) (hb : c.code = cc) (harr : (Cond.arrayClass .long).before args s = true) (hK : va_K D cl tys s) (t0 : Nat) {cI : ClassId} (ht : tys[t0]? = some (cI, .long)) (hP : va_P D cl ws H) (hD : va_D A ws) (hS : va_S A H0 H locs) (hA : ∀ q, H0.size ≤ q → A q) {n : Nat} (hn : n ≤ 1000) (hcells : cells + 1 ≤ R.cells) (hslots : slots + n ≤ R.slots) (hdg : decode cc pc = .ok (.newarray .long, 2))
    (kk : ∀ (q : Nat) (H1 : Heap), va_P D cl (ws ++ [(q, .inl (cI, n, .inr (.inl (fun _ => 0))))]) H1 → va_D A (ws ++ [(q, .inl (cI, n, .inr (.inl (fun _ => 0))))]) → va_S A H0 H1 locs → W p l e R s m args below meth c H1 locs (cells + 1) (slots + n) Q (F0 m (pc + 2) ls (.ref q :: rest))) : W p l e R s m args below meth c H locs cells slots Q (F0 m pc ls (.int (nI n) :: rest)) := by
  refine va_newa (atype := .long) (ty := .long) (a0 := (n, .inr (.inl (fun _ => 0)))) hexec hb harr rfl hK hP hD hS hA (fun cA => rfl) (nI_pos (by omega)) (nI_clamp (by omega)) (by show n * 8 ≤ _; omega) hcells hslots hdg (fun q cA H1 h1 h2 h3 h4 => ?_)
  obtain rfl := pn_cA h1 ht (fun C h => by cases h)
  exact kk q H1 h2 h3 h4
theorem pn_newZ (hexec : p.tables.exec = Jvm.exec) (hb : c.code = cc) (harr : (Cond.arrayClass .boolean).before args s = true) (hK : va_K D cl tys s) (t0 : Nat) {cI : ClassId} (ht : tys[t0]? = some (cI, .boolean)) (hP : va_P D cl ws H) (hD : va_D A ws) (hS : va_S A H0 H locs) (hA : ∀ q, H0.size ≤ q → A q) {n : Nat} (hn : n ≤ 1000) (hcells : cells + 1 ≤ R.cells) (hslots : slots + n ≤ R.slots) (hdg : decode cc pc = .ok (.newarray .boolean, 2))
    (kk : ∀ (q : Nat) (H1 : Heap), va_P D cl (ws ++ [(q, .inl (cI, n, .inl (fun _ => 0)))]) H1 → va_D A (ws ++ [(q, .inl (cI, n, .inl (fun _ => 0)))]) → va_S A H0 H1 locs → W p l e R s m args below meth c H1 locs (cells + 1) (slots + n) Q (F0 m (pc + 2) ls (.ref q :: rest))) : W p l e R s m args below meth c H locs cells slots Q (F0 m pc ls (.int (nI n) :: rest)) := by
  refine va_newa (atype := .boolean) (ty := .boolean) (a0 := (n, .inl (fun _ => 0))) hexec hb harr rfl hK hP hD hS hA (fun cA => rfl) (nI_pos (by omega)) (nI_clamp (by omega)) (by show n * 1 ≤ _; omega) hcells hslots hdg (fun q cA H1 h1 h2 h3 h4 => ?_)
  obtain rfl := pn_cA h1 ht (fun C h => by cases h)
  exact kk q H1 h2 h3 h4
end PNN
/-- a constructor's start -/
def pn_Pi (D : va_G) (cI cL cZ cO : ClassId) (sz : Nat) (Z : State → Prop) (WS : va_W) (U : State) : Prop := U.heap.size = sz ∧ va_P D vwCl WS U.heap ∧ pn_KB D cI cL cZ cO U ∧ va_D (fun _ => True) WS ∧ Z U
/-- what a constructor may ask of the tables beside the words -/
def pn_Zt : State → Prop := fun _ => True
def pn_Z2 : State → Prop := fun U => va_Nw (.methodLinkNest RX2 9 yX0_init RX2) U ∧ va_Nw (.methodLinkNest RX2 22 yX1_init RX2) U ∧ va_AO RX0 U
theorem pn_Zt_fb : ∀ (U : State) (g : JFrame) (mk : MethodId) (a : Array Value), pn_Zt U → pn_Zt (U.calling g mk a) := fun _ _ _ _ _ => trivial
theorem pn_Z2_fb : ∀ (U : State) (g : JFrame) (mk : MethodId) (a : Array Value), pn_Z2 U → pn_Z2 (U.calling g mk a) := fun U g mk a h => ⟨va_Nw.same rfl rfl h.1, va_Nw.same rfl rfl h.2.1, va_AO.moved (u := U) (U := U.calling g mk a) (Vm.Alike.refl U.vm) h.2.2⟩
theorem pn_Z2_w {s U : State} (hW : s.WarmedH U.vm) (h : pn_Z2 s) : pn_Z2 U := ⟨h.1.warmM hW, h.2.1.warmM hW, h.2.2.moved hW.alike⟩
theorem pn_psI {D : va_G} {cI cL cZ cO : ClassId} {WS : va_W} {As : List Value} {s : State} {H : Heap} {Z : State → Prop} (hz1 : ∀ (U : State) (g : JFrame) (mk : MethodId) (a : Array Value), Z U → Z (U.calling g mk a)) (hz2 : ∀ U : State, s.WarmedH U.vm → Z U) (hP : va_P D vwCl WS H) (hK : pn_KB D cI cL cZ cO s) {A : Nat → Prop} (hD : va_D A WS) : PreS s H (va_Pc As (pn_Pi D cI cL cZ cO H.size Z WS)) As :=
  ⟨by
    rintro a U g mk ⟨h1, h2, h3, ⟨h4, h5⟩, h6, h7⟩
    exact ⟨h1, h2, h3, ⟨va_K.moved (u := U) (U := U.calling g mk a) (Vm.Alike.refl U.vm) h4, va_Nw.same rfl rfl h5⟩, h6, hz1 U g mk a h7⟩,
   fun U hU hW => ⟨rfl, by rw [hU], by rw [hU]; exact hP, hK.warm hW, hD.weaken (fun _ _ _ _ => trivial), hz2 U hW⟩⟩
theorem pn_mkI {l : Launch} {D : va_G} {cI cL cZ cO : ClassId} {sz mc ms : Nat} {Z : State → Prop} {WS : va_W} {y : MethodName} {ws ws' : List Cond} {rm : Room} {Qc : Array Value → State → Outcome → State → Prop} {A : Addr → Prop} {cc : ByteArray} {maxL : Nat} {ret : Option FieldType} {av : List Value}
    (hy : plainName y.cls = true) (hyn : y.name = "<init>") (hw : ws = Cond.code y cc maxL ret :: ws') (hlen : (lg_sl av).length ≤ maxL)
    (body : ∀ (p : Program) (e : Env) (s : State) (m : MethodId) (below : List Frame) (meth : Method) (c : Code) (ls : Array Slot), p.tables.exec = Jvm.exec → c.code = cc → meth.sig.returnType = ret → c.maxLocals = maxL → s.vm.findClass y.cls = some m.cls → (∀ w ∈ ws, w.before av.toArray s = true) → meth.locks = false → meth.name = "<init>" → pn_KB D cI cL cZ cO s → Z s → sz = s.heap.size → va_P D vwCl WS s.heap → va_D (va_A WS s.heap.size) WS → lv_has ls maxL (lv_args 0 av) →
      W p l e rm s m av.toArray below meth c s.heap [] 0 0 (MQ below Qc av.toArray s mc ms A) (F0 m 0 ls [])) : Met l y ws rm (va_Pc av (pn_Pi D cI cL cZ cO sz Z WS)) Qc mc ms A := by
  refine Met.ofW (cc := cc) (maxL := maxL) (ret := ret) hy hw ?_
  intro p e s m args below meth c s₁ B hml hv
  obtain ⟨rfl, h1, hP, hK, hD, hZ⟩ := hv
  have hl := lv_entry av (n := maxL) hlen
  rw [lg_entry_eq]
  exact body p e s m below meth c _ B.exec B.bytes B.returns hml (findClass_of_methodNamed B.named) (atoms_spec (ws := ws) B.pre) B.notSynchronized ((name_of_methodNamed B.named B.method).1.trans hyn) hK hZ h1.symm hP (hD.self) hl
section PNQ2
variable {p : Program} {l : Launch} {e : Env} {R : Room} {s : State} {m : MethodId} {args : Array Value} {below : List Frame} {meth : Method} {c : Code} {H : Heap} {locs : List Loc} {cells slots : Nat} {Q : State → Prop}
variable {cc : ByteArray} {pc : Nat} {ls : Array Slot} {rest : List Value} {D : va_G} {cl : List vw_C} {A : Nat → Prop} {tys : List (ClassId × FieldType)} {ws : va_W} {H0 : Heap}
theorem pn_newQ (hexec : p.tables.exec = Jvm.exec) (hb : c.code = cc) {own C : String} {index : Nat} (hown : s.vm.findClass own = some m.cls) (hclink : (Cond.classLink own index C).before args s = true) (hover : va_AO C s) (hK : va_K D cl tys s) (t0 : Nat) {cO : ClassId} (ht : tys[t0]? = some (cO, .object C)) (hP : va_P D cl ws H) (hD : va_D A ws) (hS : va_S A H0 H locs) (hA : ∀ q, H0.size ≤ q → A q) {n : Nat} (hn : n ≤ 1000) (hcells : cells + 1 ≤ R.cells) (hslots : slots + n ≤ R.slots) (hdg : decode cc pc = .ok (.anewarray index, 3))
    (kk : ∀ (q : Nat) (H1 : Heap), va_P D cl (ws ++ [(q, .inl (cO, n, .inr (.inr (.inr (.inr (fun _ => none))))))]) H1 → va_D A (ws ++ [(q, .inl (cO, n, .inr (.inr (.inr (.inr (fun _ => none))))))]) → va_S A H0 H1 locs → W p l e R s m args below meth c H1 locs (cells + 1) (slots + n) Q (F0 m (pc + 3) ls (.ref q :: rest))) : W p l e R s m args below meth c H locs cells slots Q (F0 m pc ls (.int (nI n) :: rest)) := by
  refine va_newq hexec hb hown hclink hover hK hP hD hS hA (nI_pos (by omega)) (nI_clamp (by omega)) (by omega) hcells hslots hdg (fun q cA H1 h1 h2 h3 h4 => ?_)
  have e1 := (h1.2 tys.length (cA, .object C) (by rw [List.getElem?_append_right (Nat.le_refl _)]; simp)).2
  have e2 := (h1.2 t0 (cO, .object C) (by rw [List.getElem?_append_left (List.getElem?_eq_some_iff.mp ht).1]; exact ht)).2
  obtain ⟨_, _, -, -, -, e1⟩ := e1
  obtain ⟨_, _, -, -, -, e2⟩ := e2
  obtain rfl : cA = cO := Option.some.inj (e1.symm.trans e2)
  exact kk q H1 h2 h3 h4
theorem pn_astq (hexec : p.tables.exec = Jvm.exec) (hb : c.code = cc) (hK : va_K D cl tys s) (hP : va_P D cl ws H) (hD : va_D A ws) (hS : va_S A H0 H locs) (q0 t0 qk ci : Nat) {a : Nat} {cA : ClassId} {r : vw_C} {n v : Nat} {vs : List Value} {f : Nat → Option Nat} (ha : ws[q0]? = some (a, .inl (cA, n, .inr (.inr (.inr (.inr f)))))) (ht : tys[t0]? = some (cA, .object r.1)) (hv : ws[qk]? = some (v, .inr (ci, vs))) (hc : cl[ci]? = some r) {i : Nat} (hin : i < n) (hn : n < 2 ^ 31) (hdg : decode cc pc = .ok (.aastore, 1))
    (kk : ∀ (H1 : Heap) (locs1 : List Loc), va_P D cl (ws.set q0 (a, .inl (cA, n, .inr (.inr (.inr (.inr (va_up f i (some v)))))))) H1 → va_D A (ws.set q0 (a, .inl (cA, n, .inr (.inr (.inr (.inr (va_up f i (some v)))))))) → va_S A H0 H1 locs1 → W p l e R s m args below meth c H1 locs1 cells slots Q (F0 m (pc + 1) ls rest)) : W p l e R s m args below meth c H locs cells slots Q (F0 m pc ls (.ref v :: .int (nI i) :: .ref a :: rest)) := by
  refine va_astq hexec hb hK hP hD hS q0 t0 qk ci ha ht hv hc (vp_in_nI hin hn) hdg (fun H1 locs1 h1 h2 h3 => ?_)
  rw [nI_clamp (Nat.lt_trans hin hn)] at h1 h2
  exact kk H1 locs1 h1 h2 h3
end PNQ2
