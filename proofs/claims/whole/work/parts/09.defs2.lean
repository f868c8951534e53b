/-! checks in their order -/
noncomputable def pn_if {α : Type} (C : Prop) (a b : α) : α := @ite α C (Classical.propDecidable C) a b
theorem pn_ip {α : Type} {C : Prop} {a b : α} (h : C) : pn_if C a b = a := by unfold pn_if; rw [if_pos h]
theorem pn_in {α : Type} {C : Prop} {a b : α} (h : ¬ C) : pn_if C a b = b := by unfold pn_if; rw [if_neg h]
theorem pn_ic {α : Type} {C C' : Prop} {a b b' : α} (h : C ↔ C') (hb : ¬ C → b = b') : pn_if C a b = pn_if C' a b' := by
  by_cases q : C
  · rw [pn_ip q, pn_ip (h.mp q)]
  · rw [pn_in q, pn_in (fun r => q (h.mpr r)), hb q]
theorem pn_no2 {A B : Prop} (a : A) (b : B) : ¬ (¬ A ∨ ¬ B) := fun q => q.elim (fun f => f a) (fun f => f b)
theorem pn_no3 {A B C : Prop} (a : A) (b : B) (c : C) : ¬ (¬ A ∨ ¬ B ∨ ¬ C) := fun q => q.elim (fun f => f a) (fun q => q.elim (fun f => f b) (fun f => f c))
abbrev pn_yr (y : Int32) : Prop := ¬ y < 0 ∧ ¬ nI 999 < y
abbrev pn_si (t : Int32) : Prop := ¬ t < 0 ∧ ¬ nI 12 ≤ t
abbrev pn_se (x : Int32) : Prop := ¬ x < 0 ∧ ¬ nI 4095 < x
abbrev pn_hw (x : Int32) : Prop := ¬ x < 0 ∧ ¬ nI 2 < x
abbrev pn_ys (a b : Int32) : Prop := pn_yr a ∧ pn_yr b ∧ ¬ b < a
abbrev pn_pp (x w : Int32) : Prop := ¬ x = 0 ∧ (x &&& (w ^^^ (-1))) = 0 ∧ ¬ x = w
section PNQ
variable {p : Program} {l : Launch} {e : Env} {R : Room} {s : State} {m : MethodId} {args : Array Value} {below : List Frame} {meth : Method} {c : Code} {H : Heap} {locs : List Loc} {cells slots : Nat} {Q : State → Prop}
variable {cc : ByteArray} {pc : Nat} {ls : Array Slot} {rest : List Value} {D : va_G} {cl : List vw_C} {a : Nat} {tys : List (ClassId × FieldType)} {ws : va_W}
theorem pn_aald (hexec : p.tables.exec = Jvm.exec) (hb : c.code = cc) (hK : va_K D cl tys s) (hP : va_P D cl ws H) (q0 t0 : Nat) {cA : ClassId} {C : String} {n b : Nat} {f : Nat → Option Nat} (ha : ws[q0]? = some (a, .inl (cA, n, .inr (.inr (.inr (.inr f)))))) (ht : tys[t0]? = some (cA, .object C)) {i : Nat} (hin : i < n) (hn : n < 2 ^ 31) (hf : f i = some b) (hdg : decode cc pc = .ok (.aaload, 1))
    (kk : W p l e R s m args below meth c H locs cells slots Q (F0 m (pc + 1) ls (.ref b :: rest))) : W p l e R s m args below meth c H locs cells slots Q (F0 m pc ls (.int (nI i) :: .ref a :: rest)) := by
  refine va_aldq hexec hb hK hP q0 t0 ha ht (vp_in_nI hin hn) hdg ?_
  rw [nI_clamp (Nat.lt_trans hin hn), hf]
  exact kk
end PNQ
theorem fa_ltP (a b : Int32) : a < b ↔ a.toInt < b.toInt := Int32.lt_iff_toInt_lt
theorem fa_leP (a b : Int32) : a ≤ b ↔ a.toInt ≤ b.toInt := Int32.le_iff_toInt_le
theorem fa_eqP (a b : Int32) : a = b ↔ a.toInt = b.toInt := ⟨fun h => by rw [h], fun h => Int32.toInt_inj.mp h⟩
theorem pn_ofLe {x : Int32} {n : Nat} (h0 : ¬ x < 0) (h : x ≤ nI n) (hn : n < 2 ^ 31) : ∃ k : Nat, k ≤ n ∧ x = nI k := pn_ofK h0 (Int32.not_lt.mpr h) hn
theorem pn_m1 {x : Int32} (h : (-1) ≤ x) (h2 : ¬ x = (-1)) : ¬ x < 0 := by
  intro q
  rw [fa_leP] at h
  rw [fa_ltP] at q
  apply h2
  rw [fa_eqP]
  have e1 : ((-1 : Int32)).toInt = -1 := by decide
  have e2 : ((0 : Int32)).toInt = 0 := by decide
  omega
def pn_sf (Y S O : Nat → Int32) (n t g nx wh : Nat) : Int32 := match wh with
  | 0 => pn_fy Y n g
  | 2 => pn_own S O t g
  | _ => if n < nx then nI 999 else pn_fy Y n nx - nI 1
