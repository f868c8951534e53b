section
-- ===== PART A: goes FIRST, ahead of the names: the tables' words, and 'selects' of the private methods out of them =====
/-- a private method of a class that the tables say can be made, by its rows of tables_1 -/
def lw_okq (q : MethodName × Nat) : Prop := (q.1.cls ≠ "java/lang/invoke/MethodHandle" ∧ q.1.cls ≠ "java/lang/invoke/VarHandle") ∧ Cond.instantiable q.1.cls q.2 ∈ tables_1 ∧ Cond.privateMethod q.1 ∈ tables_1 ∧ Cond.instanceMethod q.1 ∈ tables_1
theorem lw_p0 : lw_okq (⟨"ParishNames", "padIsNoName", "()Z"⟩, 5) := ⟨⟨by decide +kernel, by decide +kernel⟩, List.mem_of_getElem? (i := 9) (by decide +kernel), List.mem_of_getElem? (i := 105) (by decide +kernel), List.mem_of_getElem? (i := 106) (by decide +kernel)⟩
theorem lw_p1 : lw_okq (⟨"ParishNames", "takePad", "()J"⟩, 5) := ⟨⟨by decide +kernel, by decide +kernel⟩, List.mem_of_getElem? (i := 9) (by decide +kernel), List.mem_of_getElem? (i := 132) (by decide +kernel), List.mem_of_getElem? (i := 133) (by decide +kernel)⟩
theorem lw_p2 : lw_okq (⟨"ParishNames", "wasCalled", "(IIII)Z"⟩, 5) := ⟨⟨by decide +kernel, by decide +kernel⟩, List.mem_of_getElem? (i := 9) (by decide +kernel), List.mem_of_getElem? (i := 290) (by decide +kernel), List.mem_of_getElem? (i := 291) (by decide +kernel)⟩
theorem lw_p3 : lw_okq (⟨"ParishNames", "spanFact", "(IIII)I"⟩, 5) := ⟨⟨by decide +kernel, by decide +kernel⟩, List.mem_of_getElem? (i := 9) (by decide +kernel), List.mem_of_getElem? (i := 338) (by decide +kernel), List.mem_of_getElem? (i := 339) (by decide +kernel)⟩
theorem lw_p4 : lw_okq (⟨"ParishNames$Chronicle", "isNameOfLesser", "(I)Z"⟩, 8) := ⟨⟨by decide +kernel, by decide +kernel⟩, List.mem_of_getElem? (i := 17) (by decide +kernel), List.mem_of_getElem? (i := 375) (by decide +kernel), List.mem_of_getElem? (i := 376) (by decide +kernel)⟩
theorem lw_p5 : lw_okq (⟨"ParishNamesModel", "isParish", "(I)Z"⟩, 16) := ⟨⟨by decide +kernel, by decide +kernel⟩, List.mem_of_getElem? (i := 383) (by decide +kernel), List.mem_of_getElem? (i := 454) (by decide +kernel), List.mem_of_getElem? (i := 455) (by decide +kernel)⟩
theorem lw_p6 : lw_okq (⟨"ParishNamesModel", "lastYear", "()I"⟩, 16) := ⟨⟨by decide +kernel, by decide +kernel⟩, List.mem_of_getElem? (i := 383) (by decide +kernel), List.mem_of_getElem? (i := 461) (by decide +kernel), List.mem_of_getElem? (i := 462) (by decide +kernel)⟩
theorem lw_p7 : lw_okq (⟨"ParishNamesModel", "goToEnd", "()V"⟩, 16) := ⟨⟨by decide +kernel, by decide +kernel⟩, List.mem_of_getElem? (i := 383) (by decide +kernel), List.mem_of_getElem? (i := 465) (by decide +kernel), List.mem_of_getElem? (i := 466) (by decide +kernel)⟩
theorem lw_p8 : lw_okq (⟨"ParishNamesModel", "goThrough", "(I)V"⟩, 16) := ⟨⟨by decide +kernel, by decide +kernel⟩, List.mem_of_getElem? (i := 383) (by decide +kernel), List.mem_of_getElem? (i := 469) (by decide +kernel), List.mem_of_getElem? (i := 470) (by decide +kernel)⟩
theorem lw_p9 : lw_okq (⟨"ParishNamesModel", "sitesOf", "(I)I"⟩, 16) := ⟨⟨by decide +kernel, by decide +kernel⟩, List.mem_of_getElem? (i := 383) (by decide +kernel), List.mem_of_getElem? (i := 473) (by decide +kernel), List.mem_of_getElem? (i := 474) (by decide +kernel)⟩
theorem lw_p10 : lw_okq (⟨"ParishNamesModel", "add", "(IIIII)V"⟩, 16) := ⟨⟨by decide +kernel, by decide +kernel⟩, List.mem_of_getElem? (i := 383) (by decide +kernel), List.mem_of_getElem? (i := 477) (by decide +kernel), List.mem_of_getElem? (i := 478) (by decide +kernel)⟩
theorem lw_p11 : lw_okq (⟨"ParishNamesModel", "takeName", "(I)V"⟩, 16) := ⟨⟨by decide +kernel, by decide +kernel⟩, List.mem_of_getElem? (i := 383) (by decide +kernel), List.mem_of_getElem? (i := 481) (by decide +kernel), List.mem_of_getElem? (i := 482) (by decide +kernel)⟩
theorem lw_p12 : lw_okq (⟨"ParishNamesModel", "isSome", "(II)Z"⟩, 16) := ⟨⟨by decide +kernel, by decide +kernel⟩, List.mem_of_getElem? (i := 383) (by decide +kernel), List.mem_of_getElem? (i := 489) (by decide +kernel), List.mem_of_getElem? (i := 490) (by decide +kernel)⟩
theorem lw_p13 : lw_okq (⟨"ParishNamesModel", "goTo", "(I)V"⟩, 16) := ⟨⟨by decide +kernel, by decide +kernel⟩, List.mem_of_getElem? (i := 383) (by decide +kernel), List.mem_of_getElem? (i := 516) (by decide +kernel), List.mem_of_getElem? (i := 517) (by decide +kernel)⟩
theorem lw_p14 : lw_okq (⟨"ParishNamesModel", "lettersOf", "(I)I"⟩, 16) := ⟨⟨by decide +kernel, by decide +kernel⟩, List.mem_of_getElem? (i := 383) (by decide +kernel), List.mem_of_getElem? (i := 528) (by decide +kernel), List.mem_of_getElem? (i := 529) (by decide +kernel)⟩
theorem lw_p15 : lw_okq (⟨"ParishNamesModel", "letterOf", "(II)I"⟩, 16) := ⟨⟨by decide +kernel, by decide +kernel⟩, List.mem_of_getElem? (i := 383) (by decide +kernel), List.mem_of_getElem? (i := 532) (by decide +kernel), List.mem_of_getElem? (i := 533) (by decide +kernel)⟩
def lw_privs_1 : List (MethodName × Nat) := [(⟨"ParishNames", "padIsNoName", "()Z"⟩, 5), (⟨"ParishNames", "takePad", "()J"⟩, 5), (⟨"ParishNames", "wasCalled", "(IIII)Z"⟩, 5), (⟨"ParishNames", "spanFact", "(IIII)I"⟩, 5), (⟨"ParishNames$Chronicle", "isNameOfLesser", "(I)Z"⟩, 8), (⟨"ParishNamesModel", "isParish", "(I)Z"⟩, 16), (⟨"ParishNamesModel", "lastYear", "()I"⟩, 16), (⟨"ParishNamesModel", "goToEnd", "()V"⟩, 16), (⟨"ParishNamesModel", "goThrough", "(I)V"⟩, 16), (⟨"ParishNamesModel", "sitesOf", "(I)I"⟩, 16), (⟨"ParishNamesModel", "add", "(IIIII)V"⟩, 16), (⟨"ParishNamesModel", "takeName", "(I)V"⟩, 16), (⟨"ParishNamesModel", "isSome", "(II)Z"⟩, 16), (⟨"ParishNamesModel", "goTo", "(I)V"⟩, 16), (⟨"ParishNamesModel", "lettersOf", "(I)I"⟩, 16), (⟨"ParishNamesModel", "letterOf", "(II)I"⟩, 16)]
theorem lw_r1 : ∀ q ∈ lw_privs_1, lw_okq q := List.forall_mem_cons.mpr ⟨lw_p0, List.forall_mem_cons.mpr ⟨lw_p1, List.forall_mem_cons.mpr ⟨lw_p2, List.forall_mem_cons.mpr ⟨lw_p3, List.forall_mem_cons.mpr ⟨lw_p4, List.forall_mem_cons.mpr ⟨lw_p5, List.forall_mem_cons.mpr ⟨lw_p6, List.forall_mem_cons.mpr ⟨lw_p7, List.forall_mem_cons.mpr ⟨lw_p8, List.forall_mem_cons.mpr ⟨lw_p9, List.forall_mem_cons.mpr ⟨lw_p10, List.forall_mem_cons.mpr ⟨lw_p11, List.forall_mem_cons.mpr ⟨lw_p12, List.forall_mem_cons.mpr ⟨lw_p13, List.forall_mem_cons.mpr ⟨lw_p14, List.forall_mem_cons.mpr ⟨lw_p15, fun _ h => absurd h List.not_mem_nil⟩⟩⟩⟩⟩⟩⟩⟩⟩⟩⟩⟩⟩⟩⟩⟩
theorem lw_p16 : lw_okq (⟨"ParishNamesModel", "layFirst", "(I)V"⟩, 16) := ⟨⟨by decide +kernel, by decide +kernel⟩, List.mem_of_getElem? (i := 383) (by decide +kernel), List.mem_of_getElem? (i := 540) (by decide +kernel), List.mem_of_getElem? (i := 541) (by decide +kernel)⟩
theorem lw_p17 : lw_okq (⟨"ParishNamesModel", "toldOf", "(I)I"⟩, 16) := ⟨⟨by decide +kernel, by decide +kernel⟩, List.mem_of_getElem? (i := 383) (by decide +kernel), List.mem_of_getElem? (i := 554) (by decide +kernel), List.mem_of_getElem? (i := 555) (by decide +kernel)⟩
theorem lw_p18 : lw_okq (⟨"ParishNamesModel", "layPad", "()V"⟩, 16) := ⟨⟨by decide +kernel, by decide +kernel⟩, List.mem_of_getElem? (i := 383) (by decide +kernel), List.mem_of_getElem? (i := 568) (by decide +kernel), List.mem_of_getElem? (i := 569) (by decide +kernel)⟩
theorem lw_p19 : lw_okq (⟨"ParishNamesModel", "isLike", "(II)Z"⟩, 16) := ⟨⟨by decide +kernel, by decide +kernel⟩, List.mem_of_getElem? (i := 383) (by decide +kernel), List.mem_of_getElem? (i := 572) (by decide +kernel), List.mem_of_getElem? (i := 573) (by decide +kernel)⟩
theorem lw_p20 : lw_okq (⟨"ParishNamesModel", "areSame", "()Z"⟩, 16) := ⟨⟨by decide +kernel, by decide +kernel⟩, List.mem_of_getElem? (i := 383) (by decide +kernel), List.mem_of_getElem? (i := 576) (by decide +kernel), List.mem_of_getElem? (i := 577) (by decide +kernel)⟩
theorem lw_p21 : lw_okq (⟨"ParishNamesModel", "soundSame", "()Z"⟩, 16) := ⟨⟨by decide +kernel, by decide +kernel⟩, List.mem_of_getElem? (i := 383) (by decide +kernel), List.mem_of_getElem? (i := 580) (by decide +kernel), List.mem_of_getElem? (i := 581) (by decide +kernel)⟩
theorem lw_p22 : lw_okq (⟨"ParishNamesModel", "offNow", "()I"⟩, 16) := ⟨⟨by decide +kernel, by decide +kernel⟩, List.mem_of_getElem? (i := 383) (by decide +kernel), List.mem_of_getElem? (i := 584) (by decide +kernel), List.mem_of_getElem? (i := 585) (by decide +kernel)⟩
theorem lw_p23 : lw_okq (⟨"ParishNamesModel", "keepFirst", "()V"⟩, 16) := ⟨⟨by decide +kernel, by decide +kernel⟩, List.mem_of_getElem? (i := 383) (by decide +kernel), List.mem_of_getElem? (i := 603) (by decide +kernel), List.mem_of_getElem? (i := 604) (by decide +kernel)⟩
theorem lw_p24 : lw_okq (⟨"ParishNamesModel", "ofKind", "(I)I"⟩, 16) := ⟨⟨by decide +kernel, by decide +kernel⟩, List.mem_of_getElem? (i := 383) (by decide +kernel), List.mem_of_getElem? (i := 623) (by decide +kernel), List.mem_of_getElem? (i := 624) (by decide +kernel)⟩
theorem lw_p25 : lw_okq (⟨"ParishNamesModel", "thereNow", "()I"⟩, 16) := ⟨⟨by decide +kernel, by decide +kernel⟩, List.mem_of_getElem? (i := 383) (by decide +kernel), List.mem_of_getElem? (i := 627) (by decide +kernel), List.mem_of_getElem? (i := 628) (by decide +kernel)⟩
theorem lw_p26 : lw_okq (⟨"ParishNamesModel", "namesNow", "()I"⟩, 16) := ⟨⟨by decide +kernel, by decide +kernel⟩, List.mem_of_getElem? (i := 383) (by decide +kernel), List.mem_of_getElem? (i := 631) (by decide +kernel), List.mem_of_getElem? (i := 632) (by decide +kernel)⟩
def lw_privs_2 : List (MethodName × Nat) := [(⟨"ParishNamesModel", "layFirst", "(I)V"⟩, 16), (⟨"ParishNamesModel", "toldOf", "(I)I"⟩, 16), (⟨"ParishNamesModel", "layPad", "()V"⟩, 16), (⟨"ParishNamesModel", "isLike", "(II)Z"⟩, 16), (⟨"ParishNamesModel", "areSame", "()Z"⟩, 16), (⟨"ParishNamesModel", "soundSame", "()Z"⟩, 16), (⟨"ParishNamesModel", "offNow", "()I"⟩, 16), (⟨"ParishNamesModel", "keepFirst", "()V"⟩, 16), (⟨"ParishNamesModel", "ofKind", "(I)I"⟩, 16), (⟨"ParishNamesModel", "thereNow", "()I"⟩, 16), (⟨"ParishNamesModel", "namesNow", "()I"⟩, 16)]
theorem lw_r2 : ∀ q ∈ lw_privs_2, lw_okq q := List.forall_mem_cons.mpr ⟨lw_p16, List.forall_mem_cons.mpr ⟨lw_p17, List.forall_mem_cons.mpr ⟨lw_p18, List.forall_mem_cons.mpr ⟨lw_p19, List.forall_mem_cons.mpr ⟨lw_p20, List.forall_mem_cons.mpr ⟨lw_p21, List.forall_mem_cons.mpr ⟨lw_p22, List.forall_mem_cons.mpr ⟨lw_p23, List.forall_mem_cons.mpr ⟨lw_p24, List.forall_mem_cons.mpr ⟨lw_p25, List.forall_mem_cons.mpr ⟨lw_p26, fun _ h => absurd h List.not_mem_nil⟩⟩⟩⟩⟩⟩⟩⟩⟩⟩⟩
def lw_privs : List (MethodName × Nat) := lw_privs_1 ++ (lw_privs_2)
def lw_tbl : List Cond := k2_sels lw_privs ++ tables_1
theorem lw_privs_ok : ∀ q ∈ lw_privs, lw_okq q := by
  show ∀ q ∈ lw_privs_1 ++ (lw_privs_2), lw_okq q
  exact List.forall_mem_append.mpr ⟨lw_r1, lw_r2⟩
/-! ===== BEGIN words of one list among another's, by their places ===== -/
theorem goodIn_r {big : List Cond} (ws : List Cond) (ps : List Nat) (hp : ws = ps.filterMap (fun i => big[i]?)) (h : ws.all goodWord = true) : GoodIn big ws := by
  intro w hw
  have h1 := List.all_eq_true.mp h w hw
  rw [hp] at hw
  obtain ⟨i, -, hi⟩ := List.mem_filterMap.mp hw
  have hm : w ∈ big := by first | exact List.mem_of_getElem? hi | exact List.getElem?_mem hi
  exact ⟨hm, good_of_word h1⟩
theorem goodIn_app {big a b : List Cond} (ha : GoodIn big a) (hb : GoodIn big b) : GoodIn big (a ++ b) := fun w h => (List.mem_append.mp h).elim (ha w) (hb w)
theorem goodIn_ca {big a b : List Cond} {c : Cond} (ha : GoodIn big (c :: a)) (hb : GoodIn big b) : GoodIn big (c :: (a ++ b)) := fun w h => (List.mem_cons.mp h).elim (fun e => ha w (List.mem_cons.mpr (Or.inl e))) (fun h => (List.mem_append.mp h).elim (fun h => ha w (List.mem_cons.mpr (Or.inr h))) (hb w))
theorem goodIn_sub {big ws : List Cond} (hm : ∀ w ∈ ws, w ∈ big) (h : ws.all goodWord = true) : GoodIn big ws := fun w hw => ⟨hm w hw, good_of_word (List.all_eq_true.mp h w hw)⟩
/-! ===== END ===== -/

/-! ===== BEGIN printed: names, fields, word lists, decode rows ===== -/
def RX0 : String := "ParishNames$Chronicle"
def TX0 : u_T := fun k => match k with
  | 0 => ("ParishNames$Chronicle", "kinds", "[I", true)
  | 1 => ("ParishNames$Chronicle", "years", "[I", true)
  | 2 => ("ParishNames$Chronicle", "parishes", "[I", true)
  | 3 => ("ParishNames$Chronicle", "sets", "[I", true)
  | 4 => ("ParishNames$Chronicle", "owners", "[I", true)
  | 5 => ("ParishNames$Chronicle", "names", "[J", true)
  | 6 => ("ParishNames$Chronicle", "told", "I", false)
  | _ => ("ParishNames$Chronicle", "founded", "I", false)
def tyX0 : Nat → FieldType := fun k => match k with
  | 0 => .array .int
  | 1 => .array .int
  | 2 => .array .int
  | 3 => .array .int
  | 4 => .array .int
  | 5 => .array .long
  | 6 => .int
  | _ => .int
abbrev wsX00 : List Cond := u_ws RX0 TX0 8
theorem nmX0 : ∀ a, a < 8 → ∀ b, b < 8 → a ≠ b → (TX0 a).2.1 ≠ (TX0 b).2.1 := by decide +kernel
theorem tyX0_ok : ∀ k, k < 8 → parseFieldDescriptor (TX0 k).2.2.1 = some (tyX0 k) := by decide +kernel
abbrev cX0_init : ByteArray := prog_2_method_1_code
def yX0_init : MethodName := ⟨RX0, "<init>", "()V"⟩
abbrev cX0_eventCount : ByteArray := prog_2_method_2_code
def yX0_eventCount : MethodName := ⟨RX0, "eventCount", "()I"⟩
abbrev cX0_lastEvent : ByteArray := prog_2_method_3_code
def yX0_lastEvent : MethodName := ⟨RX0, "lastEvent", "()I"⟩
abbrev cX0_parishCount : ByteArray := prog_2_method_4_code
def yX0_parishCount : MethodName := ⟨RX0, "parishCount", "()I"⟩
abbrev cX0_isFull : ByteArray := prog_2_method_5_code
def yX0_isFull : MethodName := ⟨RX0, "isFull", "()Z"⟩
abbrev cX0_knows : ByteArray := prog_2_method_6_code
def yX0_knows : MethodName := ⟨RX0, "knows", "(I)Z"⟩
abbrev cX0_yearOfLast : ByteArray := prog_2_method_7_code
def yX0_yearOfLast : MethodName := ⟨RX0, "yearOfLast", "()I"⟩
abbrev cX0_tell : ByteArray := prog_2_method_8_code
def yX0_tell : MethodName := ⟨RX0, "tell", "(IIIIIJ)V"⟩
abbrev cX0_forgetLast : ByteArray := prog_2_method_9_code
def yX0_forgetLast : MethodName := ⟨RX0, "forgetLast", "()V"⟩
abbrev cX0_becomeLike : ByteArray := prog_2_method_10_code
def yX0_becomeLike : MethodName := ⟨RX0, "becomeLike", "(LParishNames$Chronicle;)V"⟩
abbrev cX0_factOf : ByteArray := prog_2_method_11_code
def yX0_factOf : MethodName := ⟨RX0, "factOf", "(II)I"⟩
abbrev cX0_firstYear : ByteArray := prog_2_method_12_code
def yX0_firstYear : MethodName := ⟨RX0, "firstYear", "(I)I"⟩
abbrev cX0_lastYear : ByteArray := prog_2_method_13_code
def yX0_lastYear : MethodName := ⟨RX0, "lastYear", "(I)I"⟩
abbrev cX0_holdsInAYear : ByteArray := prog_2_method_14_code
def yX0_holdsInAYear : MethodName := ⟨RX0, "holdsInAYear", "(I)Z"⟩
abbrev cX0_stageIn : ByteArray := prog_2_method_15_code
def yX0_stageIn : MethodName := ⟨RX0, "stageIn", "(I)I"⟩
abbrev cX0_sitesAtFirst : ByteArray := prog_2_method_16_code
def yX0_sitesAtFirst : MethodName := ⟨RX0, "sitesAtFirst", "(I)I"⟩
abbrev cX0_nameAtFirst : ByteArray := prog_2_method_17_code
def yX0_nameAtFirst : MethodName := ⟨RX0, "nameAtFirst", "(I)J"⟩
abbrev cX0_sitesThrough : ByteArray := prog_2_method_18_code
def yX0_sitesThrough : MethodName := ⟨RX0, "sitesThrough", "(III)I"⟩
abbrev cX0_nameThrough : ByteArray := prog_2_method_19_code
def yX0_nameThrough : MethodName := ⟨RX0, "nameThrough", "(IIJ)J"⟩
abbrev cX0_sitesBehind : ByteArray := prog_2_method_20_code
def yX0_sitesBehind : MethodName := ⟨RX0, "sitesBehind", "(II)I"⟩
abbrev cX0_nameBehind : ByteArray := prog_2_method_21_code
def yX0_nameBehind : MethodName := ⟨RX0, "nameBehind", "(II)J"⟩
abbrev cX0_ownerBehind : ByteArray := prog_2_method_22_code
def yX0_ownerBehind : MethodName := ⟨RX0, "ownerBehind", "(II)I"⟩
abbrev cX0_sitesNow : ByteArray := prog_2_method_23_code
def yX0_sitesNow : MethodName := ⟨RX0, "sitesNow", "(I)I"⟩
abbrev cX0_nameIn : ByteArray := prog_2_method_24_code
def yX0_nameIn : MethodName := ⟨RX0, "nameIn", "(II)J"⟩
abbrev cX0_nameAt : ByteArray := prog_2_method_25_code
def yX0_nameAt : MethodName := ⟨RX0, "nameAt", "(II)J"⟩
abbrev cX0_eventsOf : ByteArray := prog_2_method_26_code
def yX0_eventsOf : MethodName := ⟨RX0, "eventsOf", "(I)I"⟩
abbrev cX0_eventsOfKind : ByteArray := prog_2_method_27_code
def yX0_eventsOfKind : MethodName := ⟨RX0, "eventsOfKind", "(I)I"⟩
abbrev cX0_lifeOf : ByteArray := prog_2_method_28_code
def yX0_lifeOf : MethodName := ⟨RX0, "lifeOf", "(II)I"⟩
abbrev cX0_nextSpan : ByteArray := prog_2_method_29_code
def yX0_nextSpan : MethodName := ⟨RX0, "nextSpan", "(II)I"⟩
abbrev cX0_parishesNow : ByteArray := prog_2_method_30_code
def yX0_parishesNow : MethodName := ⟨RX0, "parishesNow", "()I"⟩
abbrev cX0_unlikeNamesNow : ByteArray := prog_2_method_31_code
def yX0_unlikeNamesNow : MethodName := ⟨RX0, "unlikeNamesNow", "()I"⟩
abbrev cX0_isNameOfLesser : ByteArray := prog_2_method_32_code
def yX0_isNameOfLesser : MethodName := ⟨RX0, "isNameOfLesser", "(I)Z"⟩
def RX1 : String := "ParishNames$Speller"
def TX1 : u_T := fun k => match k with
  | _ => ("ParishNames$Speller", "row", "[I", true)
def tyX1 : Nat → FieldType := fun k => match k with
  | _ => .array .int
abbrev wsX10 : List Cond := u_ws RX1 TX1 1
theorem nmX1 : ∀ a, a < 1 → ∀ b, b < 1 → a ≠ b → (TX1 a).2.1 ≠ (TX1 b).2.1 := by decide +kernel
theorem tyX1_ok : ∀ k, k < 1 → parseFieldDescriptor (TX1 k).2.2.1 = some (tyX1 k) := by decide +kernel
abbrev cX1_init : ByteArray := prog_3_method_1_code
def yX1_init : MethodName := ⟨RX1, "<init>", "()V"⟩
abbrev cX1_letterOf : ByteArray := prog_3_method_2_code
def yX1_letterOf : MethodName := ⟨RX1, "letterOf", "(JI)I"⟩
abbrev cX1_withLetter : ByteArray := prog_3_method_3_code
def yX1_withLetter : MethodName := ⟨RX1, "withLetter", "(JII)J"⟩
abbrev cX1_lengthOf : ByteArray := prog_3_method_4_code
def yX1_lengthOf : MethodName := ⟨RX1, "lengthOf", "(J)I"⟩
abbrev cX1_classOf : ByteArray := prog_3_method_5_code
def yX1_classOf : MethodName := ⟨RX1, "classOf", "(I)I"⟩
abbrev cX1_soundOf : ByteArray := prog_3_method_6_code
def yX1_soundOf : MethodName := ⟨RX1, "soundOf", "(J)I"⟩
abbrev cX1_lengthOfSound : ByteArray := prog_3_method_7_code
def yX1_lengthOfSound : MethodName := ⟨RX1, "lengthOfSound", "(I)I"⟩
abbrev cX1_classOfSound : ByteArray := prog_3_method_8_code
def yX1_classOfSound : MethodName := ⟨RX1, "classOfSound", "(II)I"⟩
abbrev cX1_areAlike : ByteArray := prog_3_method_9_code
def yX1_areAlike : MethodName := ⟨RX1, "areAlike", "(JJI)Z"⟩
abbrev cX1_distance : ByteArray := prog_3_method_10_code
def yX1_distance : MethodName := ⟨RX1, "distance", "(JJ)I"⟩
def RX2 : String := "ParishNames"
def TX2 : u_T := fun k => match k with
  | 0 => ("ParishNames", "now", "LParishNames$Chronicle;", true)
  | 1 => ("ParishNames", "kept", "[LParishNames$Chronicle;", true)
  | 2 => ("ParishNames", "speller", "LParishNames$Speller;", true)
  | 3 => ("ParishNames", "keptSet", "I", false)
  | _ => ("ParishNames", "pad", "J", false)
def tyX2 : Nat → FieldType := fun k => match k with
  | 0 => .object "ParishNames$Chronicle"
  | 1 => .array (.object "ParishNames$Chronicle")
  | 2 => .object "ParishNames$Speller"
  | 3 => .int
  | _ => .long
abbrev wsX20 : List Cond := u_ws RX2 TX2 5
theorem nmX2 : ∀ a, a < 5 → ∀ b, b < 5 → a ≠ b → (TX2 a).2.1 ≠ (TX2 b).2.1 := by decide +kernel
theorem tyX2_ok : ∀ k, k < 5 → parseFieldDescriptor (TX2 k).2.2.1 = some (tyX2 k) := by decide +kernel
abbrev cX2_init : ByteArray := prog_1_method_1_code
def yX2_init : MethodName := ⟨RX2, "<init>", "()V"⟩
abbrev cX2_say : ByteArray := prog_1_method_2_code
def yX2_say : MethodName := ⟨RX2, "say", "(I)I"⟩
abbrev cX2_wipe : ByteArray := prog_1_method_3_code
def yX2_wipe : MethodName := ⟨RX2, "wipe", "()I"⟩
abbrev cX2_name : ByteArray := prog_1_method_4_code
def yX2_name : MethodName := ⟨RX2, "name", "(II)I"⟩
abbrev cX2_split : ByteArray := prog_1_method_5_code
def yX2_split : MethodName := ⟨RX2, "split", "(III)I"⟩
abbrev cX2_merge : ByteArray := prog_1_method_6_code
def yX2_merge : MethodName := ⟨RX2, "merge", "(III)I"⟩
abbrev cX2_shift : ByteArray := prog_1_method_7_code
def yX2_shift : MethodName := ⟨RX2, "shift", "(IIII)I"⟩
abbrev cX2_undo : ByteArray := prog_1_method_8_code
def yX2_undo : MethodName := ⟨RX2, "undo", "()I"⟩
abbrev cX2_event : ByteArray := prog_1_method_9_code
def yX2_event : MethodName := ⟨RX2, "event", "(II)I"⟩
abbrev cX2_at : ByteArray := prog_1_method_10_code
def yX2_at : MethodName := ⟨RX2, "at", "(II)I"⟩
abbrev cX2_sites : ByteArray := prog_1_method_11_code
def yX2_sites : MethodName := ⟨RX2, "sites", "(II)I"⟩
abbrev cX2_letter : ByteArray := prog_1_method_12_code
def yX2_letter : MethodName := ⟨RX2, "letter", "(III)I"⟩
abbrev cX2_sound : ByteArray := prog_1_method_13_code
def yX2_sound : MethodName := ⟨RX2, "sound", "(III)I"⟩
abbrev cX2_parish : ByteArray := prog_1_method_14_code
def yX2_parish : MethodName := ⟨RX2, "parish", "(II)I"⟩
abbrev cX2_find : ByteArray := prog_1_method_15_code
def yX2_find : MethodName := ⟨RX2, "find", "(IIII)I"⟩
abbrev cX2_called : ByteArray := prog_1_method_16_code
def yX2_called : MethodName := ⟨RX2, "called", "(IIIII)I"⟩
abbrev cX2_off : ByteArray := prog_1_method_17_code
def yX2_off : MethodName := ⟨RX2, "off", "(II)I"⟩
abbrev cX2_span : ByteArray := prog_1_method_18_code
def yX2_span : MethodName := ⟨RX2, "span", "(III)I"⟩
abbrev cX2_heirs : ByteArray := prog_1_method_19_code
def yX2_heirs : MethodName := ⟨RX2, "heirs", "(III)I"⟩
abbrev cX2_image : ByteArray := prog_1_method_20_code
def yX2_image : MethodName := ⟨RX2, "image", "(I)I"⟩
abbrev cX2_restore : ByteArray := prog_1_method_21_code
def yX2_restore : MethodName := ⟨RX2, "restore", "(I)I"⟩
abbrev cX2_count : ByteArray := prog_1_method_22_code
def yX2_count : MethodName := ⟨RX2, "count", "(I)I"⟩
abbrev cX2_isYear : ByteArray := prog_1_method_23_code
def yX2_isYear : MethodName := ⟨RX2, "isYear", "(I)Z"⟩
abbrev cX2_areYears : ByteArray := prog_1_method_24_code
def yX2_areYears : MethodName := ⟨RX2, "areYears", "(II)Z"⟩
abbrev cX2_isSite : ByteArray := prog_1_method_25_code
def yX2_isSite : MethodName := ⟨RX2, "isSite", "(I)Z"⟩
abbrev cX2_isSetOfSites : ByteArray := prog_1_method_26_code
def yX2_isSetOfSites : MethodName := ⟨RX2, "isSetOfSites", "(I)Z"⟩
abbrev cX2_isHow : ByteArray := prog_1_method_27_code
def yX2_isHow : MethodName := ⟨RX2, "isHow", "(I)Z"⟩
abbrev cX2_has : ByteArray := prog_1_method_28_code
def yX2_has : MethodName := ⟨RX2, "has", "(II)Z"⟩
abbrev cX2_isProperPart : ByteArray := prog_1_method_29_code
def yX2_isProperPart : MethodName := ⟨RX2, "isProperPart", "(II)Z"⟩
abbrev cX2_padIsNoName : ByteArray := prog_1_method_30_code
def yX2_padIsNoName : MethodName := ⟨RX2, "padIsNoName", "()Z"⟩
abbrev cX2_takePad : ByteArray := prog_1_method_31_code
def yX2_takePad : MethodName := ⟨RX2, "takePad", "()J"⟩
abbrev cX2_wasCalled : ByteArray := prog_1_method_32_code
def yX2_wasCalled : MethodName := ⟨RX2, "wasCalled", "(IIII)Z"⟩
abbrev cX2_spanFact : ByteArray := prog_1_method_33_code
def yX2_spanFact : MethodName := ⟨RX2, "spanFact", "(IIII)I"⟩
def RX3 : String := "ParishNamesModel"
def TX3 : u_T := fun k => match k with
  | 0 => ("ParishNamesModel", "state", "[I", true)
  | 1 => ("ParishNamesModel", "images", "[I", true)
  | 2 => ("ParishNamesModel", "isKept", "[Z", true)
  | 3 => ("ParishNamesModel", "pad", "[I", true)
  | 4 => ("ParishNamesModel", "said", "I", false)
  | 5 => ("ParishNamesModel", "owner", "[I", true)
  | 6 => ("ParishNamesModel", "namedBy", "[I", true)
  | 7 => ("ParishNamesModel", "first", "[I", true)
  | 8 => ("ParishNamesModel", "firstLong", "I", false)
  | 9 => ("ParishNamesModel", "second", "[I", true)
  | 10 => ("ParishNamesModel", "secondLong", "I", false)
  | 11 => ("ParishNamesModel", "firstSound", "[I", true)
  | 12 => ("ParishNamesModel", "firstClasses", "I", false)
  | 13 => ("ParishNamesModel", "secondSound", "[I", true)
  | 14 => ("ParishNamesModel", "secondClasses", "I", false)
  | _ => ("ParishNamesModel", "costs", "[I", true)
def tyX3 : Nat → FieldType := fun k => match k with
  | 0 => .array .int
  | 1 => .array .int
  | 2 => .array .boolean
  | 3 => .array .int
  | 4 => .int
  | 5 => .array .int
  | 6 => .array .int
  | 7 => .array .int
  | 8 => .int
  | 9 => .array .int
  | 10 => .int
  | 11 => .array .int
  | 12 => .int
  | 13 => .array .int
  | 14 => .int
  | _ => .array .int
abbrev wsX30 : List Cond := u_ws RX3 TX3 16
theorem nmX3 : ∀ a, a < 16 → ∀ b, b < 16 → a ≠ b → (TX3 a).2.1 ≠ (TX3 b).2.1 := by decide +kernel
theorem tyX3_ok : ∀ k, k < 16 → parseFieldDescriptor (TX3 k).2.2.1 = some (tyX3 k) := by decide +kernel
abbrev cX3_init : ByteArray := prog_5_method_1_code
def yX3_init : MethodName := ⟨RX3, "<init>", "()V"⟩
abbrev cX3_in : ByteArray := prog_5_method_2_code
def yX3_in : MethodName := ⟨RX3, "in", "(III)Z"⟩
abbrev cX3_isParish : ByteArray := prog_5_method_3_code
def yX3_isParish : MethodName := ⟨RX3, "isParish", "(I)Z"⟩
abbrev cX3_isSite : ByteArray := prog_5_method_4_code
def yX3_isSite : MethodName := ⟨RX3, "isSite", "(I)Z"⟩
abbrev cX3_isYear : ByteArray := prog_5_method_5_code
def yX3_isYear : MethodName := ⟨RX3, "isYear", "(I)Z"⟩
abbrev cX3_bits : ByteArray := prog_5_method_6_code
def yX3_bits : MethodName := ⟨RX3, "bits", "(I)I"⟩
abbrev cX3_say : ByteArray := prog_5_method_7_code
def yX3_say : MethodName := ⟨RX3, "say", "(I)I"⟩
abbrev cX3_wipe : ByteArray := prog_5_method_8_code
def yX3_wipe : MethodName := ⟨RX3, "wipe", "()I"⟩
abbrev cX3_goThrough : ByteArray := prog_5_method_9_code
def yX3_goThrough : MethodName := ⟨RX3, "goThrough", "(I)V"⟩
abbrev cX3_goTo : ByteArray := prog_5_method_10_code
def yX3_goTo : MethodName := ⟨RX3, "goTo", "(I)V"⟩
abbrev cX3_goToEnd : ByteArray := prog_5_method_11_code
def yX3_goToEnd : MethodName := ⟨RX3, "goToEnd", "()V"⟩
abbrev cX3_sitesOf : ByteArray := prog_5_method_12_code
def yX3_sitesOf : MethodName := ⟨RX3, "sitesOf", "(I)I"⟩
abbrev cX3_lettersOf : ByteArray := prog_5_method_13_code
def yX3_lettersOf : MethodName := ⟨RX3, "lettersOf", "(I)I"⟩
abbrev cX3_letterOf : ByteArray := prog_5_method_14_code
def yX3_letterOf : MethodName := ⟨RX3, "letterOf", "(II)I"⟩
abbrev cX3_lastYear : ByteArray := prog_5_method_15_code
def yX3_lastYear : MethodName := ⟨RX3, "lastYear", "()I"⟩
abbrev cX3_add : ByteArray := prog_5_method_16_code
def yX3_add : MethodName := ⟨RX3, "add", "(IIIII)V"⟩
abbrev cX3_takeName : ByteArray := prog_5_method_17_code
def yX3_takeName : MethodName := ⟨RX3, "takeName", "(I)V"⟩
abbrev cX3_name : ByteArray := prog_5_method_18_code
def yX3_name : MethodName := ⟨RX3, "name", "(II)I"⟩
abbrev cX3_isSome : ByteArray := prog_5_method_19_code
def yX3_isSome : MethodName := ⟨RX3, "isSome", "(II)Z"⟩
abbrev cX3_split : ByteArray := prog_5_method_20_code
def yX3_split : MethodName := ⟨RX3, "split", "(III)I"⟩
abbrev cX3_merge : ByteArray := prog_5_method_21_code
def yX3_merge : MethodName := ⟨RX3, "merge", "(III)I"⟩
abbrev cX3_shift : ByteArray := prog_5_method_22_code
def yX3_shift : MethodName := ⟨RX3, "shift", "(IIII)I"⟩
abbrev cX3_undo : ByteArray := prog_5_method_23_code
def yX3_undo : MethodName := ⟨RX3, "undo", "()I"⟩
abbrev cX3_event : ByteArray := prog_5_method_24_code
def yX3_event : MethodName := ⟨RX3, "event", "(II)I"⟩
abbrev cX3_at : ByteArray := prog_5_method_25_code
def yX3_at : MethodName := ⟨RX3, "at", "(II)I"⟩
abbrev cX3_sites : ByteArray := prog_5_method_26_code
def yX3_sites : MethodName := ⟨RX3, "sites", "(II)I"⟩
abbrev cX3_letter : ByteArray := prog_5_method_27_code
def yX3_letter : MethodName := ⟨RX3, "letter", "(III)I"⟩
abbrev cX3_classOf : ByteArray := prog_5_method_28_code
def yX3_classOf : MethodName := ⟨RX3, "classOf", "(I)I"⟩
abbrev cX3_laySound : ByteArray := prog_5_method_29_code
def yX3_laySound : MethodName := ⟨RX3, "laySound", "([II[I)I"⟩
abbrev cX3_layFirst : ByteArray := prog_5_method_30_code
def yX3_layFirst : MethodName := ⟨RX3, "layFirst", "(I)V"⟩
abbrev cX3_layPad : ByteArray := prog_5_method_31_code
def yX3_layPad : MethodName := ⟨RX3, "layPad", "()V"⟩
abbrev cX3_areSame : ByteArray := prog_5_method_32_code
def yX3_areSame : MethodName := ⟨RX3, "areSame", "()Z"⟩
abbrev cX3_soundSame : ByteArray := prog_5_method_33_code
def yX3_soundSame : MethodName := ⟨RX3, "soundSame", "()Z"⟩
abbrev cX3_least : ByteArray := prog_5_method_34_code
def yX3_least : MethodName := ⟨RX3, "least", "(III)I"⟩
abbrev cX3_offNow : ByteArray := prog_5_method_35_code
def yX3_offNow : MethodName := ⟨RX3, "offNow", "()I"⟩
abbrev cX3_isLike : ByteArray := prog_5_method_36_code
def yX3_isLike : MethodName := ⟨RX3, "isLike", "(II)Z"⟩
abbrev cX3_sound : ByteArray := prog_5_method_37_code
def yX3_sound : MethodName := ⟨RX3, "sound", "(III)I"⟩
abbrev cX3_toldOf : ByteArray := prog_5_method_38_code
def yX3_toldOf : MethodName := ⟨RX3, "toldOf", "(I)I"⟩
abbrev cX3_parish : ByteArray := prog_5_method_39_code
def yX3_parish : MethodName := ⟨RX3, "parish", "(II)I"⟩
abbrev cX3_areYears : ByteArray := prog_5_method_40_code
def yX3_areYears : MethodName := ⟨RX3, "areYears", "(II)Z"⟩
abbrev cX3_find : ByteArray := prog_5_method_41_code
def yX3_find : MethodName := ⟨RX3, "find", "(IIII)I"⟩
abbrev cX3_called : ByteArray := prog_5_method_42_code
def yX3_called : MethodName := ⟨RX3, "called", "(IIIII)I"⟩
abbrev cX3_off : ByteArray := prog_5_method_43_code
def yX3_off : MethodName := ⟨RX3, "off", "(II)I"⟩
abbrev cX3_keepFirst : ByteArray := prog_5_method_44_code
def yX3_keepFirst : MethodName := ⟨RX3, "keepFirst", "()V"⟩
abbrev cX3_span : ByteArray := prog_5_method_45_code
def yX3_span : MethodName := ⟨RX3, "span", "(III)I"⟩
abbrev cX3_heirs : ByteArray := prog_5_method_46_code
def yX3_heirs : MethodName := ⟨RX3, "heirs", "(III)I"⟩
abbrev cX3_image : ByteArray := prog_5_method_47_code
def yX3_image : MethodName := ⟨RX3, "image", "(I)I"⟩
abbrev cX3_restore : ByteArray := prog_5_method_48_code
def yX3_restore : MethodName := ⟨RX3, "restore", "(I)I"⟩
abbrev cX3_thereNow : ByteArray := prog_5_method_49_code
def yX3_thereNow : MethodName := ⟨RX3, "thereNow", "()I"⟩
abbrev cX3_namesNow : ByteArray := prog_5_method_50_code
def yX3_namesNow : MethodName := ⟨RX3, "namesNow", "()I"⟩
abbrev cX3_ofKind : ByteArray := prog_5_method_51_code
def yX3_ofKind : MethodName := ⟨RX3, "ofKind", "(I)I"⟩
abbrev cX3_count : ByteArray := prog_5_method_52_code
def yX3_count : MethodName := ⟨RX3, "count", "(I)I"⟩
def RJ6 : String := "java/lang/Integer"
def TJ6 : u_T := fun k => match k with
  | _ => ("", "", "", false)
def tyJ6 : Nat → FieldType := fun k => match k with
  | _ => .int
abbrev wsJ60 : List Cond := u_ws RJ6 TJ6 0
theorem nmJ6 : ∀ a, a < 0 → ∀ b, b < 0 → a ≠ b → (TJ6 a).2.1 ≠ (TJ6 b).2.1 := by decide +kernel
theorem tyJ6_ok : ∀ k, k < 0 → parseFieldDescriptor (TJ6 k).2.2.1 = some (tyJ6 k) := by decide +kernel
abbrev cJ6_bitCount_0f7a4 : ByteArray := prog_6_method_49_code
def yJ6_bitCount_0f7a4 : MethodName := ⟨RJ6, "bitCount", "(I)I"⟩
def RJ9 : String := "java/lang/Math"
def TJ9 : u_T := fun k => match k with
  | _ => ("", "", "", false)
def tyJ9 : Nat → FieldType := fun k => match k with
  | _ => .int
abbrev wsJ90 : List Cond := u_ws RJ9 TJ9 0
theorem nmJ9 : ∀ a, a < 0 → ∀ b, b < 0 → a ≠ b → (TJ9 a).2.1 ≠ (TJ9 b).2.1 := by decide +kernel
theorem tyJ9_ok : ∀ k, k < 0 → parseFieldDescriptor (TJ9 k).2.2.1 = some (tyJ9 k) := by decide +kernel
abbrev cJ9_max_7cf53 : ByteArray := prog_7_method_65_code
def yJ9_max_7cf53 : MethodName := ⟨RJ9, "max", "(II)I"⟩
abbrev cJ9_min_7cf53 : ByteArray := prog_7_method_69_code
def yJ9_min_7cf53 : MethodName := ⟨RJ9, "min", "(II)I"⟩
def RJ10 : String := "java/lang/System"
def TJ10 : u_T := fun k => match k with
  | _ => ("", "", "", false)
def tyJ10 : Nat → FieldType := fun k => match k with
  | _ => .int
abbrev wsJ100 : List Cond := u_ws RJ10 TJ10 0
theorem nmJ10 : ∀ a, a < 0 → ∀ b, b < 0 → a ≠ b → (TJ10 a).2.1 ≠ (TJ10 b).2.1 := by decide +kernel
theorem tyJ10_ok : ∀ k, k < 0 → parseFieldDescriptor (TJ10 k).2.2.1 = some (tyJ10 k) := by decide +kernel
def RL : String := "ParishNamesLaw"
abbrev cL_law : ByteArray := code
def yL_law : MethodName := ⟨RL, "law", "([I)Z"⟩
def wsX0_init : List Cond := .code yX0_init cX0_init 1 none :: ([.methodLink RX0 3 objectInit, .instanceMethod objectInit, .code objectInit ⟨#[0xb1]⟩ 1 none, .arrayClass .int, .fieldLink RX0 9 "ParishNames$Chronicle" "kinds" "[I", .fieldLink RX0 15 "ParishNames$Chronicle" "years" "[I", .fieldLink RX0 18 "ParishNames$Chronicle" "parishes" "[I", .fieldLink RX0 21 "ParishNames$Chronicle" "sets" "[I", .fieldLink RX0 24 "ParishNames$Chronicle" "owners" "[I", .arrayClass .long, .fieldLink RX0 27 "ParishNames$Chronicle" "names" "[J", .fieldLink RX0 31 "ParishNames$Chronicle" "told" "I", .fieldLink RX0 35 "ParishNames$Chronicle" "founded" "I"] ++ wsX00)
def wsX0_eventCount : List Cond := .code yX0_eventCount cX0_eventCount 1 (some .int) :: ([.fieldLink RX0 31 "ParishNames$Chronicle" "told" "I"] ++ wsX00)
def wsX0_lastEvent : List Cond := .code yX0_lastEvent cX0_lastEvent 1 (some .int) :: ([.fieldLink RX0 31 "ParishNames$Chronicle" "told" "I"] ++ wsX00)
def wsX0_parishCount : List Cond := .code yX0_parishCount cX0_parishCount 1 (some .int) :: ([.fieldLink RX0 35 "ParishNames$Chronicle" "founded" "I"] ++ wsX00)
def wsX0_isFull : List Cond := .code yX0_isFull cX0_isFull 1 (some .boolean) :: ([.fieldLink RX0 31 "ParishNames$Chronicle" "told" "I"] ++ wsX00)
def wsX0_knows : List Cond := .code yX0_knows cX0_knows 2 (some .boolean) :: ([.fieldLink RX0 35 "ParishNames$Chronicle" "founded" "I"] ++ wsX00)
def wsX0_yearOfLast : List Cond := .code yX0_yearOfLast cX0_yearOfLast 1 (some .int) :: ([.fieldLink RX0 31 "ParishNames$Chronicle" "told" "I", .fieldLink RX0 15 "ParishNames$Chronicle" "years" "[I"] ++ wsX00)
def wsX0_tell : List Cond := .code yX0_tell cX0_tell 8 none :: ([.fieldLink RX0 9 "ParishNames$Chronicle" "kinds" "[I", .fieldLink RX0 31 "ParishNames$Chronicle" "told" "I", .fieldLink RX0 15 "ParishNames$Chronicle" "years" "[I", .fieldLink RX0 18 "ParishNames$Chronicle" "parishes" "[I", .fieldLink RX0 21 "ParishNames$Chronicle" "sets" "[I", .fieldLink RX0 24 "ParishNames$Chronicle" "owners" "[I", .fieldLink RX0 27 "ParishNames$Chronicle" "names" "[J", .fieldLink RX0 35 "ParishNames$Chronicle" "founded" "I", .methodLink RX0 38 yX0_isFull, .instanceMethod yX0_isFull, .selects RX0 yX0_isFull yX0_isFull, .initialized RX0, .code yX0_isFull cX0_isFull 1 (some .boolean)] ++ wsX00)
def wsX0_forgetLast : List Cond := .code yX0_forgetLast cX0_forgetLast 1 none :: ([.fieldLink RX0 31 "ParishNames$Chronicle" "told" "I", .fieldLink RX0 9 "ParishNames$Chronicle" "kinds" "[I", .fieldLink RX0 35 "ParishNames$Chronicle" "founded" "I"] ++ wsX00)
def wsX0_becomeLike : List Cond := .code yX0_becomeLike cX0_becomeLike 2 none :: ([.fieldLink RX0 9 "ParishNames$Chronicle" "kinds" "[I", .methodLink RX0 42 arraycopyName, .native arraycopyName, .static arraycopyName, .initialized "java/lang/System", .fieldLink RX0 15 "ParishNames$Chronicle" "years" "[I", .fieldLink RX0 18 "ParishNames$Chronicle" "parishes" "[I", .fieldLink RX0 21 "ParishNames$Chronicle" "sets" "[I", .fieldLink RX0 24 "ParishNames$Chronicle" "owners" "[I", .fieldLink RX0 27 "ParishNames$Chronicle" "names" "[J", .fieldLink RX0 31 "ParishNames$Chronicle" "told" "I", .fieldLink RX0 35 "ParishNames$Chronicle" "founded" "I"] ++ wsX00)
def wsX0_factOf : List Cond := .code yX0_factOf cX0_factOf 3 (some .int) :: ([.fieldLink RX0 31 "ParishNames$Chronicle" "told" "I", .fieldLink RX0 9 "ParishNames$Chronicle" "kinds" "[I", .fieldLink RX0 15 "ParishNames$Chronicle" "years" "[I", .fieldLink RX0 18 "ParishNames$Chronicle" "parishes" "[I", .fieldLink RX0 21 "ParishNames$Chronicle" "sets" "[I", .fieldLink RX0 24 "ParishNames$Chronicle" "owners" "[I"] ++ wsX00)
def wsX0_firstYear : List Cond := .code yX0_firstYear cX0_firstYear 2 (some .int) :: ([.fieldLink RX0 31 "ParishNames$Chronicle" "told" "I", .fieldLink RX0 15 "ParishNames$Chronicle" "years" "[I"] ++ wsX00)
def wsX0_lastYear : List Cond := .code yX0_lastYear cX0_lastYear 2 (some .int) :: ([.fieldLink RX0 31 "ParishNames$Chronicle" "told" "I", .fieldLink RX0 15 "ParishNames$Chronicle" "years" "[I"] ++ wsX00)
def wsX0_holdsInAYear : List Cond := .code yX0_holdsInAYear cX0_holdsInAYear 2 (some .boolean) :: ([.methodLink RX0 48 yX0_firstYear, .instanceMethod yX0_firstYear, .selects RX0 yX0_firstYear yX0_firstYear, .initialized RX0, .code yX0_firstYear cX0_firstYear 2 (some .int), .fieldLink RX0 31 "ParishNames$Chronicle" "told" "I", .fieldLink RX0 15 "ParishNames$Chronicle" "years" "[I", .methodLink RX0 52 yX0_lastYear, .instanceMethod yX0_lastYear, .selects RX0 yX0_lastYear yX0_lastYear, .code yX0_lastYear cX0_lastYear 2 (some .int)] ++ wsX00)
def wsX0_stageIn : List Cond := .code yX0_stageIn cX0_stageIn 3 (some .int) :: ([.fieldLink RX0 31 "ParishNames$Chronicle" "told" "I", .fieldLink RX0 15 "ParishNames$Chronicle" "years" "[I"] ++ wsX00)
def wsX0_sitesAtFirst : List Cond := .code yX0_sitesAtFirst cX0_sitesAtFirst 1 (some .int) :: ([])
def wsX1_withLetter : List Cond := .code yX1_withLetter cX1_withLetter 4 (some .long) :: ([])
def wsX0_nameAtFirst : List Cond := .code yX0_nameAtFirst cX0_nameAtFirst 1 (some .long) :: ([.methodLink RX0 55 yX1_withLetter, .static yX1_withLetter, .initialized RX1, .code yX1_withLetter cX1_withLetter 4 (some .long)])
def wsX0_sitesThrough : List Cond := .code yX0_sitesThrough cX0_sitesThrough 4 (some .int) :: ([.fieldLink RX0 31 "ParishNames$Chronicle" "told" "I", .fieldLink RX0 18 "ParishNames$Chronicle" "parishes" "[I", .fieldLink RX0 21 "ParishNames$Chronicle" "sets" "[I", .fieldLink RX0 24 "ParishNames$Chronicle" "owners" "[I"] ++ wsX00)
def wsX0_nameThrough : List Cond := .code yX0_nameThrough cX0_nameThrough 5 (some .long) :: ([.fieldLink RX0 31 "ParishNames$Chronicle" "told" "I", .fieldLink RX0 9 "ParishNames$Chronicle" "kinds" "[I", .fieldLink RX0 18 "ParishNames$Chronicle" "parishes" "[I", .fieldLink RX0 27 "ParishNames$Chronicle" "names" "[J", .fieldLink RX0 24 "ParishNames$Chronicle" "owners" "[I"] ++ wsX00)
def wsX0_sitesBehind : List Cond := .code yX0_sitesBehind cX0_sitesBehind 5 (some .int) :: ([.fieldLink RX0 31 "ParishNames$Chronicle" "told" "I", .methodLink RX0 61 yX0_sitesAtFirst, .static yX0_sitesAtFirst, .initialized RX0, .code yX0_sitesAtFirst cX0_sitesAtFirst 1 (some .int), .methodLink RX0 64 yX0_sitesThrough, .instanceMethod yX0_sitesThrough, .selects RX0 yX0_sitesThrough yX0_sitesThrough, .code yX0_sitesThrough cX0_sitesThrough 4 (some .int), .fieldLink RX0 18 "ParishNames$Chronicle" "parishes" "[I", .fieldLink RX0 21 "ParishNames$Chronicle" "sets" "[I", .fieldLink RX0 24 "ParishNames$Chronicle" "owners" "[I"] ++ wsX00)
def wsX0_nameBehind : List Cond := .code yX0_nameBehind cX0_nameBehind 6 (some .long) :: ([.fieldLink RX0 31 "ParishNames$Chronicle" "told" "I", .methodLink RX0 68 yX0_nameAtFirst, .static yX0_nameAtFirst, .initialized RX0, .code yX0_nameAtFirst cX0_nameAtFirst 1 (some .long), .methodLink RX0 55 yX1_withLetter, .static yX1_withLetter, .initialized RX1, .code yX1_withLetter cX1_withLetter 4 (some .long), .methodLink RX0 72 yX0_nameThrough, .instanceMethod yX0_nameThrough, .selects RX0 yX0_nameThrough yX0_nameThrough, .code yX0_nameThrough cX0_nameThrough 5 (some .long), .fieldLink RX0 9 "ParishNames$Chronicle" "kinds" "[I", .fieldLink RX0 18 "ParishNames$Chronicle" "parishes" "[I", .fieldLink RX0 27 "ParishNames$Chronicle" "names" "[J", .fieldLink RX0 24 "ParishNames$Chronicle" "owners" "[I"] ++ wsX00)
def wsX2_has : List Cond := .code yX2_has cX2_has 2 (some .boolean) :: ([])
def wsX0_ownerBehind : List Cond := .code yX0_ownerBehind cX0_ownerBehind 5 (some .int) :: ([.fieldLink RX0 31 "ParishNames$Chronicle" "told" "I", .fieldLink RX0 21 "ParishNames$Chronicle" "sets" "[I", .fieldLink RX0 24 "ParishNames$Chronicle" "owners" "[I", .static yX2_has, .initialized RX2, .code yX2_has cX2_has 2 (some .boolean)] ++ wsX00)
def wsX0_sitesNow : List Cond := .code yX0_sitesNow cX0_sitesNow 2 (some .int) :: ([.fieldLink RX0 31 "ParishNames$Chronicle" "told" "I", .methodLink RX0 80 yX0_sitesBehind, .instanceMethod yX0_sitesBehind, .selects RX0 yX0_sitesBehind yX0_sitesBehind, .initialized RX0, .code yX0_sitesBehind cX0_sitesBehind 5 (some .int), .methodLink RX0 61 yX0_sitesAtFirst, .static yX0_sitesAtFirst, .code yX0_sitesAtFirst cX0_sitesAtFirst 1 (some .int), .methodLink RX0 64 yX0_sitesThrough, .instanceMethod yX0_sitesThrough, .selects RX0 yX0_sitesThrough yX0_sitesThrough, .code yX0_sitesThrough cX0_sitesThrough 4 (some .int), .fieldLink RX0 18 "ParishNames$Chronicle" "parishes" "[I", .fieldLink RX0 21 "ParishNames$Chronicle" "sets" "[I", .fieldLink RX0 24 "ParishNames$Chronicle" "owners" "[I"] ++ wsX00)
def wsX0_nameIn_r1 : List Cond := [Cond.methodLink RX0 84 yX0_stageIn, Cond.instanceMethod yX0_stageIn, Cond.selects RX0 yX0_stageIn yX0_stageIn, Cond.initialized RX0, Cond.code yX0_stageIn cX0_stageIn 3 (some .int), Cond.fieldLink RX0 31 "ParishNames$Chronicle" "told" "I", Cond.fieldLink RX0 15 "ParishNames$Chronicle" "years" "[I", Cond.methodLink RX0 80 yX0_sitesBehind, Cond.instanceMethod yX0_sitesBehind, Cond.selects RX0 yX0_sitesBehind yX0_sitesBehind, Cond.code yX0_sitesBehind cX0_sitesBehind 5 (some .int), Cond.methodLink RX0 61 yX0_sitesAtFirst, Cond.static yX0_sitesAtFirst, Cond.code yX0_sitesAtFirst cX0_sitesAtFirst 1 (some .int), Cond.methodLink RX0 64 yX0_sitesThrough, Cond.instanceMethod yX0_sitesThrough, Cond.selects RX0 yX0_sitesThrough yX0_sitesThrough, Cond.code yX0_sitesThrough cX0_sitesThrough 4 (some .int), Cond.fieldLink RX0 18 "ParishNames$Chronicle" "parishes" "[I", Cond.fieldLink RX0 21 "ParishNames$Chronicle" "sets" "[I", Cond.fieldLink RX0 24 "ParishNames$Chronicle" "owners" "[I", Cond.methodLink RX0 87 yX0_nameBehind, Cond.instanceMethod yX0_nameBehind, Cond.selects RX0 yX0_nameBehind yX0_nameBehind]
def wsX0_nameIn_r2 : List Cond := [Cond.code yX0_nameBehind cX0_nameBehind 6 (some .long), Cond.methodLink RX0 68 yX0_nameAtFirst, Cond.static yX0_nameAtFirst, Cond.code yX0_nameAtFirst cX0_nameAtFirst 1 (some .long), Cond.methodLink RX0 55 yX1_withLetter, Cond.static yX1_withLetter, Cond.initialized RX1, Cond.code yX1_withLetter cX1_withLetter 4 (some .long), Cond.methodLink RX0 72 yX0_nameThrough, Cond.instanceMethod yX0_nameThrough, Cond.selects RX0 yX0_nameThrough yX0_nameThrough, Cond.code yX0_nameThrough cX0_nameThrough 5 (some .long), Cond.fieldLink RX0 9 "ParishNames$Chronicle" "kinds" "[I", Cond.fieldLink RX0 27 "ParishNames$Chronicle" "names" "[J"]
def wsX0_nameIn : List Cond := .code yX0_nameIn cX0_nameIn 4 (some .long) :: ((wsX0_nameIn_r1 ++ wsX0_nameIn_r2) ++ wsX00)
def wsX0_nameAt_r1 : List Cond := [Cond.methodLink RX0 91 yX0_ownerBehind, Cond.instanceMethod yX0_ownerBehind, Cond.selects RX0 yX0_ownerBehind yX0_ownerBehind, Cond.initialized RX0, Cond.code yX0_ownerBehind cX0_ownerBehind 5 (some .int), Cond.fieldLink RX0 31 "ParishNames$Chronicle" "told" "I", Cond.fieldLink RX0 21 "ParishNames$Chronicle" "sets" "[I", Cond.fieldLink RX0 24 "ParishNames$Chronicle" "owners" "[I", Cond.static yX2_has, Cond.initialized RX2, Cond.code yX2_has cX2_has 2 (some .boolean), Cond.methodLink RX0 87 yX0_nameBehind, Cond.instanceMethod yX0_nameBehind, Cond.selects RX0 yX0_nameBehind yX0_nameBehind, Cond.code yX0_nameBehind cX0_nameBehind 6 (some .long), Cond.methodLink RX0 68 yX0_nameAtFirst, Cond.static yX0_nameAtFirst, Cond.code yX0_nameAtFirst cX0_nameAtFirst 1 (some .long), Cond.methodLink RX0 55 yX1_withLetter, Cond.static yX1_withLetter, Cond.initialized RX1, Cond.code yX1_withLetter cX1_withLetter 4 (some .long), Cond.methodLink RX0 72 yX0_nameThrough, Cond.instanceMethod yX0_nameThrough]
def wsX0_nameAt_r2 : List Cond := [Cond.selects RX0 yX0_nameThrough yX0_nameThrough, Cond.code yX0_nameThrough cX0_nameThrough 5 (some .long), Cond.fieldLink RX0 9 "ParishNames$Chronicle" "kinds" "[I", Cond.fieldLink RX0 18 "ParishNames$Chronicle" "parishes" "[I", Cond.fieldLink RX0 27 "ParishNames$Chronicle" "names" "[J"]
def wsX0_nameAt : List Cond := .code yX0_nameAt cX0_nameAt 3 (some .long) :: ((wsX0_nameAt_r1 ++ wsX0_nameAt_r2) ++ wsX00)
def wsX0_eventsOf : List Cond := .code yX0_eventsOf cX0_eventsOf 4 (some .int) :: ([.fieldLink RX0 31 "ParishNames$Chronicle" "told" "I", .fieldLink RX0 18 "ParishNames$Chronicle" "parishes" "[I", .fieldLink RX0 24 "ParishNames$Chronicle" "owners" "[I"] ++ wsX00)
def wsX0_eventsOfKind : List Cond := .code yX0_eventsOfKind cX0_eventsOfKind 4 (some .int) :: ([.fieldLink RX0 31 "ParishNames$Chronicle" "told" "I", .fieldLink RX0 9 "ParishNames$Chronicle" "kinds" "[I"] ++ wsX00)
def wsJ6_bitCount_0f7a4 : List Cond := .code yJ6_bitCount_0f7a4 cJ6_bitCount_0f7a4 1 (some .int) :: ([.constant RJ6 265 (1431655765), .constant RJ6 266 (858993459), .constant RJ6 267 (252645135)])
def wsX0_lifeOf_r1 : List Cond := [Cond.fieldLink RX0 31 "ParishNames$Chronicle" "told" "I", Cond.methodLink RX0 61 yX0_sitesAtFirst, Cond.static yX0_sitesAtFirst, Cond.initialized RX0, Cond.code yX0_sitesAtFirst cX0_sitesAtFirst 1 (some .int), Cond.methodLink RX0 64 yX0_sitesThrough, Cond.instanceMethod yX0_sitesThrough, Cond.selects RX0 yX0_sitesThrough yX0_sitesThrough, Cond.code yX0_sitesThrough cX0_sitesThrough 4 (some .int), Cond.fieldLink RX0 18 "ParishNames$Chronicle" "parishes" "[I", Cond.fieldLink RX0 21 "ParishNames$Chronicle" "sets" "[I", Cond.fieldLink RX0 24 "ParishNames$Chronicle" "owners" "[I", Cond.methodLink RX0 94 yX0_holdsInAYear, Cond.instanceMethod yX0_holdsInAYear, Cond.selects RX0 yX0_holdsInAYear yX0_holdsInAYear, Cond.code yX0_holdsInAYear cX0_holdsInAYear 2 (some .boolean), Cond.methodLink RX0 48 yX0_firstYear, Cond.instanceMethod yX0_firstYear, Cond.selects RX0 yX0_firstYear yX0_firstYear, Cond.code yX0_firstYear cX0_firstYear 2 (some .int), Cond.fieldLink RX0 15 "ParishNames$Chronicle" "years" "[I", Cond.methodLink RX0 52 yX0_lastYear, Cond.instanceMethod yX0_lastYear, Cond.selects RX0 yX0_lastYear yX0_lastYear]
def wsX0_lifeOf_r2 : List Cond := [Cond.code yX0_lastYear cX0_lastYear 2 (some .int), Cond.methodLink RX0 98 yJ6_bitCount_0f7a4, Cond.static yJ6_bitCount_0f7a4, Cond.initialized RJ6, Cond.code yJ6_bitCount_0f7a4 cJ6_bitCount_0f7a4 1 (some .int), Cond.constant RJ6 265 (1431655765), Cond.constant RJ6 266 (858993459), Cond.constant RJ6 267 (252645135)]
def wsX0_lifeOf : List Cond := .code yX0_lifeOf cX0_lifeOf 9 (some .int) :: ((wsX0_lifeOf_r1 ++ wsX0_lifeOf_r2) ++ wsX00)
def wsX0_nextSpan_r1 : List Cond := [Cond.fieldLink RX0 31 "ParishNames$Chronicle" "told" "I", Cond.methodLink RX0 91 yX0_ownerBehind, Cond.instanceMethod yX0_ownerBehind, Cond.selects RX0 yX0_ownerBehind yX0_ownerBehind, Cond.initialized RX0, Cond.code yX0_ownerBehind cX0_ownerBehind 5 (some .int), Cond.fieldLink RX0 21 "ParishNames$Chronicle" "sets" "[I", Cond.fieldLink RX0 24 "ParishNames$Chronicle" "owners" "[I", Cond.static yX2_has, Cond.initialized RX2, Cond.code yX2_has cX2_has 2 (some .boolean), Cond.methodLink RX0 87 yX0_nameBehind, Cond.instanceMethod yX0_nameBehind, Cond.selects RX0 yX0_nameBehind yX0_nameBehind, Cond.code yX0_nameBehind cX0_nameBehind 6 (some .long), Cond.methodLink RX0 68 yX0_nameAtFirst, Cond.static yX0_nameAtFirst, Cond.code yX0_nameAtFirst cX0_nameAtFirst 1 (some .long), Cond.methodLink RX0 55 yX1_withLetter, Cond.static yX1_withLetter, Cond.initialized RX1, Cond.code yX1_withLetter cX1_withLetter 4 (some .long), Cond.methodLink RX0 72 yX0_nameThrough, Cond.instanceMethod yX0_nameThrough]
def wsX0_nextSpan_r2 : List Cond := [Cond.selects RX0 yX0_nameThrough yX0_nameThrough, Cond.code yX0_nameThrough cX0_nameThrough 5 (some .long), Cond.fieldLink RX0 9 "ParishNames$Chronicle" "kinds" "[I", Cond.fieldLink RX0 18 "ParishNames$Chronicle" "parishes" "[I", Cond.fieldLink RX0 27 "ParishNames$Chronicle" "names" "[J", Cond.methodLink RX0 94 yX0_holdsInAYear, Cond.instanceMethod yX0_holdsInAYear, Cond.selects RX0 yX0_holdsInAYear yX0_holdsInAYear, Cond.code yX0_holdsInAYear cX0_holdsInAYear 2 (some .boolean), Cond.methodLink RX0 48 yX0_firstYear, Cond.instanceMethod yX0_firstYear, Cond.selects RX0 yX0_firstYear yX0_firstYear, Cond.code yX0_firstYear cX0_firstYear 2 (some .int), Cond.fieldLink RX0 15 "ParishNames$Chronicle" "years" "[I", Cond.methodLink RX0 52 yX0_lastYear, Cond.instanceMethod yX0_lastYear, Cond.selects RX0 yX0_lastYear yX0_lastYear, Cond.code yX0_lastYear cX0_lastYear 2 (some .int)]
def wsX0_nextSpan : List Cond := .code yX0_nextSpan cX0_nextSpan 8 (some .int) :: ((wsX0_nextSpan_r1 ++ wsX0_nextSpan_r2) ++ wsX00)
def wsX0_parishesNow : List Cond := .code yX0_parishesNow cX0_parishesNow 3 (some .int) :: ([.fieldLink RX0 35 "ParishNames$Chronicle" "founded" "I", .methodLink RX0 103 yX0_sitesNow, .instanceMethod yX0_sitesNow, .selects RX0 yX0_sitesNow yX0_sitesNow, .initialized RX0, .code yX0_sitesNow cX0_sitesNow 2 (some .int), .fieldLink RX0 31 "ParishNames$Chronicle" "told" "I", .methodLink RX0 80 yX0_sitesBehind, .instanceMethod yX0_sitesBehind, .selects RX0 yX0_sitesBehind yX0_sitesBehind, .code yX0_sitesBehind cX0_sitesBehind 5 (some .int), .methodLink RX0 61 yX0_sitesAtFirst, .static yX0_sitesAtFirst, .code yX0_sitesAtFirst cX0_sitesAtFirst 1 (some .int), .methodLink RX0 64 yX0_sitesThrough, .instanceMethod yX0_sitesThrough, .selects RX0 yX0_sitesThrough yX0_sitesThrough, .code yX0_sitesThrough cX0_sitesThrough 4 (some .int), .fieldLink RX0 18 "ParishNames$Chronicle" "parishes" "[I", .fieldLink RX0 21 "ParishNames$Chronicle" "sets" "[I", .fieldLink RX0 24 "ParishNames$Chronicle" "owners" "[I"] ++ wsX00)
def wsX0_isNameOfLesser_r1 : List Cond := [Cond.fieldLink RX0 31 "ParishNames$Chronicle" "told" "I", Cond.methodLink RX0 87 yX0_nameBehind, Cond.instanceMethod yX0_nameBehind, Cond.selects RX0 yX0_nameBehind yX0_nameBehind, Cond.initialized RX0, Cond.code yX0_nameBehind cX0_nameBehind 6 (some .long), Cond.methodLink RX0 68 yX0_nameAtFirst, Cond.static yX0_nameAtFirst, Cond.code yX0_nameAtFirst cX0_nameAtFirst 1 (some .long), Cond.methodLink RX0 55 yX1_withLetter, Cond.static yX1_withLetter, Cond.initialized RX1, Cond.code yX1_withLetter cX1_withLetter 4 (some .long), Cond.methodLink RX0 72 yX0_nameThrough, Cond.instanceMethod yX0_nameThrough, Cond.selects RX0 yX0_nameThrough yX0_nameThrough, Cond.code yX0_nameThrough cX0_nameThrough 5 (some .long), Cond.fieldLink RX0 9 "ParishNames$Chronicle" "kinds" "[I", Cond.fieldLink RX0 18 "ParishNames$Chronicle" "parishes" "[I", Cond.fieldLink RX0 27 "ParishNames$Chronicle" "names" "[J", Cond.fieldLink RX0 24 "ParishNames$Chronicle" "owners" "[I", Cond.methodLink RX0 103 yX0_sitesNow, Cond.instanceMethod yX0_sitesNow, Cond.selects RX0 yX0_sitesNow yX0_sitesNow]
def wsX0_isNameOfLesser_r2 : List Cond := [Cond.code yX0_sitesNow cX0_sitesNow 2 (some .int), Cond.methodLink RX0 80 yX0_sitesBehind, Cond.instanceMethod yX0_sitesBehind, Cond.selects RX0 yX0_sitesBehind yX0_sitesBehind, Cond.code yX0_sitesBehind cX0_sitesBehind 5 (some .int), Cond.methodLink RX0 61 yX0_sitesAtFirst, Cond.static yX0_sitesAtFirst, Cond.code yX0_sitesAtFirst cX0_sitesAtFirst 1 (some .int), Cond.methodLink RX0 64 yX0_sitesThrough, Cond.instanceMethod yX0_sitesThrough, Cond.selects RX0 yX0_sitesThrough yX0_sitesThrough, Cond.code yX0_sitesThrough cX0_sitesThrough 4 (some .int), Cond.fieldLink RX0 21 "ParishNames$Chronicle" "sets" "[I"]
def wsX0_isNameOfLesser : List Cond := .code yX0_isNameOfLesser cX0_isNameOfLesser 5 (some .boolean) :: ((wsX0_isNameOfLesser_r1 ++ wsX0_isNameOfLesser_r2) ++ wsX00)
def wsX0_unlikeNamesNow_r1 : List Cond := [Cond.fieldLink RX0 35 "ParishNames$Chronicle" "founded" "I", Cond.methodLink RX0 103 yX0_sitesNow, Cond.instanceMethod yX0_sitesNow, Cond.selects RX0 yX0_sitesNow yX0_sitesNow, Cond.initialized RX0, Cond.code yX0_sitesNow cX0_sitesNow 2 (some .int), Cond.fieldLink RX0 31 "ParishNames$Chronicle" "told" "I", Cond.methodLink RX0 80 yX0_sitesBehind, Cond.instanceMethod yX0_sitesBehind, Cond.selects RX0 yX0_sitesBehind yX0_sitesBehind, Cond.code yX0_sitesBehind cX0_sitesBehind 5 (some .int), Cond.methodLink RX0 61 yX0_sitesAtFirst, Cond.static yX0_sitesAtFirst, Cond.code yX0_sitesAtFirst cX0_sitesAtFirst 1 (some .int), Cond.methodLink RX0 64 yX0_sitesThrough, Cond.instanceMethod yX0_sitesThrough, Cond.selects RX0 yX0_sitesThrough yX0_sitesThrough, Cond.code yX0_sitesThrough cX0_sitesThrough 4 (some .int), Cond.fieldLink RX0 18 "ParishNames$Chronicle" "parishes" "[I", Cond.fieldLink RX0 21 "ParishNames$Chronicle" "sets" "[I", Cond.fieldLink RX0 24 "ParishNames$Chronicle" "owners" "[I", Cond.methodLink RX0 106 yX0_isNameOfLesser, Cond.instanceMethod yX0_isNameOfLesser, Cond.selects RX0 yX0_isNameOfLesser yX0_isNameOfLesser]
def wsX0_unlikeNamesNow_r2 : List Cond := [Cond.code yX0_isNameOfLesser cX0_isNameOfLesser 5 (some .boolean), Cond.methodLink RX0 87 yX0_nameBehind, Cond.instanceMethod yX0_nameBehind, Cond.selects RX0 yX0_nameBehind yX0_nameBehind, Cond.code yX0_nameBehind cX0_nameBehind 6 (some .long), Cond.methodLink RX0 68 yX0_nameAtFirst, Cond.static yX0_nameAtFirst, Cond.code yX0_nameAtFirst cX0_nameAtFirst 1 (some .long), Cond.methodLink RX0 55 yX1_withLetter, Cond.static yX1_withLetter, Cond.initialized RX1, Cond.code yX1_withLetter cX1_withLetter 4 (some .long), Cond.methodLink RX0 72 yX0_nameThrough, Cond.instanceMethod yX0_nameThrough, Cond.selects RX0 yX0_nameThrough yX0_nameThrough, Cond.code yX0_nameThrough cX0_nameThrough 5 (some .long), Cond.fieldLink RX0 9 "ParishNames$Chronicle" "kinds" "[I", Cond.fieldLink RX0 27 "ParishNames$Chronicle" "names" "[J"]
def wsX0_unlikeNamesNow : List Cond := .code yX0_unlikeNamesNow cX0_unlikeNamesNow 3 (some .int) :: ((wsX0_unlikeNamesNow_r1 ++ wsX0_unlikeNamesNow_r2) ++ wsX00)
def wsX1_init : List Cond := .code yX1_init cX1_init 1 none :: ([.methodLink RX1 3 objectInit, .instanceMethod objectInit, .code objectInit ⟨#[0xb1]⟩ 1 none, .arrayClass .int, .fieldLink RX1 9 "ParishNames$Speller" "row" "[I"] ++ wsX10)
def wsX1_letterOf : List Cond := .code yX1_letterOf cX1_letterOf 3 (some .int) :: ([])
def wsX1_lengthOf : List Cond := .code yX1_lengthOf cX1_lengthOf 3 (some .int) :: ([.methodLink RX1 15 yX1_letterOf, .static yX1_letterOf, .initialized RX1, .code yX1_letterOf cX1_letterOf 3 (some .int)])
def wsX1_classOf : List Cond := .code yX1_classOf cX1_classOf 1 (some .int) :: ([])
def wsX1_soundOf : List Cond := .code yX1_soundOf cX1_soundOf 8 (some .int) :: ([.methodLink RX1 15 yX1_letterOf, .static yX1_letterOf, .initialized RX1, .code yX1_letterOf cX1_letterOf 3 (some .int), .methodLink RX1 19 yX1_classOf, .static yX1_classOf, .code yX1_classOf cX1_classOf 1 (some .int), .methodLink RX1 23 yX1_lengthOf, .static yX1_lengthOf, .code yX1_lengthOf cX1_lengthOf 3 (some .int)])
def wsX1_classOfSound : List Cond := .code yX1_classOfSound cX1_classOfSound 2 (some .int) :: ([])
def wsX1_lengthOfSound : List Cond := .code yX1_lengthOfSound cX1_lengthOfSound 2 (some .int) :: ([.methodLink RX1 27 yX1_classOfSound, .static yX1_classOfSound, .initialized RX1, .code yX1_classOfSound cX1_classOfSound 2 (some .int)])
def wsX1_distance : List Cond := .code yX1_distance cX1_distance 11 (some .int) :: ([.fieldLink RX1 9 "ParishNames$Speller" "row" "[I", .methodLink RX1 38 Lib.Math.min.name, .static Lib.Math.min.name, .initialized "java/lang/Math", .code Lib.Math.min.name Lib.Math.min.code 2 (some .int), .methodLink RX1 23 yX1_lengthOf, .static yX1_lengthOf, .initialized RX1, .code yX1_lengthOf cX1_lengthOf 3 (some .int), .methodLink RX1 15 yX1_letterOf, .static yX1_letterOf, .code yX1_letterOf cX1_letterOf 3 (some .int)] ++ wsX10)
def wsX1_areAlike : List Cond := .code yX1_areAlike cX1_areAlike 6 (some .boolean) :: ([.methodLink RX1 31 yX1_soundOf, .static yX1_soundOf, .initialized RX1, .code yX1_soundOf cX1_soundOf 8 (some .int), .methodLink RX1 15 yX1_letterOf, .static yX1_letterOf, .code yX1_letterOf cX1_letterOf 3 (some .int), .methodLink RX1 19 yX1_classOf, .static yX1_classOf, .code yX1_classOf cX1_classOf 1 (some .int), .methodLink RX1 23 yX1_lengthOf, .static yX1_lengthOf, .code yX1_lengthOf cX1_lengthOf 3 (some .int), .methodLink RX1 34 yX1_distance, .instanceMethod yX1_distance, .selects RX1 yX1_distance yX1_distance, .code yX1_distance cX1_distance 11 (some .int), .fieldLink RX1 9 "ParishNames$Speller" "row" "[I", .methodLink RX1 38 Lib.Math.min.name, .static Lib.Math.min.name, .initialized "java/lang/Math", .code Lib.Math.min.name Lib.Math.min.code 2 (some .int)] ++ wsX10)
def wsX2_init_r1 : List Cond := [Cond.methodLink RX2 1 objectInit, Cond.instanceMethod objectInit, Cond.code objectInit ⟨#[0xb1]⟩ 1 none, Cond.classLink RX2 7 RX0, Cond.instantiable RX0 8, Cond.initialized RX0, Cond.fieldLink RX2 10 "ParishNames" "now" "LParishNames$Chronicle;", Cond.fieldLink RX2 16 "ParishNames" "kept" "[LParishNames$Chronicle;", Cond.classLink RX2 20 RX1, Cond.instantiable RX1 1, Cond.initialized RX1, Cond.fieldLink RX2 23 "ParishNames" "speller" "LParishNames$Speller;", Cond.fieldLink RX2 27 "ParishNames" "keptSet" "I", Cond.fieldLink RX2 31 "ParishNames" "pad" "J", Cond.instanceMethod yX0_init, Cond.code yX0_init cX0_init 1 none, Cond.methodLink RX0 3 objectInit, Cond.arrayClass .int, Cond.fieldLink RX0 9 "ParishNames$Chronicle" "kinds" "[I", Cond.fieldLink RX0 15 "ParishNames$Chronicle" "years" "[I", Cond.fieldLink RX0 18 "ParishNames$Chronicle" "parishes" "[I", Cond.fieldLink RX0 21 "ParishNames$Chronicle" "sets" "[I", Cond.fieldLink RX0 24 "ParishNames$Chronicle" "owners" "[I", Cond.arrayClass .long]
def wsX2_init_r2 : List Cond := [Cond.fieldLink RX0 27 "ParishNames$Chronicle" "names" "[J", Cond.fieldLink RX0 31 "ParishNames$Chronicle" "told" "I", Cond.fieldLink RX0 35 "ParishNames$Chronicle" "founded" "I", Cond.instanceMethod yX1_init, Cond.code yX1_init cX1_init 1 none, Cond.methodLink RX1 3 objectInit, Cond.fieldLink RX1 9 "ParishNames$Speller" "row" "[I"]
def wsX2_init : List Cond := .code yX2_init cX2_init 1 none :: ((wsX2_init_r1 ++ wsX2_init_r2) ++ wsX00 ++ wsX20 ++ wsX10)
def wsX2_say : List Cond := .code yX2_say cX2_say 3 (some .int) :: ([.fieldLink RX2 31 "ParishNames" "pad" "J", .methodLink RX2 35 yX1_lengthOf, .static yX1_lengthOf, .initialized RX1, .code yX1_lengthOf cX1_lengthOf 3 (some .int), .methodLink RX1 15 yX1_letterOf, .static yX1_letterOf, .code yX1_letterOf cX1_letterOf 3 (some .int), .methodLink RX2 39 yX1_withLetter, .static yX1_withLetter, .code yX1_withLetter cX1_withLetter 4 (some .long)] ++ wsX20)
def wsX2_wipe : List Cond := .code yX2_wipe cX2_wipe 2 (some .int) :: ([.fieldLink RX2 31 "ParishNames" "pad" "J", .methodLink RX2 35 yX1_lengthOf, .static yX1_lengthOf, .initialized RX1, .code yX1_lengthOf cX1_lengthOf 3 (some .int), .methodLink RX1 15 yX1_letterOf, .static yX1_letterOf, .code yX1_letterOf cX1_letterOf 3 (some .int)] ++ wsX20)
def wsX2_isYear : List Cond := .code yX2_isYear cX2_isYear 1 (some .boolean) :: ([])
def wsX2_padIsNoName : List Cond := .code yX2_padIsNoName cX2_padIsNoName 1 (some .boolean) :: ([.fieldLink RX2 31 "ParishNames" "pad" "J"] ++ wsX20)
def wsX2_takePad : List Cond := .code yX2_takePad cX2_takePad 3 (some .long) :: ([.fieldLink RX2 31 "ParishNames" "pad" "J"] ++ wsX20)
def wsX2_name_r1 : List Cond := [Cond.fieldLink RX2 10 "ParishNames" "now" "LParishNames$Chronicle;", Cond.methodLink RX2 43 yX0_knows, Cond.instanceMethod yX0_knows, Cond.selects RX0 yX0_knows yX0_knows, Cond.initialized RX0, Cond.code yX0_knows cX0_knows 2 (some .boolean), Cond.fieldLink RX0 35 "ParishNames$Chronicle" "founded" "I", Cond.methodLink RX2 47 yX2_isYear, Cond.static yX2_isYear, Cond.initialized RX2, Cond.code yX2_isYear cX2_isYear 1 (some .boolean), Cond.methodLink RX2 50 yX2_padIsNoName, Cond.instanceMethod yX2_padIsNoName, Cond.selects RX2 yX2_padIsNoName yX2_padIsNoName, Cond.code yX2_padIsNoName cX2_padIsNoName 1 (some .boolean), Cond.fieldLink RX2 31 "ParishNames" "pad" "J", Cond.methodLink RX2 54 yX0_yearOfLast, Cond.instanceMethod yX0_yearOfLast, Cond.selects RX0 yX0_yearOfLast yX0_yearOfLast, Cond.code yX0_yearOfLast cX0_yearOfLast 1 (some .int), Cond.fieldLink RX0 31 "ParishNames$Chronicle" "told" "I", Cond.fieldLink RX0 15 "ParishNames$Chronicle" "years" "[I", Cond.methodLink RX2 58 yX0_sitesNow, Cond.instanceMethod yX0_sitesNow]
def wsX2_name_r2 : List Cond := [Cond.selects RX0 yX0_sitesNow yX0_sitesNow, Cond.code yX0_sitesNow cX0_sitesNow 2 (some .int), Cond.methodLink RX0 80 yX0_sitesBehind, Cond.instanceMethod yX0_sitesBehind, Cond.selects RX0 yX0_sitesBehind yX0_sitesBehind, Cond.code yX0_sitesBehind cX0_sitesBehind 5 (some .int), Cond.methodLink RX0 61 yX0_sitesAtFirst, Cond.static yX0_sitesAtFirst, Cond.code yX0_sitesAtFirst cX0_sitesAtFirst 1 (some .int), Cond.methodLink RX0 64 yX0_sitesThrough, Cond.instanceMethod yX0_sitesThrough, Cond.selects RX0 yX0_sitesThrough yX0_sitesThrough, Cond.code yX0_sitesThrough cX0_sitesThrough 4 (some .int), Cond.fieldLink RX0 18 "ParishNames$Chronicle" "parishes" "[I", Cond.fieldLink RX0 21 "ParishNames$Chronicle" "sets" "[I", Cond.fieldLink RX0 24 "ParishNames$Chronicle" "owners" "[I", Cond.methodLink RX2 62 yX0_isFull, Cond.instanceMethod yX0_isFull, Cond.selects RX0 yX0_isFull yX0_isFull, Cond.code yX0_isFull cX0_isFull 1 (some .boolean), Cond.methodLink RX2 65 yX2_takePad, Cond.instanceMethod yX2_takePad, Cond.selects RX2 yX2_takePad yX2_takePad, Cond.code yX2_takePad cX2_takePad 3 (some .long)]
def wsX2_name_r3 : List Cond := [Cond.methodLink RX2 69 yX0_tell, Cond.instanceMethod yX0_tell, Cond.selects RX0 yX0_tell yX0_tell, Cond.code yX0_tell cX0_tell 8 none, Cond.fieldLink RX0 9 "ParishNames$Chronicle" "kinds" "[I", Cond.fieldLink RX0 27 "ParishNames$Chronicle" "names" "[J", Cond.methodLink RX0 38 yX0_isFull, Cond.methodLink RX2 73 yX0_lastEvent, Cond.instanceMethod yX0_lastEvent, Cond.selects RX0 yX0_lastEvent yX0_lastEvent, Cond.code yX0_lastEvent cX0_lastEvent 1 (some .int)]
def wsX2_name : List Cond := .code yX2_name cX2_name 3 (some .int) :: ((wsX2_name_r1 ++ (wsX2_name_r2 ++ wsX2_name_r3)) ++ wsX20 ++ wsX00)
def wsX2_isSetOfSites : List Cond := .code yX2_isSetOfSites cX2_isSetOfSites 1 (some .boolean) :: ([])
def wsX2_isProperPart : List Cond := .code yX2_isProperPart cX2_isProperPart 2 (some .boolean) :: ([])
def wsX2_split_r1 : List Cond := [Cond.fieldLink RX2 10 "ParishNames" "now" "LParishNames$Chronicle;", Cond.methodLink RX2 43 yX0_knows, Cond.instanceMethod yX0_knows, Cond.selects RX0 yX0_knows yX0_knows, Cond.initialized RX0, Cond.code yX0_knows cX0_knows 2 (some .boolean), Cond.fieldLink RX0 35 "ParishNames$Chronicle" "founded" "I", Cond.methodLink RX2 76 yX2_isSetOfSites, Cond.static yX2_isSetOfSites, Cond.initialized RX2, Cond.code yX2_isSetOfSites cX2_isSetOfSites 1 (some .boolean), Cond.methodLink RX2 47 yX2_isYear, Cond.static yX2_isYear, Cond.code yX2_isYear cX2_isYear 1 (some .boolean), Cond.methodLink RX2 50 yX2_padIsNoName, Cond.instanceMethod yX2_padIsNoName, Cond.selects RX2 yX2_padIsNoName yX2_padIsNoName, Cond.code yX2_padIsNoName cX2_padIsNoName 1 (some .boolean), Cond.fieldLink RX2 31 "ParishNames" "pad" "J", Cond.methodLink RX2 54 yX0_yearOfLast, Cond.instanceMethod yX0_yearOfLast, Cond.selects RX0 yX0_yearOfLast yX0_yearOfLast, Cond.code yX0_yearOfLast cX0_yearOfLast 1 (some .int), Cond.fieldLink RX0 31 "ParishNames$Chronicle" "told" "I"]
def wsX2_split_r2 : List Cond := [Cond.fieldLink RX0 15 "ParishNames$Chronicle" "years" "[I", Cond.methodLink RX2 58 yX0_sitesNow, Cond.instanceMethod yX0_sitesNow, Cond.selects RX0 yX0_sitesNow yX0_sitesNow, Cond.code yX0_sitesNow cX0_sitesNow 2 (some .int), Cond.methodLink RX0 80 yX0_sitesBehind, Cond.instanceMethod yX0_sitesBehind, Cond.selects RX0 yX0_sitesBehind yX0_sitesBehind, Cond.code yX0_sitesBehind cX0_sitesBehind 5 (some .int), Cond.methodLink RX0 61 yX0_sitesAtFirst, Cond.static yX0_sitesAtFirst, Cond.code yX0_sitesAtFirst cX0_sitesAtFirst 1 (some .int), Cond.methodLink RX0 64 yX0_sitesThrough, Cond.instanceMethod yX0_sitesThrough, Cond.selects RX0 yX0_sitesThrough yX0_sitesThrough, Cond.code yX0_sitesThrough cX0_sitesThrough 4 (some .int), Cond.fieldLink RX0 18 "ParishNames$Chronicle" "parishes" "[I", Cond.fieldLink RX0 21 "ParishNames$Chronicle" "sets" "[I", Cond.fieldLink RX0 24 "ParishNames$Chronicle" "owners" "[I", Cond.methodLink RX2 79 yX2_isProperPart, Cond.static yX2_isProperPart, Cond.code yX2_isProperPart cX2_isProperPart 2 (some .boolean), Cond.methodLink RX2 62 yX0_isFull, Cond.instanceMethod yX0_isFull]
def wsX2_split_r3 : List Cond := [Cond.selects RX0 yX0_isFull yX0_isFull, Cond.code yX0_isFull cX0_isFull 1 (some .boolean), Cond.methodLink RX2 83 yX0_parishCount, Cond.instanceMethod yX0_parishCount, Cond.selects RX0 yX0_parishCount yX0_parishCount, Cond.code yX0_parishCount cX0_parishCount 1 (some .int), Cond.methodLink RX2 65 yX2_takePad, Cond.instanceMethod yX2_takePad, Cond.selects RX2 yX2_takePad yX2_takePad, Cond.code yX2_takePad cX2_takePad 3 (some .long), Cond.methodLink RX2 69 yX0_tell, Cond.instanceMethod yX0_tell, Cond.selects RX0 yX0_tell yX0_tell, Cond.code yX0_tell cX0_tell 8 none, Cond.fieldLink RX0 9 "ParishNames$Chronicle" "kinds" "[I", Cond.fieldLink RX0 27 "ParishNames$Chronicle" "names" "[J", Cond.methodLink RX0 38 yX0_isFull]
def wsX2_split : List Cond := .code yX2_split cX2_split 5 (some .int) :: ((wsX2_split_r1 ++ (wsX2_split_r2 ++ wsX2_split_r3)) ++ wsX20 ++ wsX00)
def wsX2_merge_r1 : List Cond := [Cond.fieldLink RX2 10 "ParishNames" "now" "LParishNames$Chronicle;", Cond.methodLink RX2 43 yX0_knows, Cond.instanceMethod yX0_knows, Cond.selects RX0 yX0_knows yX0_knows, Cond.initialized RX0, Cond.code yX0_knows cX0_knows 2 (some .boolean), Cond.fieldLink RX0 35 "ParishNames$Chronicle" "founded" "I", Cond.methodLink RX2 47 yX2_isYear, Cond.static yX2_isYear, Cond.initialized RX2, Cond.code yX2_isYear cX2_isYear 1 (some .boolean), Cond.methodLink RX2 54 yX0_yearOfLast, Cond.instanceMethod yX0_yearOfLast, Cond.selects RX0 yX0_yearOfLast yX0_yearOfLast, Cond.code yX0_yearOfLast cX0_yearOfLast 1 (some .int), Cond.fieldLink RX0 31 "ParishNames$Chronicle" "told" "I", Cond.fieldLink RX0 15 "ParishNames$Chronicle" "years" "[I", Cond.methodLink RX2 58 yX0_sitesNow, Cond.instanceMethod yX0_sitesNow, Cond.selects RX0 yX0_sitesNow yX0_sitesNow, Cond.code yX0_sitesNow cX0_sitesNow 2 (some .int), Cond.methodLink RX0 80 yX0_sitesBehind, Cond.instanceMethod yX0_sitesBehind, Cond.selects RX0 yX0_sitesBehind yX0_sitesBehind]
def wsX2_merge_r2 : List Cond := [Cond.code yX0_sitesBehind cX0_sitesBehind 5 (some .int), Cond.methodLink RX0 61 yX0_sitesAtFirst, Cond.static yX0_sitesAtFirst, Cond.code yX0_sitesAtFirst cX0_sitesAtFirst 1 (some .int), Cond.methodLink RX0 64 yX0_sitesThrough, Cond.instanceMethod yX0_sitesThrough, Cond.selects RX0 yX0_sitesThrough yX0_sitesThrough, Cond.code yX0_sitesThrough cX0_sitesThrough 4 (some .int), Cond.fieldLink RX0 18 "ParishNames$Chronicle" "parishes" "[I", Cond.fieldLink RX0 21 "ParishNames$Chronicle" "sets" "[I", Cond.fieldLink RX0 24 "ParishNames$Chronicle" "owners" "[I", Cond.methodLink RX2 62 yX0_isFull, Cond.instanceMethod yX0_isFull, Cond.selects RX0 yX0_isFull yX0_isFull, Cond.code yX0_isFull cX0_isFull 1 (some .boolean), Cond.methodLink RX2 69 yX0_tell, Cond.instanceMethod yX0_tell, Cond.selects RX0 yX0_tell yX0_tell, Cond.code yX0_tell cX0_tell 8 none, Cond.fieldLink RX0 9 "ParishNames$Chronicle" "kinds" "[I", Cond.fieldLink RX0 27 "ParishNames$Chronicle" "names" "[J", Cond.methodLink RX0 38 yX0_isFull, Cond.methodLink RX2 73 yX0_lastEvent, Cond.instanceMethod yX0_lastEvent]
def wsX2_merge_r3 : List Cond := [Cond.selects RX0 yX0_lastEvent yX0_lastEvent, Cond.code yX0_lastEvent cX0_lastEvent 1 (some .int)]
def wsX2_merge : List Cond := .code yX2_merge cX2_merge 5 (some .int) :: ((wsX2_merge_r1 ++ (wsX2_merge_r2 ++ wsX2_merge_r3)) ++ wsX20 ++ wsX00)
def wsX2_shift_r1 : List Cond := [Cond.fieldLink RX2 10 "ParishNames" "now" "LParishNames$Chronicle;", Cond.methodLink RX2 43 yX0_knows, Cond.instanceMethod yX0_knows, Cond.selects RX0 yX0_knows yX0_knows, Cond.initialized RX0, Cond.code yX0_knows cX0_knows 2 (some .boolean), Cond.fieldLink RX0 35 "ParishNames$Chronicle" "founded" "I", Cond.methodLink RX2 76 yX2_isSetOfSites, Cond.static yX2_isSetOfSites, Cond.initialized RX2, Cond.code yX2_isSetOfSites cX2_isSetOfSites 1 (some .boolean), Cond.methodLink RX2 47 yX2_isYear, Cond.static yX2_isYear, Cond.code yX2_isYear cX2_isYear 1 (some .boolean), Cond.methodLink RX2 54 yX0_yearOfLast, Cond.instanceMethod yX0_yearOfLast, Cond.selects RX0 yX0_yearOfLast yX0_yearOfLast, Cond.code yX0_yearOfLast cX0_yearOfLast 1 (some .int), Cond.fieldLink RX0 31 "ParishNames$Chronicle" "told" "I", Cond.fieldLink RX0 15 "ParishNames$Chronicle" "years" "[I", Cond.methodLink RX2 58 yX0_sitesNow, Cond.instanceMethod yX0_sitesNow, Cond.selects RX0 yX0_sitesNow yX0_sitesNow, Cond.code yX0_sitesNow cX0_sitesNow 2 (some .int)]
def wsX2_shift_r2 : List Cond := [Cond.methodLink RX0 80 yX0_sitesBehind, Cond.instanceMethod yX0_sitesBehind, Cond.selects RX0 yX0_sitesBehind yX0_sitesBehind, Cond.code yX0_sitesBehind cX0_sitesBehind 5 (some .int), Cond.methodLink RX0 61 yX0_sitesAtFirst, Cond.static yX0_sitesAtFirst, Cond.code yX0_sitesAtFirst cX0_sitesAtFirst 1 (some .int), Cond.methodLink RX0 64 yX0_sitesThrough, Cond.instanceMethod yX0_sitesThrough, Cond.selects RX0 yX0_sitesThrough yX0_sitesThrough, Cond.code yX0_sitesThrough cX0_sitesThrough 4 (some .int), Cond.fieldLink RX0 18 "ParishNames$Chronicle" "parishes" "[I", Cond.fieldLink RX0 21 "ParishNames$Chronicle" "sets" "[I", Cond.fieldLink RX0 24 "ParishNames$Chronicle" "owners" "[I", Cond.methodLink RX2 79 yX2_isProperPart, Cond.static yX2_isProperPart, Cond.code yX2_isProperPart cX2_isProperPart 2 (some .boolean), Cond.methodLink RX2 62 yX0_isFull, Cond.instanceMethod yX0_isFull, Cond.selects RX0 yX0_isFull yX0_isFull, Cond.code yX0_isFull cX0_isFull 1 (some .boolean), Cond.methodLink RX2 69 yX0_tell, Cond.instanceMethod yX0_tell, Cond.selects RX0 yX0_tell yX0_tell]
def wsX2_shift_r3 : List Cond := [Cond.code yX0_tell cX0_tell 8 none, Cond.fieldLink RX0 9 "ParishNames$Chronicle" "kinds" "[I", Cond.fieldLink RX0 27 "ParishNames$Chronicle" "names" "[J", Cond.methodLink RX0 38 yX0_isFull, Cond.methodLink RX2 73 yX0_lastEvent, Cond.instanceMethod yX0_lastEvent, Cond.selects RX0 yX0_lastEvent yX0_lastEvent, Cond.code yX0_lastEvent cX0_lastEvent 1 (some .int)]
def wsX2_shift : List Cond := .code yX2_shift cX2_shift 5 (some .int) :: ((wsX2_shift_r1 ++ (wsX2_shift_r2 ++ wsX2_shift_r3)) ++ wsX20 ++ wsX00)
def wsX2_undo : List Cond := .code yX2_undo cX2_undo 1 (some .int) :: ([.fieldLink RX2 10 "ParishNames" "now" "LParishNames$Chronicle;", .methodLink RX2 86 yX0_eventCount, .instanceMethod yX0_eventCount, .selects RX0 yX0_eventCount yX0_eventCount, .initialized RX0, .code yX0_eventCount cX0_eventCount 1 (some .int), .fieldLink RX0 31 "ParishNames$Chronicle" "told" "I", .methodLink RX2 89 yX0_forgetLast, .instanceMethod yX0_forgetLast, .selects RX0 yX0_forgetLast yX0_forgetLast, .code yX0_forgetLast cX0_forgetLast 1 none, .fieldLink RX0 9 "ParishNames$Chronicle" "kinds" "[I", .fieldLink RX0 35 "ParishNames$Chronicle" "founded" "I"] ++ wsX20 ++ wsX00)
def wsX2_event : List Cond := .code yX2_event cX2_event 3 (some .int) :: ([.fieldLink RX2 10 "ParishNames" "now" "LParishNames$Chronicle;", .methodLink RX2 92 yX0_factOf, .instanceMethod yX0_factOf, .selects RX0 yX0_factOf yX0_factOf, .initialized RX0, .code yX0_factOf cX0_factOf 3 (some .int), .fieldLink RX0 31 "ParishNames$Chronicle" "told" "I", .fieldLink RX0 9 "ParishNames$Chronicle" "kinds" "[I", .fieldLink RX0 15 "ParishNames$Chronicle" "years" "[I", .fieldLink RX0 18 "ParishNames$Chronicle" "parishes" "[I", .fieldLink RX0 21 "ParishNames$Chronicle" "sets" "[I", .fieldLink RX0 24 "ParishNames$Chronicle" "owners" "[I"] ++ wsX20 ++ wsX00)
def wsX2_isSite : List Cond := .code yX2_isSite cX2_isSite 1 (some .boolean) :: ([])
def wsX2_at : List Cond := .code yX2_at cX2_at 3 (some .int) :: ([.fieldLink RX2 10 "ParishNames" "now" "LParishNames$Chronicle;", .methodLink RX2 96 yX2_isSite, .static yX2_isSite, .initialized RX2, .code yX2_isSite cX2_isSite 1 (some .boolean), .methodLink RX2 47 yX2_isYear, .static yX2_isYear, .code yX2_isYear cX2_isYear 1 (some .boolean), .methodLink RX2 99 yX0_stageIn, .instanceMethod yX0_stageIn, .selects RX0 yX0_stageIn yX0_stageIn, .initialized RX0, .code yX0_stageIn cX0_stageIn 3 (some .int), .fieldLink RX0 31 "ParishNames$Chronicle" "told" "I", .fieldLink RX0 15 "ParishNames$Chronicle" "years" "[I", .methodLink RX2 102 yX0_ownerBehind, .instanceMethod yX0_ownerBehind, .selects RX0 yX0_ownerBehind yX0_ownerBehind, .code yX0_ownerBehind cX0_ownerBehind 5 (some .int), .fieldLink RX0 21 "ParishNames$Chronicle" "sets" "[I", .fieldLink RX0 24 "ParishNames$Chronicle" "owners" "[I", .static yX2_has, .code yX2_has cX2_has 2 (some .boolean)] ++ wsX20 ++ wsX00)
def wsX2_sites_r1 : List Cond := [Cond.fieldLink RX2 10 "ParishNames" "now" "LParishNames$Chronicle;", Cond.methodLink RX2 43 yX0_knows, Cond.instanceMethod yX0_knows, Cond.selects RX0 yX0_knows yX0_knows, Cond.initialized RX0, Cond.code yX0_knows cX0_knows 2 (some .boolean), Cond.fieldLink RX0 35 "ParishNames$Chronicle" "founded" "I", Cond.methodLink RX2 47 yX2_isYear, Cond.static yX2_isYear, Cond.initialized RX2, Cond.code yX2_isYear cX2_isYear 1 (some .boolean), Cond.methodLink RX2 99 yX0_stageIn, Cond.instanceMethod yX0_stageIn, Cond.selects RX0 yX0_stageIn yX0_stageIn, Cond.code yX0_stageIn cX0_stageIn 3 (some .int), Cond.fieldLink RX0 31 "ParishNames$Chronicle" "told" "I", Cond.fieldLink RX0 15 "ParishNames$Chronicle" "years" "[I", Cond.methodLink RX2 105 yX0_sitesBehind, Cond.instanceMethod yX0_sitesBehind, Cond.selects RX0 yX0_sitesBehind yX0_sitesBehind, Cond.code yX0_sitesBehind cX0_sitesBehind 5 (some .int), Cond.methodLink RX0 61 yX0_sitesAtFirst, Cond.static yX0_sitesAtFirst, Cond.code yX0_sitesAtFirst cX0_sitesAtFirst 1 (some .int)]
def wsX2_sites_r2 : List Cond := [Cond.methodLink RX0 64 yX0_sitesThrough, Cond.instanceMethod yX0_sitesThrough, Cond.selects RX0 yX0_sitesThrough yX0_sitesThrough, Cond.code yX0_sitesThrough cX0_sitesThrough 4 (some .int), Cond.fieldLink RX0 18 "ParishNames$Chronicle" "parishes" "[I", Cond.fieldLink RX0 21 "ParishNames$Chronicle" "sets" "[I", Cond.fieldLink RX0 24 "ParishNames$Chronicle" "owners" "[I"]
def wsX2_sites : List Cond := .code yX2_sites cX2_sites 3 (some .int) :: ((wsX2_sites_r1 ++ wsX2_sites_r2) ++ wsX20 ++ wsX00)
def wsX2_letter_r1 : List Cond := [Cond.fieldLink RX2 10 "ParishNames" "now" "LParishNames$Chronicle;", Cond.methodLink RX2 43 yX0_knows, Cond.instanceMethod yX0_knows, Cond.selects RX0 yX0_knows yX0_knows, Cond.initialized RX0, Cond.code yX0_knows cX0_knows 2 (some .boolean), Cond.fieldLink RX0 35 "ParishNames$Chronicle" "founded" "I", Cond.methodLink RX2 47 yX2_isYear, Cond.static yX2_isYear, Cond.initialized RX2, Cond.code yX2_isYear cX2_isYear 1 (some .boolean), Cond.methodLink RX2 108 yX0_nameIn, Cond.instanceMethod yX0_nameIn, Cond.selects RX0 yX0_nameIn yX0_nameIn, Cond.code yX0_nameIn cX0_nameIn 4 (some .long), Cond.methodLink RX0 84 yX0_stageIn, Cond.instanceMethod yX0_stageIn, Cond.selects RX0 yX0_stageIn yX0_stageIn, Cond.code yX0_stageIn cX0_stageIn 3 (some .int), Cond.fieldLink RX0 31 "ParishNames$Chronicle" "told" "I", Cond.fieldLink RX0 15 "ParishNames$Chronicle" "years" "[I", Cond.methodLink RX0 80 yX0_sitesBehind, Cond.instanceMethod yX0_sitesBehind, Cond.selects RX0 yX0_sitesBehind yX0_sitesBehind]
def wsX2_letter_r2 : List Cond := [Cond.code yX0_sitesBehind cX0_sitesBehind 5 (some .int), Cond.methodLink RX0 61 yX0_sitesAtFirst, Cond.static yX0_sitesAtFirst, Cond.code yX0_sitesAtFirst cX0_sitesAtFirst 1 (some .int), Cond.methodLink RX0 64 yX0_sitesThrough, Cond.instanceMethod yX0_sitesThrough, Cond.selects RX0 yX0_sitesThrough yX0_sitesThrough, Cond.code yX0_sitesThrough cX0_sitesThrough 4 (some .int), Cond.fieldLink RX0 18 "ParishNames$Chronicle" "parishes" "[I", Cond.fieldLink RX0 21 "ParishNames$Chronicle" "sets" "[I", Cond.fieldLink RX0 24 "ParishNames$Chronicle" "owners" "[I", Cond.methodLink RX0 87 yX0_nameBehind, Cond.instanceMethod yX0_nameBehind, Cond.selects RX0 yX0_nameBehind yX0_nameBehind, Cond.code yX0_nameBehind cX0_nameBehind 6 (some .long), Cond.methodLink RX0 68 yX0_nameAtFirst, Cond.static yX0_nameAtFirst, Cond.code yX0_nameAtFirst cX0_nameAtFirst 1 (some .long), Cond.methodLink RX0 55 yX1_withLetter, Cond.static yX1_withLetter, Cond.initialized RX1, Cond.code yX1_withLetter cX1_withLetter 4 (some .long), Cond.methodLink RX0 72 yX0_nameThrough, Cond.instanceMethod yX0_nameThrough]
def wsX2_letter_r3 : List Cond := [Cond.selects RX0 yX0_nameThrough yX0_nameThrough, Cond.code yX0_nameThrough cX0_nameThrough 5 (some .long), Cond.fieldLink RX0 9 "ParishNames$Chronicle" "kinds" "[I", Cond.fieldLink RX0 27 "ParishNames$Chronicle" "names" "[J", Cond.methodLink RX2 35 yX1_lengthOf, Cond.static yX1_lengthOf, Cond.code yX1_lengthOf cX1_lengthOf 3 (some .int), Cond.methodLink RX1 15 yX1_letterOf, Cond.static yX1_letterOf, Cond.code yX1_letterOf cX1_letterOf 3 (some .int), Cond.methodLink RX2 112 yX1_letterOf]
def wsX2_letter : List Cond := .code yX2_letter cX2_letter 7 (some .int) :: ((wsX2_letter_r1 ++ (wsX2_letter_r2 ++ wsX2_letter_r3)) ++ wsX20 ++ wsX00)
def wsX2_sound_r1 : List Cond := [Cond.fieldLink RX2 10 "ParishNames" "now" "LParishNames$Chronicle;", Cond.methodLink RX2 43 yX0_knows, Cond.instanceMethod yX0_knows, Cond.selects RX0 yX0_knows yX0_knows, Cond.initialized RX0, Cond.code yX0_knows cX0_knows 2 (some .boolean), Cond.fieldLink RX0 35 "ParishNames$Chronicle" "founded" "I", Cond.methodLink RX2 47 yX2_isYear, Cond.static yX2_isYear, Cond.initialized RX2, Cond.code yX2_isYear cX2_isYear 1 (some .boolean), Cond.methodLink RX2 108 yX0_nameIn, Cond.instanceMethod yX0_nameIn, Cond.selects RX0 yX0_nameIn yX0_nameIn, Cond.code yX0_nameIn cX0_nameIn 4 (some .long), Cond.methodLink RX0 84 yX0_stageIn, Cond.instanceMethod yX0_stageIn, Cond.selects RX0 yX0_stageIn yX0_stageIn, Cond.code yX0_stageIn cX0_stageIn 3 (some .int), Cond.fieldLink RX0 31 "ParishNames$Chronicle" "told" "I", Cond.fieldLink RX0 15 "ParishNames$Chronicle" "years" "[I", Cond.methodLink RX0 80 yX0_sitesBehind, Cond.instanceMethod yX0_sitesBehind, Cond.selects RX0 yX0_sitesBehind yX0_sitesBehind]
def wsX2_sound_r2 : List Cond := [Cond.code yX0_sitesBehind cX0_sitesBehind 5 (some .int), Cond.methodLink RX0 61 yX0_sitesAtFirst, Cond.static yX0_sitesAtFirst, Cond.code yX0_sitesAtFirst cX0_sitesAtFirst 1 (some .int), Cond.methodLink RX0 64 yX0_sitesThrough, Cond.instanceMethod yX0_sitesThrough, Cond.selects RX0 yX0_sitesThrough yX0_sitesThrough, Cond.code yX0_sitesThrough cX0_sitesThrough 4 (some .int), Cond.fieldLink RX0 18 "ParishNames$Chronicle" "parishes" "[I", Cond.fieldLink RX0 21 "ParishNames$Chronicle" "sets" "[I", Cond.fieldLink RX0 24 "ParishNames$Chronicle" "owners" "[I", Cond.methodLink RX0 87 yX0_nameBehind, Cond.instanceMethod yX0_nameBehind, Cond.selects RX0 yX0_nameBehind yX0_nameBehind, Cond.code yX0_nameBehind cX0_nameBehind 6 (some .long), Cond.methodLink RX0 68 yX0_nameAtFirst, Cond.static yX0_nameAtFirst, Cond.code yX0_nameAtFirst cX0_nameAtFirst 1 (some .long), Cond.methodLink RX0 55 yX1_withLetter, Cond.static yX1_withLetter, Cond.initialized RX1, Cond.code yX1_withLetter cX1_withLetter 4 (some .long), Cond.methodLink RX0 72 yX0_nameThrough, Cond.instanceMethod yX0_nameThrough]
def wsX2_sound_r3 : List Cond := [Cond.selects RX0 yX0_nameThrough yX0_nameThrough, Cond.code yX0_nameThrough cX0_nameThrough 5 (some .long), Cond.fieldLink RX0 9 "ParishNames$Chronicle" "kinds" "[I", Cond.fieldLink RX0 27 "ParishNames$Chronicle" "names" "[J", Cond.methodLink RX2 116 yX1_soundOf, Cond.static yX1_soundOf, Cond.code yX1_soundOf cX1_soundOf 8 (some .int), Cond.methodLink RX1 15 yX1_letterOf, Cond.static yX1_letterOf, Cond.code yX1_letterOf cX1_letterOf 3 (some .int), Cond.methodLink RX1 19 yX1_classOf, Cond.static yX1_classOf, Cond.code yX1_classOf cX1_classOf 1 (some .int), Cond.methodLink RX1 23 yX1_lengthOf, Cond.static yX1_lengthOf, Cond.code yX1_lengthOf cX1_lengthOf 3 (some .int), Cond.methodLink RX2 119 yX1_lengthOfSound, Cond.static yX1_lengthOfSound, Cond.code yX1_lengthOfSound cX1_lengthOfSound 2 (some .int), Cond.methodLink RX1 27 yX1_classOfSound, Cond.static yX1_classOfSound, Cond.code yX1_classOfSound cX1_classOfSound 2 (some .int), Cond.methodLink RX2 122 yX1_classOfSound]
def wsX2_sound : List Cond := .code yX2_sound cX2_sound 8 (some .int) :: ((wsX2_sound_r1 ++ (wsX2_sound_r2 ++ wsX2_sound_r3)) ++ wsX20 ++ wsX00)
def wsX2_parish_r1 : List Cond := [Cond.fieldLink RX2 10 "ParishNames" "now" "LParishNames$Chronicle;", Cond.methodLink RX2 43 yX0_knows, Cond.instanceMethod yX0_knows, Cond.selects RX0 yX0_knows yX0_knows, Cond.initialized RX0, Cond.code yX0_knows cX0_knows 2 (some .boolean), Cond.fieldLink RX0 35 "ParishNames$Chronicle" "founded" "I", Cond.methodLink RX2 125 yX0_eventsOf, Cond.instanceMethod yX0_eventsOf, Cond.selects RX0 yX0_eventsOf yX0_eventsOf, Cond.code yX0_eventsOf cX0_eventsOf 4 (some .int), Cond.fieldLink RX0 31 "ParishNames$Chronicle" "told" "I", Cond.fieldLink RX0 18 "ParishNames$Chronicle" "parishes" "[I", Cond.fieldLink RX0 24 "ParishNames$Chronicle" "owners" "[I", Cond.methodLink RX2 128 yX0_lifeOf, Cond.instanceMethod yX0_lifeOf, Cond.selects RX0 yX0_lifeOf yX0_lifeOf, Cond.code yX0_lifeOf cX0_lifeOf 9 (some .int), Cond.methodLink RX0 61 yX0_sitesAtFirst, Cond.static yX0_sitesAtFirst, Cond.code yX0_sitesAtFirst cX0_sitesAtFirst 1 (some .int), Cond.methodLink RX0 64 yX0_sitesThrough, Cond.instanceMethod yX0_sitesThrough, Cond.selects RX0 yX0_sitesThrough yX0_sitesThrough]
def wsX2_parish_r2 : List Cond := [Cond.code yX0_sitesThrough cX0_sitesThrough 4 (some .int), Cond.fieldLink RX0 21 "ParishNames$Chronicle" "sets" "[I", Cond.methodLink RX0 94 yX0_holdsInAYear, Cond.instanceMethod yX0_holdsInAYear, Cond.selects RX0 yX0_holdsInAYear yX0_holdsInAYear, Cond.code yX0_holdsInAYear cX0_holdsInAYear 2 (some .boolean), Cond.methodLink RX0 48 yX0_firstYear, Cond.instanceMethod yX0_firstYear, Cond.selects RX0 yX0_firstYear yX0_firstYear, Cond.code yX0_firstYear cX0_firstYear 2 (some .int), Cond.fieldLink RX0 15 "ParishNames$Chronicle" "years" "[I", Cond.methodLink RX0 52 yX0_lastYear, Cond.instanceMethod yX0_lastYear, Cond.selects RX0 yX0_lastYear yX0_lastYear, Cond.code yX0_lastYear cX0_lastYear 2 (some .int), Cond.methodLink RX0 98 yJ6_bitCount_0f7a4, Cond.static yJ6_bitCount_0f7a4, Cond.initialized RJ6, Cond.code yJ6_bitCount_0f7a4 cJ6_bitCount_0f7a4 1 (some .int), Cond.constant RJ6 265 (1431655765), Cond.constant RJ6 266 (858993459), Cond.constant RJ6 267 (252645135)]
def wsX2_parish : List Cond := .code yX2_parish cX2_parish 3 (some .int) :: ((wsX2_parish_r1 ++ wsX2_parish_r2) ++ wsX20 ++ wsX00)
def wsX2_areYears : List Cond := .code yX2_areYears cX2_areYears 2 (some .boolean) :: ([.methodLink RX2 47 yX2_isYear, .static yX2_isYear, .initialized RX2, .code yX2_isYear cX2_isYear 1 (some .boolean)])
def wsX2_isHow : List Cond := .code yX2_isHow cX2_isHow 1 (some .boolean) :: ([])
def wsX2_wasCalled_r1 : List Cond := [Cond.fieldLink RX2 10 "ParishNames" "now" "LParishNames$Chronicle;", Cond.methodLink RX2 144 Lib.Math.max.name, Cond.static Lib.Math.max.name, Cond.initialized "java/lang/Math", Cond.code Lib.Math.max.name Lib.Math.max.code 2 (some .int), Cond.methodLink RX2 152 Lib.Math.min.name, Cond.static Lib.Math.min.name, Cond.code Lib.Math.min.name Lib.Math.min.code 2 (some .int), Cond.fieldLink RX2 23 "ParishNames" "speller" "LParishNames$Speller;", Cond.fieldLink RX2 31 "ParishNames" "pad" "J", Cond.methodLink RX2 189 yX0_sitesAtFirst, Cond.static yX0_sitesAtFirst, Cond.initialized RX0, Cond.code yX0_sitesAtFirst cX0_sitesAtFirst 1 (some .int), Cond.methodLink RX2 192 yX0_nameAtFirst, Cond.static yX0_nameAtFirst, Cond.code yX0_nameAtFirst cX0_nameAtFirst 1 (some .long), Cond.methodLink RX0 55 yX1_withLetter, Cond.static yX1_withLetter, Cond.initialized RX1, Cond.code yX1_withLetter cX1_withLetter 4 (some .long), Cond.methodLink RX2 86 yX0_eventCount, Cond.instanceMethod yX0_eventCount, Cond.selects RX0 yX0_eventCount yX0_eventCount]
def wsX2_wasCalled_r2 : List Cond := [Cond.code yX0_eventCount cX0_eventCount 1 (some .int), Cond.fieldLink RX0 31 "ParishNames$Chronicle" "told" "I", Cond.methodLink RX2 196 yX0_sitesThrough, Cond.instanceMethod yX0_sitesThrough, Cond.selects RX0 yX0_sitesThrough yX0_sitesThrough, Cond.code yX0_sitesThrough cX0_sitesThrough 4 (some .int), Cond.fieldLink RX0 18 "ParishNames$Chronicle" "parishes" "[I", Cond.fieldLink RX0 21 "ParishNames$Chronicle" "sets" "[I", Cond.fieldLink RX0 24 "ParishNames$Chronicle" "owners" "[I", Cond.methodLink RX2 200 yX0_nameThrough, Cond.instanceMethod yX0_nameThrough, Cond.selects RX0 yX0_nameThrough yX0_nameThrough, Cond.code yX0_nameThrough cX0_nameThrough 5 (some .long), Cond.fieldLink RX0 9 "ParishNames$Chronicle" "kinds" "[I", Cond.fieldLink RX0 27 "ParishNames$Chronicle" "names" "[J", Cond.methodLink RX2 141 yX0_firstYear, Cond.instanceMethod yX0_firstYear, Cond.selects RX0 yX0_firstYear yX0_firstYear, Cond.code yX0_firstYear cX0_firstYear 2 (some .int), Cond.fieldLink RX0 15 "ParishNames$Chronicle" "years" "[I", Cond.methodLink RX2 149 yX0_lastYear, Cond.instanceMethod yX0_lastYear, Cond.selects RX0 yX0_lastYear yX0_lastYear, Cond.code yX0_lastYear cX0_lastYear 2 (some .int)]
def wsX2_wasCalled_r3 : List Cond := [Cond.methodLink RX2 158 yX1_areAlike, Cond.instanceMethod yX1_areAlike, Cond.selects RX1 yX1_areAlike yX1_areAlike, Cond.code yX1_areAlike cX1_areAlike 6 (some .boolean), Cond.methodLink RX1 31 yX1_soundOf, Cond.static yX1_soundOf, Cond.code yX1_soundOf cX1_soundOf 8 (some .int), Cond.methodLink RX1 15 yX1_letterOf, Cond.static yX1_letterOf, Cond.code yX1_letterOf cX1_letterOf 3 (some .int), Cond.methodLink RX1 19 yX1_classOf, Cond.static yX1_classOf, Cond.code yX1_classOf cX1_classOf 1 (some .int), Cond.methodLink RX1 23 yX1_lengthOf, Cond.static yX1_lengthOf, Cond.code yX1_lengthOf cX1_lengthOf 3 (some .int), Cond.methodLink RX1 34 yX1_distance, Cond.instanceMethod yX1_distance, Cond.selects RX1 yX1_distance yX1_distance, Cond.code yX1_distance cX1_distance 11 (some .int), Cond.fieldLink RX1 9 "ParishNames$Speller" "row" "[I", Cond.methodLink RX1 38 Lib.Math.min.name]
def wsX2_wasCalled : List Cond := .code yX2_wasCalled cX2_wasCalled 12 (some .boolean) :: ((wsX2_wasCalled_r1 ++ (wsX2_wasCalled_r2 ++ wsX2_wasCalled_r3)) ++ wsX20 ++ wsX00 ++ wsX10)
def wsX2_find_r1 : List Cond := [Cond.fieldLink RX2 10 "ParishNames" "now" "LParishNames$Chronicle;", Cond.methodLink RX2 131 yX2_areYears, Cond.static yX2_areYears, Cond.initialized RX2, Cond.code yX2_areYears cX2_areYears 2 (some .boolean), Cond.methodLink RX2 47 yX2_isYear, Cond.static yX2_isYear, Cond.code yX2_isYear cX2_isYear 1 (some .boolean), Cond.methodLink RX2 134 yX2_isHow, Cond.static yX2_isHow, Cond.code yX2_isHow cX2_isHow 1 (some .boolean), Cond.methodLink RX2 50 yX2_padIsNoName, Cond.instanceMethod yX2_padIsNoName, Cond.selects RX2 yX2_padIsNoName yX2_padIsNoName, Cond.code yX2_padIsNoName cX2_padIsNoName 1 (some .boolean), Cond.fieldLink RX2 31 "ParishNames" "pad" "J", Cond.methodLink RX2 83 yX0_parishCount, Cond.instanceMethod yX0_parishCount, Cond.selects RX0 yX0_parishCount yX0_parishCount, Cond.initialized RX0, Cond.code yX0_parishCount cX0_parishCount 1 (some .int), Cond.fieldLink RX0 35 "ParishNames$Chronicle" "founded" "I", Cond.methodLink RX2 137 yX2_wasCalled, Cond.instanceMethod yX2_wasCalled]
def wsX2_find_r2 : List Cond := [Cond.selects RX2 yX2_wasCalled yX2_wasCalled, Cond.code yX2_wasCalled cX2_wasCalled 12 (some .boolean), Cond.methodLink RX2 144 Lib.Math.max.name, Cond.static Lib.Math.max.name, Cond.initialized "java/lang/Math", Cond.code Lib.Math.max.name Lib.Math.max.code 2 (some .int), Cond.methodLink RX2 152 Lib.Math.min.name, Cond.static Lib.Math.min.name, Cond.code Lib.Math.min.name Lib.Math.min.code 2 (some .int), Cond.fieldLink RX2 23 "ParishNames" "speller" "LParishNames$Speller;", Cond.methodLink RX2 189 yX0_sitesAtFirst, Cond.static yX0_sitesAtFirst, Cond.code yX0_sitesAtFirst cX0_sitesAtFirst 1 (some .int), Cond.methodLink RX2 192 yX0_nameAtFirst, Cond.static yX0_nameAtFirst, Cond.code yX0_nameAtFirst cX0_nameAtFirst 1 (some .long), Cond.methodLink RX0 55 yX1_withLetter, Cond.static yX1_withLetter, Cond.initialized RX1, Cond.code yX1_withLetter cX1_withLetter 4 (some .long), Cond.methodLink RX2 86 yX0_eventCount, Cond.instanceMethod yX0_eventCount, Cond.selects RX0 yX0_eventCount yX0_eventCount, Cond.code yX0_eventCount cX0_eventCount 1 (some .int)]
def wsX2_find_r3 : List Cond := [Cond.fieldLink RX0 31 "ParishNames$Chronicle" "told" "I", Cond.methodLink RX2 196 yX0_sitesThrough, Cond.instanceMethod yX0_sitesThrough, Cond.selects RX0 yX0_sitesThrough yX0_sitesThrough, Cond.code yX0_sitesThrough cX0_sitesThrough 4 (some .int), Cond.fieldLink RX0 18 "ParishNames$Chronicle" "parishes" "[I", Cond.fieldLink RX0 21 "ParishNames$Chronicle" "sets" "[I", Cond.fieldLink RX0 24 "ParishNames$Chronicle" "owners" "[I", Cond.methodLink RX2 200 yX0_nameThrough, Cond.instanceMethod yX0_nameThrough, Cond.selects RX0 yX0_nameThrough yX0_nameThrough, Cond.code yX0_nameThrough cX0_nameThrough 5 (some .long), Cond.fieldLink RX0 9 "ParishNames$Chronicle" "kinds" "[I", Cond.fieldLink RX0 27 "ParishNames$Chronicle" "names" "[J", Cond.methodLink RX2 141 yX0_firstYear, Cond.instanceMethod yX0_firstYear, Cond.selects RX0 yX0_firstYear yX0_firstYear, Cond.code yX0_firstYear cX0_firstYear 2 (some .int), Cond.fieldLink RX0 15 "ParishNames$Chronicle" "years" "[I", Cond.methodLink RX2 149 yX0_lastYear, Cond.instanceMethod yX0_lastYear, Cond.selects RX0 yX0_lastYear yX0_lastYear, Cond.code yX0_lastYear cX0_lastYear 2 (some .int), Cond.methodLink RX2 158 yX1_areAlike]
def wsX2_find_r4 : List Cond := [Cond.instanceMethod yX1_areAlike, Cond.selects RX1 yX1_areAlike yX1_areAlike, Cond.code yX1_areAlike cX1_areAlike 6 (some .boolean), Cond.methodLink RX1 31 yX1_soundOf, Cond.static yX1_soundOf, Cond.code yX1_soundOf cX1_soundOf 8 (some .int), Cond.methodLink RX1 15 yX1_letterOf, Cond.static yX1_letterOf, Cond.code yX1_letterOf cX1_letterOf 3 (some .int), Cond.methodLink RX1 19 yX1_classOf, Cond.static yX1_classOf, Cond.code yX1_classOf cX1_classOf 1 (some .int), Cond.methodLink RX1 23 yX1_lengthOf, Cond.static yX1_lengthOf, Cond.code yX1_lengthOf cX1_lengthOf 3 (some .int), Cond.methodLink RX1 34 yX1_distance, Cond.instanceMethod yX1_distance, Cond.selects RX1 yX1_distance yX1_distance, Cond.code yX1_distance cX1_distance 11 (some .int), Cond.fieldLink RX1 9 "ParishNames$Speller" "row" "[I", Cond.methodLink RX1 38 Lib.Math.min.name]
def wsX2_find : List Cond := .code yX2_find cX2_find 7 (some .int) :: ((wsX2_find_r1 ++ (wsX2_find_r2 ++ (wsX2_find_r3 ++ wsX2_find_r4))) ++ wsX20 ++ wsX00 ++ wsX10)
def wsX2_called_r1 : List Cond := [Cond.fieldLink RX2 10 "ParishNames" "now" "LParishNames$Chronicle;", Cond.methodLink RX2 144 Lib.Math.max.name, Cond.static Lib.Math.max.name, Cond.initialized "java/lang/Math", Cond.code Lib.Math.max.name Lib.Math.max.code 2 (some .int), Cond.methodLink RX2 152 Lib.Math.min.name, Cond.static Lib.Math.min.name, Cond.code Lib.Math.min.name Lib.Math.min.code 2 (some .int), Cond.fieldLink RX2 23 "ParishNames" "speller" "LParishNames$Speller;", Cond.fieldLink RX2 31 "ParishNames" "pad" "J", Cond.methodLink RX2 96 yX2_isSite, Cond.static yX2_isSite, Cond.initialized RX2, Cond.code yX2_isSite cX2_isSite 1 (some .boolean), Cond.methodLink RX2 131 yX2_areYears, Cond.static yX2_areYears, Cond.code yX2_areYears cX2_areYears 2 (some .boolean), Cond.methodLink RX2 47 yX2_isYear, Cond.static yX2_isYear, Cond.code yX2_isYear cX2_isYear 1 (some .boolean), Cond.methodLink RX2 134 yX2_isHow, Cond.static yX2_isHow, Cond.code yX2_isHow cX2_isHow 1 (some .boolean), Cond.methodLink RX2 50 yX2_padIsNoName]
def wsX2_called_r2 : List Cond := [Cond.instanceMethod yX2_padIsNoName, Cond.selects RX2 yX2_padIsNoName yX2_padIsNoName, Cond.code yX2_padIsNoName cX2_padIsNoName 1 (some .boolean), Cond.methodLink RX2 86 yX0_eventCount, Cond.instanceMethod yX0_eventCount, Cond.selects RX0 yX0_eventCount yX0_eventCount, Cond.initialized RX0, Cond.code yX0_eventCount cX0_eventCount 1 (some .int), Cond.fieldLink RX0 31 "ParishNames$Chronicle" "told" "I", Cond.methodLink RX2 141 yX0_firstYear, Cond.instanceMethod yX0_firstYear, Cond.selects RX0 yX0_firstYear yX0_firstYear, Cond.code yX0_firstYear cX0_firstYear 2 (some .int), Cond.fieldLink RX0 15 "ParishNames$Chronicle" "years" "[I", Cond.methodLink RX2 149 yX0_lastYear, Cond.instanceMethod yX0_lastYear, Cond.selects RX0 yX0_lastYear yX0_lastYear, Cond.code yX0_lastYear cX0_lastYear 2 (some .int), Cond.methodLink RX2 155 yX0_nameAt, Cond.instanceMethod yX0_nameAt, Cond.selects RX0 yX0_nameAt yX0_nameAt, Cond.code yX0_nameAt cX0_nameAt 3 (some .long), Cond.methodLink RX0 91 yX0_ownerBehind, Cond.instanceMethod yX0_ownerBehind]
def wsX2_called_r3 : List Cond := [Cond.selects RX0 yX0_ownerBehind yX0_ownerBehind, Cond.code yX0_ownerBehind cX0_ownerBehind 5 (some .int), Cond.fieldLink RX0 21 "ParishNames$Chronicle" "sets" "[I", Cond.fieldLink RX0 24 "ParishNames$Chronicle" "owners" "[I", Cond.static yX2_has, Cond.code yX2_has cX2_has 2 (some .boolean), Cond.methodLink RX0 87 yX0_nameBehind, Cond.instanceMethod yX0_nameBehind, Cond.selects RX0 yX0_nameBehind yX0_nameBehind, Cond.code yX0_nameBehind cX0_nameBehind 6 (some .long), Cond.methodLink RX0 68 yX0_nameAtFirst, Cond.static yX0_nameAtFirst, Cond.code yX0_nameAtFirst cX0_nameAtFirst 1 (some .long), Cond.methodLink RX0 55 yX1_withLetter, Cond.static yX1_withLetter, Cond.initialized RX1, Cond.code yX1_withLetter cX1_withLetter 4 (some .long), Cond.methodLink RX0 72 yX0_nameThrough, Cond.instanceMethod yX0_nameThrough, Cond.selects RX0 yX0_nameThrough yX0_nameThrough, Cond.code yX0_nameThrough cX0_nameThrough 5 (some .long), Cond.fieldLink RX0 9 "ParishNames$Chronicle" "kinds" "[I", Cond.fieldLink RX0 18 "ParishNames$Chronicle" "parishes" "[I", Cond.fieldLink RX0 27 "ParishNames$Chronicle" "names" "[J"]
def wsX2_called_r4 : List Cond := [Cond.methodLink RX2 158 yX1_areAlike, Cond.instanceMethod yX1_areAlike, Cond.selects RX1 yX1_areAlike yX1_areAlike, Cond.code yX1_areAlike cX1_areAlike 6 (some .boolean), Cond.methodLink RX1 31 yX1_soundOf, Cond.static yX1_soundOf, Cond.code yX1_soundOf cX1_soundOf 8 (some .int), Cond.methodLink RX1 15 yX1_letterOf, Cond.static yX1_letterOf, Cond.code yX1_letterOf cX1_letterOf 3 (some .int), Cond.methodLink RX1 19 yX1_classOf, Cond.static yX1_classOf, Cond.code yX1_classOf cX1_classOf 1 (some .int), Cond.methodLink RX1 23 yX1_lengthOf, Cond.static yX1_lengthOf, Cond.code yX1_lengthOf cX1_lengthOf 3 (some .int), Cond.methodLink RX1 34 yX1_distance, Cond.instanceMethod yX1_distance, Cond.selects RX1 yX1_distance yX1_distance, Cond.code yX1_distance cX1_distance 11 (some .int), Cond.fieldLink RX1 9 "ParishNames$Speller" "row" "[I", Cond.methodLink RX1 38 Lib.Math.min.name]
def wsX2_called : List Cond := .code yX2_called cX2_called 12 (some .int) :: ((wsX2_called_r1 ++ (wsX2_called_r2 ++ (wsX2_called_r3 ++ wsX2_called_r4))) ++ wsX20 ++ wsX00 ++ wsX10)
def wsX2_off_r1 : List Cond := [Cond.fieldLink RX2 10 "ParishNames" "now" "LParishNames$Chronicle;", Cond.fieldLink RX2 23 "ParishNames" "speller" "LParishNames$Speller;", Cond.fieldLink RX2 31 "ParishNames" "pad" "J", Cond.methodLink RX2 43 yX0_knows, Cond.instanceMethod yX0_knows, Cond.selects RX0 yX0_knows yX0_knows, Cond.initialized RX0, Cond.code yX0_knows cX0_knows 2 (some .boolean), Cond.fieldLink RX0 35 "ParishNames$Chronicle" "founded" "I", Cond.methodLink RX2 47 yX2_isYear, Cond.static yX2_isYear, Cond.initialized RX2, Cond.code yX2_isYear cX2_isYear 1 (some .boolean), Cond.methodLink RX2 50 yX2_padIsNoName, Cond.instanceMethod yX2_padIsNoName, Cond.selects RX2 yX2_padIsNoName yX2_padIsNoName, Cond.code yX2_padIsNoName cX2_padIsNoName 1 (some .boolean), Cond.methodLink RX2 108 yX0_nameIn, Cond.instanceMethod yX0_nameIn, Cond.selects RX0 yX0_nameIn yX0_nameIn, Cond.code yX0_nameIn cX0_nameIn 4 (some .long), Cond.methodLink RX0 84 yX0_stageIn, Cond.instanceMethod yX0_stageIn, Cond.selects RX0 yX0_stageIn yX0_stageIn]
def wsX2_off_r2 : List Cond := [Cond.code yX0_stageIn cX0_stageIn 3 (some .int), Cond.fieldLink RX0 31 "ParishNames$Chronicle" "told" "I", Cond.fieldLink RX0 15 "ParishNames$Chronicle" "years" "[I", Cond.methodLink RX0 80 yX0_sitesBehind, Cond.instanceMethod yX0_sitesBehind, Cond.selects RX0 yX0_sitesBehind yX0_sitesBehind, Cond.code yX0_sitesBehind cX0_sitesBehind 5 (some .int), Cond.methodLink RX0 61 yX0_sitesAtFirst, Cond.static yX0_sitesAtFirst, Cond.code yX0_sitesAtFirst cX0_sitesAtFirst 1 (some .int), Cond.methodLink RX0 64 yX0_sitesThrough, Cond.instanceMethod yX0_sitesThrough, Cond.selects RX0 yX0_sitesThrough yX0_sitesThrough, Cond.code yX0_sitesThrough cX0_sitesThrough 4 (some .int), Cond.fieldLink RX0 18 "ParishNames$Chronicle" "parishes" "[I", Cond.fieldLink RX0 21 "ParishNames$Chronicle" "sets" "[I", Cond.fieldLink RX0 24 "ParishNames$Chronicle" "owners" "[I", Cond.methodLink RX0 87 yX0_nameBehind, Cond.instanceMethod yX0_nameBehind, Cond.selects RX0 yX0_nameBehind yX0_nameBehind, Cond.code yX0_nameBehind cX0_nameBehind 6 (some .long), Cond.methodLink RX0 68 yX0_nameAtFirst, Cond.static yX0_nameAtFirst, Cond.code yX0_nameAtFirst cX0_nameAtFirst 1 (some .long)]
def wsX2_off_r3 : List Cond := [Cond.methodLink RX0 55 yX1_withLetter, Cond.static yX1_withLetter, Cond.initialized RX1, Cond.code yX1_withLetter cX1_withLetter 4 (some .long), Cond.methodLink RX0 72 yX0_nameThrough, Cond.instanceMethod yX0_nameThrough, Cond.selects RX0 yX0_nameThrough yX0_nameThrough, Cond.code yX0_nameThrough cX0_nameThrough 5 (some .long), Cond.fieldLink RX0 9 "ParishNames$Chronicle" "kinds" "[I", Cond.fieldLink RX0 27 "ParishNames$Chronicle" "names" "[J", Cond.methodLink RX2 162 yX1_distance, Cond.instanceMethod yX1_distance, Cond.selects RX1 yX1_distance yX1_distance, Cond.code yX1_distance cX1_distance 11 (some .int), Cond.fieldLink RX1 9 "ParishNames$Speller" "row" "[I", Cond.methodLink RX1 38 Lib.Math.min.name, Cond.static Lib.Math.min.name, Cond.initialized "java/lang/Math", Cond.code Lib.Math.min.name Lib.Math.min.code 2 (some .int), Cond.methodLink RX1 23 yX1_lengthOf, Cond.static yX1_lengthOf, Cond.code yX1_lengthOf cX1_lengthOf 3 (some .int), Cond.methodLink RX1 15 yX1_letterOf, Cond.static yX1_letterOf]
def wsX2_off_r4 : List Cond := [Cond.code yX1_letterOf cX1_letterOf 3 (some .int)]
def wsX2_off : List Cond := .code yX2_off cX2_off 5 (some .int) :: ((wsX2_off_r1 ++ (wsX2_off_r2 ++ (wsX2_off_r3 ++ wsX2_off_r4))) ++ wsX20 ++ wsX00 ++ wsX10)
def wsX2_spanFact : List Cond := .code yX2_spanFact cX2_spanFact 5 (some .int) :: ([.fieldLink RX2 10 "ParishNames" "now" "LParishNames$Chronicle;", .methodLink RX2 141 yX0_firstYear, .instanceMethod yX0_firstYear, .selects RX0 yX0_firstYear yX0_firstYear, .initialized RX0, .code yX0_firstYear cX0_firstYear 2 (some .int), .fieldLink RX0 31 "ParishNames$Chronicle" "told" "I", .fieldLink RX0 15 "ParishNames$Chronicle" "years" "[I", .methodLink RX2 102 yX0_ownerBehind, .instanceMethod yX0_ownerBehind, .selects RX0 yX0_ownerBehind yX0_ownerBehind, .code yX0_ownerBehind cX0_ownerBehind 5 (some .int), .fieldLink RX0 21 "ParishNames$Chronicle" "sets" "[I", .fieldLink RX0 24 "ParishNames$Chronicle" "owners" "[I", .static yX2_has, .initialized RX2, .code yX2_has cX2_has 2 (some .boolean), .methodLink RX2 86 yX0_eventCount, .instanceMethod yX0_eventCount, .selects RX0 yX0_eventCount yX0_eventCount, .code yX0_eventCount cX0_eventCount 1 (some .int)] ++ wsX20 ++ wsX00)
def wsX2_span_r1 : List Cond := [Cond.fieldLink RX2 10 "ParishNames" "now" "LParishNames$Chronicle;", Cond.methodLink RX2 96 yX2_isSite, Cond.static yX2_isSite, Cond.initialized RX2, Cond.code yX2_isSite cX2_isSite 1 (some .boolean), Cond.methodLink RX2 99 yX0_stageIn, Cond.instanceMethod yX0_stageIn, Cond.selects RX0 yX0_stageIn yX0_stageIn, Cond.initialized RX0, Cond.code yX0_stageIn cX0_stageIn 3 (some .int), Cond.fieldLink RX0 31 "ParishNames$Chronicle" "told" "I", Cond.fieldLink RX0 15 "ParishNames$Chronicle" "years" "[I", Cond.methodLink RX2 86 yX0_eventCount, Cond.instanceMethod yX0_eventCount, Cond.selects RX0 yX0_eventCount yX0_eventCount, Cond.code yX0_eventCount cX0_eventCount 1 (some .int), Cond.methodLink RX2 166 yX0_nextSpan, Cond.instanceMethod yX0_nextSpan, Cond.selects RX0 yX0_nextSpan yX0_nextSpan, Cond.code yX0_nextSpan cX0_nextSpan 8 (some .int), Cond.methodLink RX0 91 yX0_ownerBehind, Cond.instanceMethod yX0_ownerBehind, Cond.selects RX0 yX0_ownerBehind yX0_ownerBehind, Cond.code yX0_ownerBehind cX0_ownerBehind 5 (some .int)]
def wsX2_span_r2 : List Cond := [Cond.fieldLink RX0 21 "ParishNames$Chronicle" "sets" "[I", Cond.fieldLink RX0 24 "ParishNames$Chronicle" "owners" "[I", Cond.static yX2_has, Cond.code yX2_has cX2_has 2 (some .boolean), Cond.methodLink RX0 87 yX0_nameBehind, Cond.instanceMethod yX0_nameBehind, Cond.selects RX0 yX0_nameBehind yX0_nameBehind, Cond.code yX0_nameBehind cX0_nameBehind 6 (some .long), Cond.methodLink RX0 68 yX0_nameAtFirst, Cond.static yX0_nameAtFirst, Cond.code yX0_nameAtFirst cX0_nameAtFirst 1 (some .long), Cond.methodLink RX0 55 yX1_withLetter, Cond.static yX1_withLetter, Cond.initialized RX1, Cond.code yX1_withLetter cX1_withLetter 4 (some .long), Cond.methodLink RX0 72 yX0_nameThrough, Cond.instanceMethod yX0_nameThrough, Cond.selects RX0 yX0_nameThrough yX0_nameThrough, Cond.code yX0_nameThrough cX0_nameThrough 5 (some .long), Cond.fieldLink RX0 9 "ParishNames$Chronicle" "kinds" "[I", Cond.fieldLink RX0 18 "ParishNames$Chronicle" "parishes" "[I", Cond.fieldLink RX0 27 "ParishNames$Chronicle" "names" "[J", Cond.methodLink RX0 94 yX0_holdsInAYear, Cond.instanceMethod yX0_holdsInAYear]
def wsX2_span_r3 : List Cond := [Cond.selects RX0 yX0_holdsInAYear yX0_holdsInAYear, Cond.code yX0_holdsInAYear cX0_holdsInAYear 2 (some .boolean), Cond.methodLink RX0 48 yX0_firstYear, Cond.instanceMethod yX0_firstYear, Cond.selects RX0 yX0_firstYear yX0_firstYear, Cond.code yX0_firstYear cX0_firstYear 2 (some .int), Cond.methodLink RX0 52 yX0_lastYear, Cond.instanceMethod yX0_lastYear, Cond.selects RX0 yX0_lastYear yX0_lastYear, Cond.code yX0_lastYear cX0_lastYear 2 (some .int), Cond.methodLink RX2 169 yX2_spanFact, Cond.instanceMethod yX2_spanFact, Cond.selects RX2 yX2_spanFact yX2_spanFact, Cond.code yX2_spanFact cX2_spanFact 5 (some .int), Cond.methodLink RX2 141 yX0_firstYear, Cond.methodLink RX2 102 yX0_ownerBehind]
def wsX2_span : List Cond := .code yX2_span cX2_span 8 (some .int) :: ((wsX2_span_r1 ++ (wsX2_span_r2 ++ wsX2_span_r3)) ++ wsX20 ++ wsX00)
def wsX2_heirs_r1 : List Cond := [Cond.fieldLink RX2 10 "ParishNames" "now" "LParishNames$Chronicle;", Cond.methodLink RX2 43 yX0_knows, Cond.instanceMethod yX0_knows, Cond.selects RX0 yX0_knows yX0_knows, Cond.initialized RX0, Cond.code yX0_knows cX0_knows 2 (some .boolean), Cond.fieldLink RX0 35 "ParishNames$Chronicle" "founded" "I", Cond.methodLink RX2 47 yX2_isYear, Cond.static yX2_isYear, Cond.initialized RX2, Cond.code yX2_isYear cX2_isYear 1 (some .boolean), Cond.methodLink RX2 99 yX0_stageIn, Cond.instanceMethod yX0_stageIn, Cond.selects RX0 yX0_stageIn yX0_stageIn, Cond.code yX0_stageIn cX0_stageIn 3 (some .int), Cond.fieldLink RX0 31 "ParishNames$Chronicle" "told" "I", Cond.fieldLink RX0 15 "ParishNames$Chronicle" "years" "[I", Cond.methodLink RX2 105 yX0_sitesBehind, Cond.instanceMethod yX0_sitesBehind, Cond.selects RX0 yX0_sitesBehind yX0_sitesBehind, Cond.code yX0_sitesBehind cX0_sitesBehind 5 (some .int), Cond.methodLink RX0 61 yX0_sitesAtFirst, Cond.static yX0_sitesAtFirst, Cond.code yX0_sitesAtFirst cX0_sitesAtFirst 1 (some .int)]
def wsX2_heirs_r2 : List Cond := [Cond.methodLink RX0 64 yX0_sitesThrough, Cond.instanceMethod yX0_sitesThrough, Cond.selects RX0 yX0_sitesThrough yX0_sitesThrough, Cond.code yX0_sitesThrough cX0_sitesThrough 4 (some .int), Cond.fieldLink RX0 18 "ParishNames$Chronicle" "parishes" "[I", Cond.fieldLink RX0 21 "ParishNames$Chronicle" "sets" "[I", Cond.fieldLink RX0 24 "ParishNames$Chronicle" "owners" "[I", Cond.methodLink RX2 173 yX2_has, Cond.static yX2_has, Cond.code yX2_has cX2_has 2 (some .boolean), Cond.methodLink RX2 102 yX0_ownerBehind, Cond.instanceMethod yX0_ownerBehind, Cond.selects RX0 yX0_ownerBehind yX0_ownerBehind, Cond.code yX0_ownerBehind cX0_ownerBehind 5 (some .int)]
def wsX2_heirs : List Cond := .code yX2_heirs cX2_heirs 8 (some .int) :: ((wsX2_heirs_r1 ++ wsX2_heirs_r2) ++ wsX20 ++ wsX00)
def wsX2_image : List Cond := .code yX2_image cX2_image 2 (some .int) :: ([.fieldLink RX2 16 "ParishNames" "kept" "[LParishNames$Chronicle;", .fieldLink RX2 10 "ParishNames" "now" "LParishNames$Chronicle;", .fieldLink RX2 27 "ParishNames" "keptSet" "I", .methodLink RX2 176 yX0_becomeLike, .instanceMethod yX0_becomeLike, .selects RX0 yX0_becomeLike yX0_becomeLike, .initialized RX0, .code yX0_becomeLike cX0_becomeLike 2 none, .fieldLink RX0 9 "ParishNames$Chronicle" "kinds" "[I", .methodLink RX0 42 arraycopyName, .native arraycopyName, .static arraycopyName, .initialized "java/lang/System", .fieldLink RX0 15 "ParishNames$Chronicle" "years" "[I", .fieldLink RX0 18 "ParishNames$Chronicle" "parishes" "[I", .fieldLink RX0 21 "ParishNames$Chronicle" "sets" "[I", .fieldLink RX0 24 "ParishNames$Chronicle" "owners" "[I", .fieldLink RX0 27 "ParishNames$Chronicle" "names" "[J", .fieldLink RX0 31 "ParishNames$Chronicle" "told" "I", .fieldLink RX0 35 "ParishNames$Chronicle" "founded" "I"] ++ wsX20 ++ wsX00)
def wsX2_restore : List Cond := .code yX2_restore cX2_restore 2 (some .int) :: ([.fieldLink RX2 27 "ParishNames" "keptSet" "I", .fieldLink RX2 10 "ParishNames" "now" "LParishNames$Chronicle;", .fieldLink RX2 16 "ParishNames" "kept" "[LParishNames$Chronicle;", .methodLink RX2 173 yX2_has, .static yX2_has, .initialized RX2, .code yX2_has cX2_has 2 (some .boolean), .methodLink RX2 176 yX0_becomeLike, .instanceMethod yX0_becomeLike, .selects RX0 yX0_becomeLike yX0_becomeLike, .initialized RX0, .code yX0_becomeLike cX0_becomeLike 2 none, .fieldLink RX0 9 "ParishNames$Chronicle" "kinds" "[I", .methodLink RX0 42 arraycopyName, .native arraycopyName, .static arraycopyName, .initialized "java/lang/System", .fieldLink RX0 15 "ParishNames$Chronicle" "years" "[I", .fieldLink RX0 18 "ParishNames$Chronicle" "parishes" "[I", .fieldLink RX0 21 "ParishNames$Chronicle" "sets" "[I", .fieldLink RX0 24 "ParishNames$Chronicle" "owners" "[I", .fieldLink RX0 27 "ParishNames$Chronicle" "names" "[J", .fieldLink RX0 31 "ParishNames$Chronicle" "told" "I", .fieldLink RX0 35 "ParishNames$Chronicle" "founded" "I"] ++ wsX20 ++ wsX00)
def wsX2_count_r1 : List Cond := [Cond.fieldLink RX2 10 "ParishNames" "now" "LParishNames$Chronicle;", Cond.fieldLink RX2 31 "ParishNames" "pad" "J", Cond.fieldLink RX2 27 "ParishNames" "keptSet" "I", Cond.methodLink RX2 86 yX0_eventCount, Cond.instanceMethod yX0_eventCount, Cond.selects RX0 yX0_eventCount yX0_eventCount, Cond.initialized RX0, Cond.code yX0_eventCount cX0_eventCount 1 (some .int), Cond.fieldLink RX0 31 "ParishNames$Chronicle" "told" "I", Cond.methodLink RX2 83 yX0_parishCount, Cond.instanceMethod yX0_parishCount, Cond.selects RX0 yX0_parishCount yX0_parishCount, Cond.code yX0_parishCount cX0_parishCount 1 (some .int), Cond.fieldLink RX0 35 "ParishNames$Chronicle" "founded" "I", Cond.methodLink RX2 35 yX1_lengthOf, Cond.static yX1_lengthOf, Cond.initialized RX1, Cond.code yX1_lengthOf cX1_lengthOf 3 (some .int), Cond.methodLink RX1 15 yX1_letterOf, Cond.static yX1_letterOf, Cond.code yX1_letterOf cX1_letterOf 3 (some .int), Cond.methodLink RX2 54 yX0_yearOfLast, Cond.instanceMethod yX0_yearOfLast, Cond.selects RX0 yX0_yearOfLast yX0_yearOfLast]
def wsX2_count_r2 : List Cond := [Cond.code yX0_yearOfLast cX0_yearOfLast 1 (some .int), Cond.fieldLink RX0 15 "ParishNames$Chronicle" "years" "[I", Cond.methodLink RX2 180 yX0_parishesNow, Cond.instanceMethod yX0_parishesNow, Cond.selects RX0 yX0_parishesNow yX0_parishesNow, Cond.code yX0_parishesNow cX0_parishesNow 3 (some .int), Cond.methodLink RX0 103 yX0_sitesNow, Cond.instanceMethod yX0_sitesNow, Cond.selects RX0 yX0_sitesNow yX0_sitesNow, Cond.code yX0_sitesNow cX0_sitesNow 2 (some .int), Cond.methodLink RX0 80 yX0_sitesBehind, Cond.instanceMethod yX0_sitesBehind, Cond.selects RX0 yX0_sitesBehind yX0_sitesBehind, Cond.code yX0_sitesBehind cX0_sitesBehind 5 (some .int), Cond.methodLink RX0 61 yX0_sitesAtFirst, Cond.static yX0_sitesAtFirst, Cond.code yX0_sitesAtFirst cX0_sitesAtFirst 1 (some .int), Cond.methodLink RX0 64 yX0_sitesThrough, Cond.instanceMethod yX0_sitesThrough, Cond.selects RX0 yX0_sitesThrough yX0_sitesThrough, Cond.code yX0_sitesThrough cX0_sitesThrough 4 (some .int), Cond.fieldLink RX0 18 "ParishNames$Chronicle" "parishes" "[I", Cond.fieldLink RX0 21 "ParishNames$Chronicle" "sets" "[I", Cond.fieldLink RX0 24 "ParishNames$Chronicle" "owners" "[I"]
def wsX2_count_r3 : List Cond := [Cond.methodLink RX2 183 yX0_unlikeNamesNow, Cond.instanceMethod yX0_unlikeNamesNow, Cond.selects RX0 yX0_unlikeNamesNow yX0_unlikeNamesNow, Cond.code yX0_unlikeNamesNow cX0_unlikeNamesNow 3 (some .int), Cond.methodLink RX0 106 yX0_isNameOfLesser, Cond.instanceMethod yX0_isNameOfLesser, Cond.selects RX0 yX0_isNameOfLesser yX0_isNameOfLesser, Cond.code yX0_isNameOfLesser cX0_isNameOfLesser 5 (some .boolean), Cond.methodLink RX0 87 yX0_nameBehind, Cond.instanceMethod yX0_nameBehind, Cond.selects RX0 yX0_nameBehind yX0_nameBehind, Cond.code yX0_nameBehind cX0_nameBehind 6 (some .long), Cond.methodLink RX0 68 yX0_nameAtFirst, Cond.static yX0_nameAtFirst, Cond.code yX0_nameAtFirst cX0_nameAtFirst 1 (some .long), Cond.methodLink RX0 55 yX1_withLetter, Cond.static yX1_withLetter, Cond.code yX1_withLetter cX1_withLetter 4 (some .long), Cond.methodLink RX0 72 yX0_nameThrough, Cond.instanceMethod yX0_nameThrough, Cond.selects RX0 yX0_nameThrough yX0_nameThrough, Cond.code yX0_nameThrough cX0_nameThrough 5 (some .long), Cond.fieldLink RX0 9 "ParishNames$Chronicle" "kinds" "[I", Cond.fieldLink RX0 27 "ParishNames$Chronicle" "names" "[J"]
def wsX2_count_r4 : List Cond := [Cond.methodLink RX2 186 yX0_eventsOfKind, Cond.instanceMethod yX0_eventsOfKind, Cond.selects RX0 yX0_eventsOfKind yX0_eventsOfKind, Cond.code yX0_eventsOfKind cX0_eventsOfKind 4 (some .int)]
def wsX2_count : List Cond := .code yX2_count cX2_count 2 (some .int) :: ((wsX2_count_r1 ++ (wsX2_count_r2 ++ (wsX2_count_r3 ++ wsX2_count_r4))) ++ wsX20 ++ wsX00)
def wsX3_init : List Cond := .code yX3_init cX3_init 1 none :: ([.methodLink RX3 1 objectInit, .instanceMethod objectInit, .code objectInit ⟨#[0xb1]⟩ 1 none, .arrayClass .int, .fieldLink RX3 7 "ParishNamesModel" "state" "[I", .fieldLink RX3 13 "ParishNamesModel" "images" "[I", .arrayClass .boolean, .fieldLink RX3 16 "ParishNamesModel" "isKept" "[Z", .fieldLink RX3 20 "ParishNamesModel" "pad" "[I", .fieldLink RX3 23 "ParishNamesModel" "owner" "[I", .fieldLink RX3 26 "ParishNamesModel" "namedBy" "[I", .fieldLink RX3 29 "ParishNamesModel" "first" "[I", .fieldLink RX3 32 "ParishNamesModel" "second" "[I", .fieldLink RX3 35 "ParishNamesModel" "firstSound" "[I", .fieldLink RX3 38 "ParishNamesModel" "secondSound" "[I", .fieldLink RX3 41 "ParishNamesModel" "costs" "[I"] ++ wsX30)
def wsX3_in : List Cond := .code yX3_in cX3_in 3 (some .boolean) :: ([])
def wsX3_isParish : List Cond := .code yX3_isParish cX3_isParish 2 (some .boolean) :: ([.fieldLink RX3 7 "ParishNamesModel" "state" "[I", .methodLink RX3 44 yX3_in, .static yX3_in, .initialized RX3, .code yX3_in cX3_in 3 (some .boolean)] ++ wsX30)
def wsX3_isSite : List Cond := .code yX3_isSite cX3_isSite 1 (some .boolean) :: ([.methodLink RX3 44 yX3_in, .static yX3_in, .initialized RX3, .code yX3_in cX3_in 3 (some .boolean)])
def wsX3_isYear : List Cond := .code yX3_isYear cX3_isYear 1 (some .boolean) :: ([.methodLink RX3 44 yX3_in, .static yX3_in, .initialized RX3, .code yX3_in cX3_in 3 (some .boolean)])
def wsX3_bits : List Cond := .code yX3_bits cX3_bits 3 (some .int) :: ([])
def wsX3_say : List Cond := .code yX3_say cX3_say 2 (some .int) :: ([.fieldLink RX3 48 "ParishNamesModel" "said" "I", .fieldLink RX3 20 "ParishNamesModel" "pad" "[I", .methodLink RX3 44 yX3_in, .static yX3_in, .initialized RX3, .code yX3_in cX3_in 3 (some .boolean)] ++ wsX30)
def wsX3_wipe : List Cond := .code yX3_wipe cX3_wipe 2 (some .int) :: ([.fieldLink RX3 48 "ParishNamesModel" "said" "I"] ++ wsX30)
def wsX3_goThrough : List Cond := .code yX3_goThrough cX3_goThrough 4 none :: ([.fieldLink RX3 23 "ParishNamesModel" "owner" "[I", .fieldLink RX3 26 "ParishNamesModel" "namedBy" "[I", .fieldLink RX3 7 "ParishNamesModel" "state" "[I"] ++ wsX30)
def wsX3_goTo : List Cond := .code yX3_goTo cX3_goTo 3 none :: ([.fieldLink RX3 7 "ParishNamesModel" "state" "[I", .methodLink RX3 52 yX3_goThrough, .instanceMethod yX3_goThrough, .selects RX3 yX3_goThrough yX3_goThrough, .initialized RX3, .code yX3_goThrough cX3_goThrough 4 none, .fieldLink RX3 23 "ParishNamesModel" "owner" "[I", .fieldLink RX3 26 "ParishNamesModel" "namedBy" "[I"] ++ wsX30)
def wsX3_goToEnd : List Cond := .code yX3_goToEnd cX3_goToEnd 1 none :: ([.fieldLink RX3 7 "ParishNamesModel" "state" "[I", .methodLink RX3 52 yX3_goThrough, .instanceMethod yX3_goThrough, .selects RX3 yX3_goThrough yX3_goThrough, .initialized RX3, .code yX3_goThrough cX3_goThrough 4 none, .fieldLink RX3 23 "ParishNamesModel" "owner" "[I", .fieldLink RX3 26 "ParishNamesModel" "namedBy" "[I"] ++ wsX30)
def wsX3_sitesOf : List Cond := .code yX3_sitesOf cX3_sitesOf 4 (some .int) :: ([.fieldLink RX3 23 "ParishNamesModel" "owner" "[I"] ++ wsX30)
def wsX3_lettersOf : List Cond := .code yX3_lettersOf cX3_lettersOf 2 (some .int) :: ([.fieldLink RX3 26 "ParishNamesModel" "namedBy" "[I", .fieldLink RX3 7 "ParishNamesModel" "state" "[I"] ++ wsX30)
def wsX3_letterOf : List Cond := .code yX3_letterOf cX3_letterOf 3 (some .int) :: ([.fieldLink RX3 26 "ParishNamesModel" "namedBy" "[I", .fieldLink RX3 7 "ParishNamesModel" "state" "[I"] ++ wsX30)
def wsX3_lastYear : List Cond := .code yX3_lastYear cX3_lastYear 1 (some .int) :: ([.fieldLink RX3 7 "ParishNamesModel" "state" "[I"] ++ wsX30)
def wsX3_add : List Cond := .code yX3_add cX3_add 7 none :: ([.fieldLink RX3 7 "ParishNamesModel" "state" "[I"] ++ wsX30)
def wsX3_takeName : List Cond := .code yX3_takeName cX3_takeName 3 none :: ([.fieldLink RX3 48 "ParishNamesModel" "said" "I", .fieldLink RX3 7 "ParishNamesModel" "state" "[I", .fieldLink RX3 20 "ParishNamesModel" "pad" "[I"] ++ wsX30)
def wsX3_name_r1 : List Cond := [Cond.fieldLink RX3 48 "ParishNamesModel" "said" "I", Cond.fieldLink RX3 7 "ParishNamesModel" "state" "[I", Cond.methodLink RX3 56 yX3_isParish, Cond.instanceMethod yX3_isParish, Cond.selects RX3 yX3_isParish yX3_isParish, Cond.initialized RX3, Cond.code yX3_isParish cX3_isParish 2 (some .boolean), Cond.methodLink RX3 44 yX3_in, Cond.static yX3_in, Cond.code yX3_in cX3_in 3 (some .boolean), Cond.methodLink RX3 60 yX3_isYear, Cond.static yX3_isYear, Cond.code yX3_isYear cX3_isYear 1 (some .boolean), Cond.methodLink RX3 63 yX3_lastYear, Cond.instanceMethod yX3_lastYear, Cond.selects RX3 yX3_lastYear yX3_lastYear, Cond.code yX3_lastYear cX3_lastYear 1 (some .int), Cond.methodLink RX3 67 yX3_goToEnd, Cond.instanceMethod yX3_goToEnd, Cond.selects RX3 yX3_goToEnd yX3_goToEnd, Cond.code yX3_goToEnd cX3_goToEnd 1 none, Cond.methodLink RX3 52 yX3_goThrough, Cond.instanceMethod yX3_goThrough, Cond.selects RX3 yX3_goThrough yX3_goThrough]
def wsX3_name_r2 : List Cond := [Cond.code yX3_goThrough cX3_goThrough 4 none, Cond.fieldLink RX3 23 "ParishNamesModel" "owner" "[I", Cond.fieldLink RX3 26 "ParishNamesModel" "namedBy" "[I", Cond.methodLink RX3 70 yX3_sitesOf, Cond.instanceMethod yX3_sitesOf, Cond.selects RX3 yX3_sitesOf yX3_sitesOf, Cond.code yX3_sitesOf cX3_sitesOf 4 (some .int), Cond.methodLink RX3 74 yX3_add, Cond.instanceMethod yX3_add, Cond.selects RX3 yX3_add yX3_add, Cond.code yX3_add cX3_add 7 none, Cond.methodLink RX3 78 yX3_takeName, Cond.instanceMethod yX3_takeName, Cond.selects RX3 yX3_takeName yX3_takeName, Cond.code yX3_takeName cX3_takeName 3 none, Cond.fieldLink RX3 20 "ParishNamesModel" "pad" "[I"]
def wsX3_name : List Cond := .code yX3_name cX3_name 4 (some .int) :: ((wsX3_name_r1 ++ wsX3_name_r2) ++ wsX30)
def wsX3_isSome : List Cond := .code yX3_isSome cX3_isSome 4 (some .boolean) :: ([.methodLink RX3 67 yX3_goToEnd, .instanceMethod yX3_goToEnd, .selects RX3 yX3_goToEnd yX3_goToEnd, .initialized RX3, .code yX3_goToEnd cX3_goToEnd 1 none, .fieldLink RX3 7 "ParishNamesModel" "state" "[I", .methodLink RX3 52 yX3_goThrough, .instanceMethod yX3_goThrough, .selects RX3 yX3_goThrough yX3_goThrough, .code yX3_goThrough cX3_goThrough 4 none, .fieldLink RX3 23 "ParishNamesModel" "owner" "[I", .fieldLink RX3 26 "ParishNamesModel" "namedBy" "[I", .methodLink RX3 70 yX3_sitesOf, .instanceMethod yX3_sitesOf, .selects RX3 yX3_sitesOf yX3_sitesOf, .code yX3_sitesOf cX3_sitesOf 4 (some .int)] ++ wsX30)
def wsX3_split_r1 : List Cond := [Cond.fieldLink RX3 48 "ParishNamesModel" "said" "I", Cond.fieldLink RX3 7 "ParishNamesModel" "state" "[I", Cond.methodLink RX3 56 yX3_isParish, Cond.instanceMethod yX3_isParish, Cond.selects RX3 yX3_isParish yX3_isParish, Cond.initialized RX3, Cond.code yX3_isParish cX3_isParish 2 (some .boolean), Cond.methodLink RX3 44 yX3_in, Cond.static yX3_in, Cond.code yX3_in cX3_in 3 (some .boolean), Cond.methodLink RX3 60 yX3_isYear, Cond.static yX3_isYear, Cond.code yX3_isYear cX3_isYear 1 (some .boolean), Cond.methodLink RX3 63 yX3_lastYear, Cond.instanceMethod yX3_lastYear, Cond.selects RX3 yX3_lastYear yX3_lastYear, Cond.code yX3_lastYear cX3_lastYear 1 (some .int), Cond.methodLink RX3 81 yX3_isSome, Cond.instanceMethod yX3_isSome, Cond.selects RX3 yX3_isSome yX3_isSome, Cond.code yX3_isSome cX3_isSome 4 (some .boolean), Cond.methodLink RX3 67 yX3_goToEnd, Cond.instanceMethod yX3_goToEnd, Cond.selects RX3 yX3_goToEnd yX3_goToEnd]
def wsX3_split_r2 : List Cond := [Cond.code yX3_goToEnd cX3_goToEnd 1 none, Cond.methodLink RX3 52 yX3_goThrough, Cond.instanceMethod yX3_goThrough, Cond.selects RX3 yX3_goThrough yX3_goThrough, Cond.code yX3_goThrough cX3_goThrough 4 none, Cond.fieldLink RX3 23 "ParishNamesModel" "owner" "[I", Cond.fieldLink RX3 26 "ParishNamesModel" "namedBy" "[I", Cond.methodLink RX3 70 yX3_sitesOf, Cond.instanceMethod yX3_sitesOf, Cond.selects RX3 yX3_sitesOf yX3_sitesOf, Cond.code yX3_sitesOf cX3_sitesOf 4 (some .int), Cond.methodLink RX3 74 yX3_add, Cond.instanceMethod yX3_add, Cond.selects RX3 yX3_add yX3_add, Cond.code yX3_add cX3_add 7 none, Cond.methodLink RX3 78 yX3_takeName, Cond.instanceMethod yX3_takeName, Cond.selects RX3 yX3_takeName yX3_takeName, Cond.code yX3_takeName cX3_takeName 3 none, Cond.fieldLink RX3 20 "ParishNamesModel" "pad" "[I"]
def wsX3_split : List Cond := .code yX3_split cX3_split 6 (some .int) :: ((wsX3_split_r1 ++ wsX3_split_r2) ++ wsX30)
def wsX3_merge_r1 : List Cond := [Cond.fieldLink RX3 7 "ParishNamesModel" "state" "[I", Cond.methodLink RX3 56 yX3_isParish, Cond.instanceMethod yX3_isParish, Cond.selects RX3 yX3_isParish yX3_isParish, Cond.initialized RX3, Cond.code yX3_isParish cX3_isParish 2 (some .boolean), Cond.methodLink RX3 44 yX3_in, Cond.static yX3_in, Cond.code yX3_in cX3_in 3 (some .boolean), Cond.methodLink RX3 60 yX3_isYear, Cond.static yX3_isYear, Cond.code yX3_isYear cX3_isYear 1 (some .boolean), Cond.methodLink RX3 63 yX3_lastYear, Cond.instanceMethod yX3_lastYear, Cond.selects RX3 yX3_lastYear yX3_lastYear, Cond.code yX3_lastYear cX3_lastYear 1 (some .int), Cond.methodLink RX3 67 yX3_goToEnd, Cond.instanceMethod yX3_goToEnd, Cond.selects RX3 yX3_goToEnd yX3_goToEnd, Cond.code yX3_goToEnd cX3_goToEnd 1 none, Cond.methodLink RX3 52 yX3_goThrough, Cond.instanceMethod yX3_goThrough, Cond.selects RX3 yX3_goThrough yX3_goThrough, Cond.code yX3_goThrough cX3_goThrough 4 none]
def wsX3_merge_r2 : List Cond := [Cond.fieldLink RX3 23 "ParishNamesModel" "owner" "[I", Cond.fieldLink RX3 26 "ParishNamesModel" "namedBy" "[I", Cond.methodLink RX3 70 yX3_sitesOf, Cond.instanceMethod yX3_sitesOf, Cond.selects RX3 yX3_sitesOf yX3_sitesOf, Cond.code yX3_sitesOf cX3_sitesOf 4 (some .int), Cond.methodLink RX3 74 yX3_add, Cond.instanceMethod yX3_add, Cond.selects RX3 yX3_add yX3_add, Cond.code yX3_add cX3_add 7 none]
def wsX3_merge : List Cond := .code yX3_merge cX3_merge 5 (some .int) :: ((wsX3_merge_r1 ++ wsX3_merge_r2) ++ wsX30)
def wsX3_shift_r1 : List Cond := [Cond.fieldLink RX3 7 "ParishNamesModel" "state" "[I", Cond.methodLink RX3 56 yX3_isParish, Cond.instanceMethod yX3_isParish, Cond.selects RX3 yX3_isParish yX3_isParish, Cond.initialized RX3, Cond.code yX3_isParish cX3_isParish 2 (some .boolean), Cond.methodLink RX3 44 yX3_in, Cond.static yX3_in, Cond.code yX3_in cX3_in 3 (some .boolean), Cond.methodLink RX3 60 yX3_isYear, Cond.static yX3_isYear, Cond.code yX3_isYear cX3_isYear 1 (some .boolean), Cond.methodLink RX3 63 yX3_lastYear, Cond.instanceMethod yX3_lastYear, Cond.selects RX3 yX3_lastYear yX3_lastYear, Cond.code yX3_lastYear cX3_lastYear 1 (some .int), Cond.methodLink RX3 81 yX3_isSome, Cond.instanceMethod yX3_isSome, Cond.selects RX3 yX3_isSome yX3_isSome, Cond.code yX3_isSome cX3_isSome 4 (some .boolean), Cond.methodLink RX3 67 yX3_goToEnd, Cond.instanceMethod yX3_goToEnd, Cond.selects RX3 yX3_goToEnd yX3_goToEnd, Cond.code yX3_goToEnd cX3_goToEnd 1 none]
def wsX3_shift_r2 : List Cond := [Cond.methodLink RX3 52 yX3_goThrough, Cond.instanceMethod yX3_goThrough, Cond.selects RX3 yX3_goThrough yX3_goThrough, Cond.code yX3_goThrough cX3_goThrough 4 none, Cond.fieldLink RX3 23 "ParishNamesModel" "owner" "[I", Cond.fieldLink RX3 26 "ParishNamesModel" "namedBy" "[I", Cond.methodLink RX3 70 yX3_sitesOf, Cond.instanceMethod yX3_sitesOf, Cond.selects RX3 yX3_sitesOf yX3_sitesOf, Cond.code yX3_sitesOf cX3_sitesOf 4 (some .int), Cond.methodLink RX3 74 yX3_add, Cond.instanceMethod yX3_add, Cond.selects RX3 yX3_add yX3_add, Cond.code yX3_add cX3_add 7 none]
def wsX3_shift : List Cond := .code yX3_shift cX3_shift 5 (some .int) :: ((wsX3_shift_r1 ++ wsX3_shift_r2) ++ wsX30)
def wsX3_undo : List Cond := .code yX3_undo cX3_undo 1 (some .int) :: ([.fieldLink RX3 7 "ParishNamesModel" "state" "[I"] ++ wsX30)
def wsX3_event : List Cond := .code yX3_event cX3_event 3 (some .int) :: ([.fieldLink RX3 7 "ParishNamesModel" "state" "[I", .methodLink RX3 44 yX3_in, .static yX3_in, .initialized RX3, .code yX3_in cX3_in 3 (some .boolean)] ++ wsX30)
def wsX3_at : List Cond := .code yX3_at cX3_at 3 (some .int) :: ([.fieldLink RX3 23 "ParishNamesModel" "owner" "[I", .methodLink RX3 85 yX3_isSite, .static yX3_isSite, .initialized RX3, .code yX3_isSite cX3_isSite 1 (some .boolean), .methodLink RX3 44 yX3_in, .static yX3_in, .code yX3_in cX3_in 3 (some .boolean), .methodLink RX3 60 yX3_isYear, .static yX3_isYear, .code yX3_isYear cX3_isYear 1 (some .boolean), .methodLink RX3 88 yX3_goTo, .instanceMethod yX3_goTo, .selects RX3 yX3_goTo yX3_goTo, .code yX3_goTo cX3_goTo 3 none, .fieldLink RX3 7 "ParishNamesModel" "state" "[I", .methodLink RX3 52 yX3_goThrough, .instanceMethod yX3_goThrough, .selects RX3 yX3_goThrough yX3_goThrough, .code yX3_goThrough cX3_goThrough 4 none, .fieldLink RX3 26 "ParishNamesModel" "namedBy" "[I"] ++ wsX30)
def wsX3_sites_r1 : List Cond := [Cond.methodLink RX3 56 yX3_isParish, Cond.instanceMethod yX3_isParish, Cond.selects RX3 yX3_isParish yX3_isParish, Cond.initialized RX3, Cond.code yX3_isParish cX3_isParish 2 (some .boolean), Cond.fieldLink RX3 7 "ParishNamesModel" "state" "[I", Cond.methodLink RX3 44 yX3_in, Cond.static yX3_in, Cond.code yX3_in cX3_in 3 (some .boolean), Cond.methodLink RX3 60 yX3_isYear, Cond.static yX3_isYear, Cond.code yX3_isYear cX3_isYear 1 (some .boolean), Cond.methodLink RX3 88 yX3_goTo, Cond.instanceMethod yX3_goTo, Cond.selects RX3 yX3_goTo yX3_goTo, Cond.code yX3_goTo cX3_goTo 3 none, Cond.methodLink RX3 52 yX3_goThrough, Cond.instanceMethod yX3_goThrough, Cond.selects RX3 yX3_goThrough yX3_goThrough, Cond.code yX3_goThrough cX3_goThrough 4 none, Cond.fieldLink RX3 23 "ParishNamesModel" "owner" "[I", Cond.fieldLink RX3 26 "ParishNamesModel" "namedBy" "[I", Cond.methodLink RX3 70 yX3_sitesOf, Cond.instanceMethod yX3_sitesOf]
def wsX3_sites_r2 : List Cond := [Cond.selects RX3 yX3_sitesOf yX3_sitesOf, Cond.code yX3_sitesOf cX3_sitesOf 4 (some .int)]
def wsX3_sites : List Cond := .code yX3_sites cX3_sites 3 (some .int) :: ((wsX3_sites_r1 ++ wsX3_sites_r2) ++ wsX30)
def wsX3_letter_r1 : List Cond := [Cond.methodLink RX3 56 yX3_isParish, Cond.instanceMethod yX3_isParish, Cond.selects RX3 yX3_isParish yX3_isParish, Cond.initialized RX3, Cond.code yX3_isParish cX3_isParish 2 (some .boolean), Cond.fieldLink RX3 7 "ParishNamesModel" "state" "[I", Cond.methodLink RX3 44 yX3_in, Cond.static yX3_in, Cond.code yX3_in cX3_in 3 (some .boolean), Cond.methodLink RX3 60 yX3_isYear, Cond.static yX3_isYear, Cond.code yX3_isYear cX3_isYear 1 (some .boolean), Cond.methodLink RX3 88 yX3_goTo, Cond.instanceMethod yX3_goTo, Cond.selects RX3 yX3_goTo yX3_goTo, Cond.code yX3_goTo cX3_goTo 3 none, Cond.methodLink RX3 52 yX3_goThrough, Cond.instanceMethod yX3_goThrough, Cond.selects RX3 yX3_goThrough yX3_goThrough, Cond.code yX3_goThrough cX3_goThrough 4 none, Cond.fieldLink RX3 23 "ParishNamesModel" "owner" "[I", Cond.fieldLink RX3 26 "ParishNamesModel" "namedBy" "[I", Cond.methodLink RX3 70 yX3_sitesOf, Cond.instanceMethod yX3_sitesOf]
def wsX3_letter_r2 : List Cond := [Cond.selects RX3 yX3_sitesOf yX3_sitesOf, Cond.code yX3_sitesOf cX3_sitesOf 4 (some .int), Cond.methodLink RX3 91 yX3_lettersOf, Cond.instanceMethod yX3_lettersOf, Cond.selects RX3 yX3_lettersOf yX3_lettersOf, Cond.code yX3_lettersOf cX3_lettersOf 2 (some .int), Cond.methodLink RX3 94 yX3_letterOf, Cond.instanceMethod yX3_letterOf, Cond.selects RX3 yX3_letterOf yX3_letterOf, Cond.code yX3_letterOf cX3_letterOf 3 (some .int)]
def wsX3_letter : List Cond := .code yX3_letter cX3_letter 4 (some .int) :: ((wsX3_letter_r1 ++ wsX3_letter_r2) ++ wsX30)
def wsX3_classOf : List Cond := .code yX3_classOf cX3_classOf 1 (some .int) :: ([])
def wsX3_laySound : List Cond := .code yX3_laySound cX3_laySound 6 (some .int) :: ([.methodLink RX3 98 yX3_classOf, .static yX3_classOf, .initialized RX3, .code yX3_classOf cX3_classOf 1 (some .int)])
def wsX3_layFirst : List Cond := .code yX3_layFirst cX3_layFirst 3 none :: ([.fieldLink RX3 101 "ParishNamesModel" "firstLong" "I", .fieldLink RX3 29 "ParishNamesModel" "first" "[I", .fieldLink RX3 35 "ParishNamesModel" "firstSound" "[I", .fieldLink RX3 108 "ParishNamesModel" "firstClasses" "I", .methodLink RX3 91 yX3_lettersOf, .instanceMethod yX3_lettersOf, .selects RX3 yX3_lettersOf yX3_lettersOf, .initialized RX3, .code yX3_lettersOf cX3_lettersOf 2 (some .int), .fieldLink RX3 26 "ParishNamesModel" "namedBy" "[I", .fieldLink RX3 7 "ParishNamesModel" "state" "[I", .methodLink RX3 94 yX3_letterOf, .instanceMethod yX3_letterOf, .selects RX3 yX3_letterOf yX3_letterOf, .code yX3_letterOf cX3_letterOf 3 (some .int), .methodLink RX3 104 yX3_laySound, .static yX3_laySound, .code yX3_laySound cX3_laySound 6 (some .int), .methodLink RX3 98 yX3_classOf, .static yX3_classOf, .code yX3_classOf cX3_classOf 1 (some .int)] ++ wsX30)
def wsX3_layPad : List Cond := .code yX3_layPad cX3_layPad 2 none :: ([.fieldLink RX3 48 "ParishNamesModel" "said" "I", .fieldLink RX3 111 "ParishNamesModel" "secondLong" "I", .fieldLink RX3 32 "ParishNamesModel" "second" "[I", .fieldLink RX3 20 "ParishNamesModel" "pad" "[I", .fieldLink RX3 38 "ParishNamesModel" "secondSound" "[I", .fieldLink RX3 114 "ParishNamesModel" "secondClasses" "I", .methodLink RX3 104 yX3_laySound, .static yX3_laySound, .initialized RX3, .code yX3_laySound cX3_laySound 6 (some .int), .methodLink RX3 98 yX3_classOf, .static yX3_classOf, .code yX3_classOf cX3_classOf 1 (some .int)] ++ wsX30)
def wsX3_areSame : List Cond := .code yX3_areSame cX3_areSame 3 (some .boolean) :: ([.fieldLink RX3 101 "ParishNamesModel" "firstLong" "I", .fieldLink RX3 111 "ParishNamesModel" "secondLong" "I", .fieldLink RX3 29 "ParishNamesModel" "first" "[I", .fieldLink RX3 32 "ParishNamesModel" "second" "[I"] ++ wsX30)
def wsX3_soundSame : List Cond := .code yX3_soundSame cX3_soundSame 3 (some .boolean) :: ([.fieldLink RX3 108 "ParishNamesModel" "firstClasses" "I", .fieldLink RX3 114 "ParishNamesModel" "secondClasses" "I", .fieldLink RX3 35 "ParishNamesModel" "firstSound" "[I", .fieldLink RX3 38 "ParishNamesModel" "secondSound" "[I"] ++ wsX30)
def wsX3_least : List Cond := .code yX3_least cX3_least 4 (some .int) :: ([])
def wsX3_offNow : List Cond := .code yX3_offNow cX3_offNow 5 (some .int) :: ([.fieldLink RX3 101 "ParishNamesModel" "firstLong" "I", .fieldLink RX3 111 "ParishNamesModel" "secondLong" "I", .fieldLink RX3 41 "ParishNamesModel" "costs" "[I", .fieldLink RX3 29 "ParishNamesModel" "first" "[I", .fieldLink RX3 32 "ParishNamesModel" "second" "[I", .methodLink RX3 117 yX3_least, .static yX3_least, .initialized RX3, .code yX3_least cX3_least 4 (some .int)] ++ wsX30)
def wsX3_isLike_r1 : List Cond := [Cond.methodLink RX3 121 yX3_layFirst, Cond.instanceMethod yX3_layFirst, Cond.selects RX3 yX3_layFirst yX3_layFirst, Cond.initialized RX3, Cond.code yX3_layFirst cX3_layFirst 3 none, Cond.fieldLink RX3 101 "ParishNamesModel" "firstLong" "I", Cond.fieldLink RX3 29 "ParishNamesModel" "first" "[I", Cond.fieldLink RX3 35 "ParishNamesModel" "firstSound" "[I", Cond.fieldLink RX3 108 "ParishNamesModel" "firstClasses" "I", Cond.methodLink RX3 91 yX3_lettersOf, Cond.instanceMethod yX3_lettersOf, Cond.selects RX3 yX3_lettersOf yX3_lettersOf, Cond.code yX3_lettersOf cX3_lettersOf 2 (some .int), Cond.fieldLink RX3 26 "ParishNamesModel" "namedBy" "[I", Cond.fieldLink RX3 7 "ParishNamesModel" "state" "[I", Cond.methodLink RX3 94 yX3_letterOf, Cond.instanceMethod yX3_letterOf, Cond.selects RX3 yX3_letterOf yX3_letterOf, Cond.code yX3_letterOf cX3_letterOf 3 (some .int), Cond.methodLink RX3 104 yX3_laySound, Cond.static yX3_laySound, Cond.code yX3_laySound cX3_laySound 6 (some .int), Cond.methodLink RX3 98 yX3_classOf, Cond.static yX3_classOf]
def wsX3_isLike_r2 : List Cond := [Cond.code yX3_classOf cX3_classOf 1 (some .int), Cond.methodLink RX3 124 yX3_areSame, Cond.instanceMethod yX3_areSame, Cond.selects RX3 yX3_areSame yX3_areSame, Cond.code yX3_areSame cX3_areSame 3 (some .boolean), Cond.fieldLink RX3 111 "ParishNamesModel" "secondLong" "I", Cond.fieldLink RX3 32 "ParishNamesModel" "second" "[I", Cond.methodLink RX3 128 yX3_soundSame, Cond.instanceMethod yX3_soundSame, Cond.selects RX3 yX3_soundSame yX3_soundSame, Cond.code yX3_soundSame cX3_soundSame 3 (some .boolean), Cond.fieldLink RX3 114 "ParishNamesModel" "secondClasses" "I", Cond.fieldLink RX3 38 "ParishNamesModel" "secondSound" "[I", Cond.methodLink RX3 131 yX3_offNow, Cond.instanceMethod yX3_offNow, Cond.selects RX3 yX3_offNow yX3_offNow, Cond.code yX3_offNow cX3_offNow 5 (some .int), Cond.fieldLink RX3 41 "ParishNamesModel" "costs" "[I", Cond.methodLink RX3 117 yX3_least, Cond.static yX3_least, Cond.code yX3_least cX3_least 4 (some .int)]
def wsX3_isLike : List Cond := .code yX3_isLike cX3_isLike 3 (some .boolean) :: ((wsX3_isLike_r1 ++ wsX3_isLike_r2) ++ wsX30)
def wsX3_sound_r1 : List Cond := [Cond.fieldLink RX3 108 "ParishNamesModel" "firstClasses" "I", Cond.fieldLink RX3 35 "ParishNamesModel" "firstSound" "[I", Cond.methodLink RX3 56 yX3_isParish, Cond.instanceMethod yX3_isParish, Cond.selects RX3 yX3_isParish yX3_isParish, Cond.initialized RX3, Cond.code yX3_isParish cX3_isParish 2 (some .boolean), Cond.fieldLink RX3 7 "ParishNamesModel" "state" "[I", Cond.methodLink RX3 44 yX3_in, Cond.static yX3_in, Cond.code yX3_in cX3_in 3 (some .boolean), Cond.methodLink RX3 60 yX3_isYear, Cond.static yX3_isYear, Cond.code yX3_isYear cX3_isYear 1 (some .boolean), Cond.methodLink RX3 88 yX3_goTo, Cond.instanceMethod yX3_goTo, Cond.selects RX3 yX3_goTo yX3_goTo, Cond.code yX3_goTo cX3_goTo 3 none, Cond.methodLink RX3 52 yX3_goThrough, Cond.instanceMethod yX3_goThrough, Cond.selects RX3 yX3_goThrough yX3_goThrough, Cond.code yX3_goThrough cX3_goThrough 4 none, Cond.fieldLink RX3 23 "ParishNamesModel" "owner" "[I", Cond.fieldLink RX3 26 "ParishNamesModel" "namedBy" "[I"]
def wsX3_sound_r2 : List Cond := [Cond.methodLink RX3 70 yX3_sitesOf, Cond.instanceMethod yX3_sitesOf, Cond.selects RX3 yX3_sitesOf yX3_sitesOf, Cond.code yX3_sitesOf cX3_sitesOf 4 (some .int), Cond.methodLink RX3 121 yX3_layFirst, Cond.instanceMethod yX3_layFirst, Cond.selects RX3 yX3_layFirst yX3_layFirst, Cond.code yX3_layFirst cX3_layFirst 3 none, Cond.fieldLink RX3 101 "ParishNamesModel" "firstLong" "I", Cond.fieldLink RX3 29 "ParishNamesModel" "first" "[I", Cond.methodLink RX3 91 yX3_lettersOf, Cond.instanceMethod yX3_lettersOf, Cond.selects RX3 yX3_lettersOf yX3_lettersOf, Cond.code yX3_lettersOf cX3_lettersOf 2 (some .int), Cond.methodLink RX3 94 yX3_letterOf, Cond.instanceMethod yX3_letterOf, Cond.selects RX3 yX3_letterOf yX3_letterOf, Cond.code yX3_letterOf cX3_letterOf 3 (some .int), Cond.methodLink RX3 104 yX3_laySound, Cond.static yX3_laySound, Cond.code yX3_laySound cX3_laySound 6 (some .int), Cond.methodLink RX3 98 yX3_classOf, Cond.static yX3_classOf, Cond.code yX3_classOf cX3_classOf 1 (some .int)]
def wsX3_sound : List Cond := .code yX3_sound cX3_sound 4 (some .int) :: ((wsX3_sound_r1 ++ wsX3_sound_r2) ++ wsX30)
def wsX3_toldOf : List Cond := .code yX3_toldOf cX3_toldOf 4 (some .int) :: ([.fieldLink RX3 7 "ParishNamesModel" "state" "[I"] ++ wsX30)
def wsX3_parish_r1 : List Cond := [Cond.methodLink RX3 56 yX3_isParish, Cond.instanceMethod yX3_isParish, Cond.selects RX3 yX3_isParish yX3_isParish, Cond.initialized RX3, Cond.code yX3_isParish cX3_isParish 2 (some .boolean), Cond.fieldLink RX3 7 "ParishNamesModel" "state" "[I", Cond.methodLink RX3 44 yX3_in, Cond.static yX3_in, Cond.code yX3_in cX3_in 3 (some .boolean), Cond.methodLink RX3 88 yX3_goTo, Cond.instanceMethod yX3_goTo, Cond.selects RX3 yX3_goTo yX3_goTo, Cond.code yX3_goTo cX3_goTo 3 none, Cond.methodLink RX3 52 yX3_goThrough, Cond.instanceMethod yX3_goThrough, Cond.selects RX3 yX3_goThrough yX3_goThrough, Cond.code yX3_goThrough cX3_goThrough 4 none, Cond.fieldLink RX3 23 "ParishNamesModel" "owner" "[I", Cond.fieldLink RX3 26 "ParishNamesModel" "namedBy" "[I", Cond.methodLink RX3 70 yX3_sitesOf, Cond.instanceMethod yX3_sitesOf, Cond.selects RX3 yX3_sitesOf yX3_sitesOf, Cond.code yX3_sitesOf cX3_sitesOf 4 (some .int), Cond.methodLink RX3 134 yX3_toldOf]
def wsX3_parish_r2 : List Cond := [Cond.instanceMethod yX3_toldOf, Cond.selects RX3 yX3_toldOf yX3_toldOf, Cond.code yX3_toldOf cX3_toldOf 4 (some .int), Cond.methodLink RX3 137 yX3_bits, Cond.static yX3_bits, Cond.code yX3_bits cX3_bits 3 (some .int)]
def wsX3_parish : List Cond := .code yX3_parish cX3_parish 9 (some .int) :: ((wsX3_parish_r1 ++ wsX3_parish_r2) ++ wsX30)
def wsX3_areYears : List Cond := .code yX3_areYears cX3_areYears 2 (some .boolean) :: ([.methodLink RX3 60 yX3_isYear, .static yX3_isYear, .initialized RX3, .code yX3_isYear cX3_isYear 1 (some .boolean), .methodLink RX3 44 yX3_in, .static yX3_in, .code yX3_in cX3_in 3 (some .boolean)])
def wsX3_find_r1 : List Cond := [Cond.fieldLink RX3 48 "ParishNamesModel" "said" "I", Cond.fieldLink RX3 7 "ParishNamesModel" "state" "[I", Cond.methodLink RX3 140 yX3_areYears, Cond.static yX3_areYears, Cond.initialized RX3, Cond.code yX3_areYears cX3_areYears 2 (some .boolean), Cond.methodLink RX3 60 yX3_isYear, Cond.static yX3_isYear, Cond.code yX3_isYear cX3_isYear 1 (some .boolean), Cond.methodLink RX3 44 yX3_in, Cond.static yX3_in, Cond.code yX3_in cX3_in 3 (some .boolean), Cond.methodLink RX3 143 yX3_layPad, Cond.instanceMethod yX3_layPad, Cond.selects RX3 yX3_layPad yX3_layPad, Cond.code yX3_layPad cX3_layPad 2 none, Cond.fieldLink RX3 111 "ParishNamesModel" "secondLong" "I", Cond.fieldLink RX3 32 "ParishNamesModel" "second" "[I", Cond.fieldLink RX3 20 "ParishNamesModel" "pad" "[I", Cond.fieldLink RX3 38 "ParishNamesModel" "secondSound" "[I", Cond.fieldLink RX3 114 "ParishNamesModel" "secondClasses" "I", Cond.methodLink RX3 104 yX3_laySound, Cond.static yX3_laySound, Cond.code yX3_laySound cX3_laySound 6 (some .int)]
def wsX3_find_r2 : List Cond := [Cond.methodLink RX3 98 yX3_classOf, Cond.static yX3_classOf, Cond.code yX3_classOf cX3_classOf 1 (some .int), Cond.methodLink RX3 88 yX3_goTo, Cond.instanceMethod yX3_goTo, Cond.selects RX3 yX3_goTo yX3_goTo, Cond.code yX3_goTo cX3_goTo 3 none, Cond.methodLink RX3 52 yX3_goThrough, Cond.instanceMethod yX3_goThrough, Cond.selects RX3 yX3_goThrough yX3_goThrough, Cond.code yX3_goThrough cX3_goThrough 4 none, Cond.fieldLink RX3 23 "ParishNamesModel" "owner" "[I", Cond.fieldLink RX3 26 "ParishNamesModel" "namedBy" "[I", Cond.methodLink RX3 70 yX3_sitesOf, Cond.instanceMethod yX3_sitesOf, Cond.selects RX3 yX3_sitesOf yX3_sitesOf, Cond.code yX3_sitesOf cX3_sitesOf 4 (some .int), Cond.methodLink RX3 146 yX3_isLike, Cond.instanceMethod yX3_isLike, Cond.selects RX3 yX3_isLike yX3_isLike, Cond.code yX3_isLike cX3_isLike 3 (some .boolean), Cond.methodLink RX3 121 yX3_layFirst, Cond.instanceMethod yX3_layFirst, Cond.selects RX3 yX3_layFirst yX3_layFirst]
def wsX3_find_r3 : List Cond := [Cond.code yX3_layFirst cX3_layFirst 3 none, Cond.fieldLink RX3 101 "ParishNamesModel" "firstLong" "I", Cond.fieldLink RX3 29 "ParishNamesModel" "first" "[I", Cond.fieldLink RX3 35 "ParishNamesModel" "firstSound" "[I", Cond.fieldLink RX3 108 "ParishNamesModel" "firstClasses" "I", Cond.methodLink RX3 91 yX3_lettersOf, Cond.instanceMethod yX3_lettersOf, Cond.selects RX3 yX3_lettersOf yX3_lettersOf, Cond.code yX3_lettersOf cX3_lettersOf 2 (some .int), Cond.methodLink RX3 94 yX3_letterOf, Cond.instanceMethod yX3_letterOf, Cond.selects RX3 yX3_letterOf yX3_letterOf, Cond.code yX3_letterOf cX3_letterOf 3 (some .int), Cond.methodLink RX3 124 yX3_areSame, Cond.instanceMethod yX3_areSame, Cond.selects RX3 yX3_areSame yX3_areSame, Cond.code yX3_areSame cX3_areSame 3 (some .boolean), Cond.methodLink RX3 128 yX3_soundSame, Cond.instanceMethod yX3_soundSame, Cond.selects RX3 yX3_soundSame yX3_soundSame, Cond.code yX3_soundSame cX3_soundSame 3 (some .boolean), Cond.methodLink RX3 131 yX3_offNow, Cond.instanceMethod yX3_offNow, Cond.selects RX3 yX3_offNow yX3_offNow]
def wsX3_find_r4 : List Cond := [Cond.code yX3_offNow cX3_offNow 5 (some .int), Cond.fieldLink RX3 41 "ParishNamesModel" "costs" "[I", Cond.methodLink RX3 117 yX3_least, Cond.static yX3_least, Cond.code yX3_least cX3_least 4 (some .int)]
def wsX3_find : List Cond := .code yX3_find cX3_find 8 (some .int) :: ((wsX3_find_r1 ++ (wsX3_find_r2 ++ (wsX3_find_r3 ++ wsX3_find_r4))) ++ wsX30)
def wsX3_called_r1 : List Cond := [Cond.fieldLink RX3 48 "ParishNamesModel" "said" "I", Cond.fieldLink RX3 23 "ParishNamesModel" "owner" "[I", Cond.methodLink RX3 85 yX3_isSite, Cond.static yX3_isSite, Cond.initialized RX3, Cond.code yX3_isSite cX3_isSite 1 (some .boolean), Cond.methodLink RX3 44 yX3_in, Cond.static yX3_in, Cond.code yX3_in cX3_in 3 (some .boolean), Cond.methodLink RX3 140 yX3_areYears, Cond.static yX3_areYears, Cond.code yX3_areYears cX3_areYears 2 (some .boolean), Cond.methodLink RX3 60 yX3_isYear, Cond.static yX3_isYear, Cond.code yX3_isYear cX3_isYear 1 (some .boolean), Cond.methodLink RX3 143 yX3_layPad, Cond.instanceMethod yX3_layPad, Cond.selects RX3 yX3_layPad yX3_layPad, Cond.code yX3_layPad cX3_layPad 2 none, Cond.fieldLink RX3 111 "ParishNamesModel" "secondLong" "I", Cond.fieldLink RX3 32 "ParishNamesModel" "second" "[I", Cond.fieldLink RX3 20 "ParishNamesModel" "pad" "[I", Cond.fieldLink RX3 38 "ParishNamesModel" "secondSound" "[I", Cond.fieldLink RX3 114 "ParishNamesModel" "secondClasses" "I"]
def wsX3_called_r2 : List Cond := [Cond.methodLink RX3 104 yX3_laySound, Cond.static yX3_laySound, Cond.code yX3_laySound cX3_laySound 6 (some .int), Cond.methodLink RX3 98 yX3_classOf, Cond.static yX3_classOf, Cond.code yX3_classOf cX3_classOf 1 (some .int), Cond.methodLink RX3 88 yX3_goTo, Cond.instanceMethod yX3_goTo, Cond.selects RX3 yX3_goTo yX3_goTo, Cond.code yX3_goTo cX3_goTo 3 none, Cond.fieldLink RX3 7 "ParishNamesModel" "state" "[I", Cond.methodLink RX3 52 yX3_goThrough, Cond.instanceMethod yX3_goThrough, Cond.selects RX3 yX3_goThrough yX3_goThrough, Cond.code yX3_goThrough cX3_goThrough 4 none, Cond.fieldLink RX3 26 "ParishNamesModel" "namedBy" "[I", Cond.methodLink RX3 146 yX3_isLike, Cond.instanceMethod yX3_isLike, Cond.selects RX3 yX3_isLike yX3_isLike, Cond.code yX3_isLike cX3_isLike 3 (some .boolean), Cond.methodLink RX3 121 yX3_layFirst, Cond.instanceMethod yX3_layFirst, Cond.selects RX3 yX3_layFirst yX3_layFirst, Cond.code yX3_layFirst cX3_layFirst 3 none]
def wsX3_called_r3 : List Cond := [Cond.fieldLink RX3 101 "ParishNamesModel" "firstLong" "I", Cond.fieldLink RX3 29 "ParishNamesModel" "first" "[I", Cond.fieldLink RX3 35 "ParishNamesModel" "firstSound" "[I", Cond.fieldLink RX3 108 "ParishNamesModel" "firstClasses" "I", Cond.methodLink RX3 91 yX3_lettersOf, Cond.instanceMethod yX3_lettersOf, Cond.selects RX3 yX3_lettersOf yX3_lettersOf, Cond.code yX3_lettersOf cX3_lettersOf 2 (some .int), Cond.methodLink RX3 94 yX3_letterOf, Cond.instanceMethod yX3_letterOf, Cond.selects RX3 yX3_letterOf yX3_letterOf, Cond.code yX3_letterOf cX3_letterOf 3 (some .int), Cond.methodLink RX3 124 yX3_areSame, Cond.instanceMethod yX3_areSame, Cond.selects RX3 yX3_areSame yX3_areSame, Cond.code yX3_areSame cX3_areSame 3 (some .boolean), Cond.methodLink RX3 128 yX3_soundSame, Cond.instanceMethod yX3_soundSame, Cond.selects RX3 yX3_soundSame yX3_soundSame, Cond.code yX3_soundSame cX3_soundSame 3 (some .boolean), Cond.methodLink RX3 131 yX3_offNow, Cond.instanceMethod yX3_offNow, Cond.selects RX3 yX3_offNow yX3_offNow, Cond.code yX3_offNow cX3_offNow 5 (some .int)]
def wsX3_called_r4 : List Cond := [Cond.fieldLink RX3 41 "ParishNamesModel" "costs" "[I", Cond.methodLink RX3 117 yX3_least, Cond.static yX3_least, Cond.code yX3_least cX3_least 4 (some .int)]
def wsX3_called : List Cond := .code yX3_called cX3_called 10 (some .int) :: ((wsX3_called_r1 ++ (wsX3_called_r2 ++ (wsX3_called_r3 ++ wsX3_called_r4))) ++ wsX30)
def wsX3_off_r1 : List Cond := [Cond.fieldLink RX3 48 "ParishNamesModel" "said" "I", Cond.methodLink RX3 56 yX3_isParish, Cond.instanceMethod yX3_isParish, Cond.selects RX3 yX3_isParish yX3_isParish, Cond.initialized RX3, Cond.code yX3_isParish cX3_isParish 2 (some .boolean), Cond.fieldLink RX3 7 "ParishNamesModel" "state" "[I", Cond.methodLink RX3 44 yX3_in, Cond.static yX3_in, Cond.code yX3_in cX3_in 3 (some .boolean), Cond.methodLink RX3 60 yX3_isYear, Cond.static yX3_isYear, Cond.code yX3_isYear cX3_isYear 1 (some .boolean), Cond.methodLink RX3 88 yX3_goTo, Cond.instanceMethod yX3_goTo, Cond.selects RX3 yX3_goTo yX3_goTo, Cond.code yX3_goTo cX3_goTo 3 none, Cond.methodLink RX3 52 yX3_goThrough, Cond.instanceMethod yX3_goThrough, Cond.selects RX3 yX3_goThrough yX3_goThrough, Cond.code yX3_goThrough cX3_goThrough 4 none, Cond.fieldLink RX3 23 "ParishNamesModel" "owner" "[I", Cond.fieldLink RX3 26 "ParishNamesModel" "namedBy" "[I", Cond.methodLink RX3 70 yX3_sitesOf]
def wsX3_off_r2 : List Cond := [Cond.instanceMethod yX3_sitesOf, Cond.selects RX3 yX3_sitesOf yX3_sitesOf, Cond.code yX3_sitesOf cX3_sitesOf 4 (some .int), Cond.methodLink RX3 143 yX3_layPad, Cond.instanceMethod yX3_layPad, Cond.selects RX3 yX3_layPad yX3_layPad, Cond.code yX3_layPad cX3_layPad 2 none, Cond.fieldLink RX3 111 "ParishNamesModel" "secondLong" "I", Cond.fieldLink RX3 32 "ParishNamesModel" "second" "[I", Cond.fieldLink RX3 20 "ParishNamesModel" "pad" "[I", Cond.fieldLink RX3 38 "ParishNamesModel" "secondSound" "[I", Cond.fieldLink RX3 114 "ParishNamesModel" "secondClasses" "I", Cond.methodLink RX3 104 yX3_laySound, Cond.static yX3_laySound, Cond.code yX3_laySound cX3_laySound 6 (some .int), Cond.methodLink RX3 98 yX3_classOf, Cond.static yX3_classOf, Cond.code yX3_classOf cX3_classOf 1 (some .int), Cond.methodLink RX3 121 yX3_layFirst, Cond.instanceMethod yX3_layFirst, Cond.selects RX3 yX3_layFirst yX3_layFirst, Cond.code yX3_layFirst cX3_layFirst 3 none, Cond.fieldLink RX3 101 "ParishNamesModel" "firstLong" "I", Cond.fieldLink RX3 29 "ParishNamesModel" "first" "[I"]
def wsX3_off_r3 : List Cond := [Cond.fieldLink RX3 35 "ParishNamesModel" "firstSound" "[I", Cond.fieldLink RX3 108 "ParishNamesModel" "firstClasses" "I", Cond.methodLink RX3 91 yX3_lettersOf, Cond.instanceMethod yX3_lettersOf, Cond.selects RX3 yX3_lettersOf yX3_lettersOf, Cond.code yX3_lettersOf cX3_lettersOf 2 (some .int), Cond.methodLink RX3 94 yX3_letterOf, Cond.instanceMethod yX3_letterOf, Cond.selects RX3 yX3_letterOf yX3_letterOf, Cond.code yX3_letterOf cX3_letterOf 3 (some .int), Cond.methodLink RX3 131 yX3_offNow, Cond.instanceMethod yX3_offNow, Cond.selects RX3 yX3_offNow yX3_offNow, Cond.code yX3_offNow cX3_offNow 5 (some .int), Cond.fieldLink RX3 41 "ParishNamesModel" "costs" "[I", Cond.methodLink RX3 117 yX3_least, Cond.static yX3_least, Cond.code yX3_least cX3_least 4 (some .int)]
def wsX3_off : List Cond := .code yX3_off cX3_off 3 (some .int) :: ((wsX3_off_r1 ++ (wsX3_off_r2 ++ wsX3_off_r3)) ++ wsX30)
def wsX3_keepFirst : List Cond := .code yX3_keepFirst cX3_keepFirst 2 none :: ([.fieldLink RX3 101 "ParishNamesModel" "firstLong" "I", .fieldLink RX3 111 "ParishNamesModel" "secondLong" "I", .fieldLink RX3 32 "ParishNamesModel" "second" "[I", .fieldLink RX3 29 "ParishNamesModel" "first" "[I"] ++ wsX30)
def wsX3_span_r1 : List Cond := [Cond.fieldLink RX3 23 "ParishNamesModel" "owner" "[I", Cond.methodLink RX3 85 yX3_isSite, Cond.static yX3_isSite, Cond.initialized RX3, Cond.code yX3_isSite cX3_isSite 1 (some .boolean), Cond.methodLink RX3 44 yX3_in, Cond.static yX3_in, Cond.code yX3_in cX3_in 3 (some .boolean), Cond.methodLink RX3 88 yX3_goTo, Cond.instanceMethod yX3_goTo, Cond.selects RX3 yX3_goTo yX3_goTo, Cond.code yX3_goTo cX3_goTo 3 none, Cond.fieldLink RX3 7 "ParishNamesModel" "state" "[I", Cond.methodLink RX3 52 yX3_goThrough, Cond.instanceMethod yX3_goThrough, Cond.selects RX3 yX3_goThrough yX3_goThrough, Cond.code yX3_goThrough cX3_goThrough 4 none, Cond.fieldLink RX3 26 "ParishNamesModel" "namedBy" "[I", Cond.methodLink RX3 121 yX3_layFirst, Cond.instanceMethod yX3_layFirst, Cond.selects RX3 yX3_layFirst yX3_layFirst, Cond.code yX3_layFirst cX3_layFirst 3 none, Cond.fieldLink RX3 101 "ParishNamesModel" "firstLong" "I", Cond.fieldLink RX3 29 "ParishNamesModel" "first" "[I"]
def wsX3_span_r2 : List Cond := [Cond.fieldLink RX3 35 "ParishNamesModel" "firstSound" "[I", Cond.fieldLink RX3 108 "ParishNamesModel" "firstClasses" "I", Cond.methodLink RX3 91 yX3_lettersOf, Cond.instanceMethod yX3_lettersOf, Cond.selects RX3 yX3_lettersOf yX3_lettersOf, Cond.code yX3_lettersOf cX3_lettersOf 2 (some .int), Cond.methodLink RX3 94 yX3_letterOf, Cond.instanceMethod yX3_letterOf, Cond.selects RX3 yX3_letterOf yX3_letterOf, Cond.code yX3_letterOf cX3_letterOf 3 (some .int), Cond.methodLink RX3 104 yX3_laySound, Cond.static yX3_laySound, Cond.code yX3_laySound cX3_laySound 6 (some .int), Cond.methodLink RX3 98 yX3_classOf, Cond.static yX3_classOf, Cond.code yX3_classOf cX3_classOf 1 (some .int), Cond.methodLink RX3 124 yX3_areSame, Cond.instanceMethod yX3_areSame, Cond.selects RX3 yX3_areSame yX3_areSame, Cond.code yX3_areSame cX3_areSame 3 (some .boolean), Cond.fieldLink RX3 111 "ParishNamesModel" "secondLong" "I", Cond.fieldLink RX3 32 "ParishNamesModel" "second" "[I", Cond.methodLink RX3 149 yX3_keepFirst, Cond.instanceMethod yX3_keepFirst]
def wsX3_span_r3 : List Cond := [Cond.selects RX3 yX3_keepFirst yX3_keepFirst, Cond.code yX3_keepFirst cX3_keepFirst 2 none]
def wsX3_span : List Cond := .code yX3_span cX3_span 8 (some .int) :: ((wsX3_span_r1 ++ (wsX3_span_r2 ++ wsX3_span_r3)) ++ wsX30)
def wsX3_heirs_r1 : List Cond := [Cond.fieldLink RX3 23 "ParishNamesModel" "owner" "[I", Cond.methodLink RX3 56 yX3_isParish, Cond.instanceMethod yX3_isParish, Cond.selects RX3 yX3_isParish yX3_isParish, Cond.initialized RX3, Cond.code yX3_isParish cX3_isParish 2 (some .boolean), Cond.fieldLink RX3 7 "ParishNamesModel" "state" "[I", Cond.methodLink RX3 44 yX3_in, Cond.static yX3_in, Cond.code yX3_in cX3_in 3 (some .boolean), Cond.methodLink RX3 60 yX3_isYear, Cond.static yX3_isYear, Cond.code yX3_isYear cX3_isYear 1 (some .boolean), Cond.methodLink RX3 88 yX3_goTo, Cond.instanceMethod yX3_goTo, Cond.selects RX3 yX3_goTo yX3_goTo, Cond.code yX3_goTo cX3_goTo 3 none, Cond.methodLink RX3 52 yX3_goThrough, Cond.instanceMethod yX3_goThrough, Cond.selects RX3 yX3_goThrough yX3_goThrough, Cond.code yX3_goThrough cX3_goThrough 4 none, Cond.fieldLink RX3 26 "ParishNamesModel" "namedBy" "[I", Cond.methodLink RX3 70 yX3_sitesOf, Cond.instanceMethod yX3_sitesOf]
def wsX3_heirs_r2 : List Cond := [Cond.selects RX3 yX3_sitesOf yX3_sitesOf, Cond.code yX3_sitesOf cX3_sitesOf 4 (some .int)]
def wsX3_heirs : List Cond := .code yX3_heirs cX3_heirs 7 (some .int) :: ((wsX3_heirs_r1 ++ wsX3_heirs_r2) ++ wsX30)
def wsX3_image : List Cond := .code yX3_image cX3_image 3 (some .int) :: ([.fieldLink RX3 13 "ParishNamesModel" "images" "[I", .fieldLink RX3 7 "ParishNamesModel" "state" "[I", .fieldLink RX3 16 "ParishNamesModel" "isKept" "[Z", .methodLink RX3 44 yX3_in, .static yX3_in, .initialized RX3, .code yX3_in cX3_in 3 (some .boolean)] ++ wsX30)
def wsX3_restore : List Cond := .code yX3_restore cX3_restore 3 (some .int) :: ([.fieldLink RX3 16 "ParishNamesModel" "isKept" "[Z", .fieldLink RX3 7 "ParishNamesModel" "state" "[I", .fieldLink RX3 13 "ParishNamesModel" "images" "[I", .methodLink RX3 44 yX3_in, .static yX3_in, .initialized RX3, .code yX3_in cX3_in 3 (some .boolean)] ++ wsX30)
def wsX3_thereNow : List Cond := .code yX3_thereNow cX3_thereNow 3 (some .int) :: ([.fieldLink RX3 7 "ParishNamesModel" "state" "[I", .methodLink RX3 67 yX3_goToEnd, .instanceMethod yX3_goToEnd, .selects RX3 yX3_goToEnd yX3_goToEnd, .initialized RX3, .code yX3_goToEnd cX3_goToEnd 1 none, .methodLink RX3 52 yX3_goThrough, .instanceMethod yX3_goThrough, .selects RX3 yX3_goThrough yX3_goThrough, .code yX3_goThrough cX3_goThrough 4 none, .fieldLink RX3 23 "ParishNamesModel" "owner" "[I", .fieldLink RX3 26 "ParishNamesModel" "namedBy" "[I", .methodLink RX3 70 yX3_sitesOf, .instanceMethod yX3_sitesOf, .selects RX3 yX3_sitesOf yX3_sitesOf, .code yX3_sitesOf cX3_sitesOf 4 (some .int)] ++ wsX30)
def wsX3_namesNow_r1 : List Cond := [Cond.fieldLink RX3 7 "ParishNamesModel" "state" "[I", Cond.methodLink RX3 67 yX3_goToEnd, Cond.instanceMethod yX3_goToEnd, Cond.selects RX3 yX3_goToEnd yX3_goToEnd, Cond.initialized RX3, Cond.code yX3_goToEnd cX3_goToEnd 1 none, Cond.methodLink RX3 52 yX3_goThrough, Cond.instanceMethod yX3_goThrough, Cond.selects RX3 yX3_goThrough yX3_goThrough, Cond.code yX3_goThrough cX3_goThrough 4 none, Cond.fieldLink RX3 23 "ParishNamesModel" "owner" "[I", Cond.fieldLink RX3 26 "ParishNamesModel" "namedBy" "[I", Cond.methodLink RX3 70 yX3_sitesOf, Cond.instanceMethod yX3_sitesOf, Cond.selects RX3 yX3_sitesOf yX3_sitesOf, Cond.code yX3_sitesOf cX3_sitesOf 4 (some .int), Cond.methodLink RX3 121 yX3_layFirst, Cond.instanceMethod yX3_layFirst, Cond.selects RX3 yX3_layFirst yX3_layFirst, Cond.code yX3_layFirst cX3_layFirst 3 none, Cond.fieldLink RX3 101 "ParishNamesModel" "firstLong" "I", Cond.fieldLink RX3 29 "ParishNamesModel" "first" "[I", Cond.fieldLink RX3 35 "ParishNamesModel" "firstSound" "[I", Cond.fieldLink RX3 108 "ParishNamesModel" "firstClasses" "I"]
def wsX3_namesNow_r2 : List Cond := [Cond.methodLink RX3 91 yX3_lettersOf, Cond.instanceMethod yX3_lettersOf, Cond.selects RX3 yX3_lettersOf yX3_lettersOf, Cond.code yX3_lettersOf cX3_lettersOf 2 (some .int), Cond.methodLink RX3 94 yX3_letterOf, Cond.instanceMethod yX3_letterOf, Cond.selects RX3 yX3_letterOf yX3_letterOf, Cond.code yX3_letterOf cX3_letterOf 3 (some .int), Cond.methodLink RX3 104 yX3_laySound, Cond.static yX3_laySound, Cond.code yX3_laySound cX3_laySound 6 (some .int), Cond.methodLink RX3 98 yX3_classOf, Cond.static yX3_classOf, Cond.code yX3_classOf cX3_classOf 1 (some .int), Cond.methodLink RX3 149 yX3_keepFirst, Cond.instanceMethod yX3_keepFirst, Cond.selects RX3 yX3_keepFirst yX3_keepFirst, Cond.code yX3_keepFirst cX3_keepFirst 2 none, Cond.fieldLink RX3 111 "ParishNamesModel" "secondLong" "I", Cond.fieldLink RX3 32 "ParishNamesModel" "second" "[I", Cond.methodLink RX3 124 yX3_areSame, Cond.instanceMethod yX3_areSame, Cond.selects RX3 yX3_areSame yX3_areSame, Cond.code yX3_areSame cX3_areSame 3 (some .boolean)]
def wsX3_namesNow : List Cond := .code yX3_namesNow cX3_namesNow 5 (some .int) :: ((wsX3_namesNow_r1 ++ wsX3_namesNow_r2) ++ wsX30)
def wsX3_ofKind : List Cond := .code yX3_ofKind cX3_ofKind 4 (some .int) :: ([.fieldLink RX3 7 "ParishNamesModel" "state" "[I"] ++ wsX30)
def wsX3_count_r1 : List Cond := [Cond.fieldLink RX3 7 "ParishNamesModel" "state" "[I", Cond.fieldLink RX3 48 "ParishNamesModel" "said" "I", Cond.fieldLink RX3 16 "ParishNamesModel" "isKept" "[Z", Cond.methodLink RX3 44 yX3_in, Cond.static yX3_in, Cond.initialized RX3, Cond.code yX3_in cX3_in 3 (some .boolean), Cond.methodLink RX3 152 yX3_ofKind, Cond.instanceMethod yX3_ofKind, Cond.selects RX3 yX3_ofKind yX3_ofKind, Cond.code yX3_ofKind cX3_ofKind 4 (some .int), Cond.methodLink RX3 63 yX3_lastYear, Cond.instanceMethod yX3_lastYear, Cond.selects RX3 yX3_lastYear yX3_lastYear, Cond.code yX3_lastYear cX3_lastYear 1 (some .int), Cond.methodLink RX3 155 yX3_thereNow, Cond.instanceMethod yX3_thereNow, Cond.selects RX3 yX3_thereNow yX3_thereNow, Cond.code yX3_thereNow cX3_thereNow 3 (some .int), Cond.methodLink RX3 67 yX3_goToEnd, Cond.instanceMethod yX3_goToEnd, Cond.selects RX3 yX3_goToEnd yX3_goToEnd, Cond.code yX3_goToEnd cX3_goToEnd 1 none, Cond.methodLink RX3 52 yX3_goThrough]
def wsX3_count_r2 : List Cond := [Cond.instanceMethod yX3_goThrough, Cond.selects RX3 yX3_goThrough yX3_goThrough, Cond.code yX3_goThrough cX3_goThrough 4 none, Cond.fieldLink RX3 23 "ParishNamesModel" "owner" "[I", Cond.fieldLink RX3 26 "ParishNamesModel" "namedBy" "[I", Cond.methodLink RX3 70 yX3_sitesOf, Cond.instanceMethod yX3_sitesOf, Cond.selects RX3 yX3_sitesOf yX3_sitesOf, Cond.code yX3_sitesOf cX3_sitesOf 4 (some .int), Cond.methodLink RX3 158 yX3_namesNow, Cond.instanceMethod yX3_namesNow, Cond.selects RX3 yX3_namesNow yX3_namesNow, Cond.code yX3_namesNow cX3_namesNow 5 (some .int), Cond.methodLink RX3 121 yX3_layFirst, Cond.instanceMethod yX3_layFirst, Cond.selects RX3 yX3_layFirst yX3_layFirst, Cond.code yX3_layFirst cX3_layFirst 3 none, Cond.fieldLink RX3 101 "ParishNamesModel" "firstLong" "I", Cond.fieldLink RX3 29 "ParishNamesModel" "first" "[I", Cond.fieldLink RX3 35 "ParishNamesModel" "firstSound" "[I", Cond.fieldLink RX3 108 "ParishNamesModel" "firstClasses" "I", Cond.methodLink RX3 91 yX3_lettersOf, Cond.instanceMethod yX3_lettersOf, Cond.selects RX3 yX3_lettersOf yX3_lettersOf]
def wsX3_count_r3 : List Cond := [Cond.code yX3_lettersOf cX3_lettersOf 2 (some .int), Cond.methodLink RX3 94 yX3_letterOf, Cond.instanceMethod yX3_letterOf, Cond.selects RX3 yX3_letterOf yX3_letterOf, Cond.code yX3_letterOf cX3_letterOf 3 (some .int), Cond.methodLink RX3 104 yX3_laySound, Cond.static yX3_laySound, Cond.code yX3_laySound cX3_laySound 6 (some .int), Cond.methodLink RX3 98 yX3_classOf, Cond.static yX3_classOf, Cond.code yX3_classOf cX3_classOf 1 (some .int), Cond.methodLink RX3 149 yX3_keepFirst, Cond.instanceMethod yX3_keepFirst, Cond.selects RX3 yX3_keepFirst yX3_keepFirst, Cond.code yX3_keepFirst cX3_keepFirst 2 none, Cond.fieldLink RX3 111 "ParishNamesModel" "secondLong" "I", Cond.fieldLink RX3 32 "ParishNamesModel" "second" "[I", Cond.methodLink RX3 124 yX3_areSame, Cond.instanceMethod yX3_areSame, Cond.selects RX3 yX3_areSame yX3_areSame, Cond.code yX3_areSame cX3_areSame 3 (some .boolean)]
def wsX3_count : List Cond := .code yX3_count cX3_count 2 (some .int) :: ((wsX3_count_r1 ++ (wsX3_count_r2 ++ wsX3_count_r3)) ++ wsX30)
def wsJ9_max_7cf53 : List Cond := .code yJ9_max_7cf53 cJ9_max_7cf53 2 (some .int) :: ([])
def wsJ9_min_7cf53 : List Cond := .code yJ9_min_7cf53 cJ9_min_7cf53 2 (some .int) :: ([])
def wsL_law_r1 : List Cond := [Cond.classLink RL 7 RX2, Cond.instantiable RX2 5, Cond.initialized RX2, Cond.classLink RL 10 RX3, Cond.instantiable RX3 16, Cond.initialized RX3, Cond.methodLink RL 9 yX2_init, Cond.instanceMethod yX2_init, Cond.code yX2_init cX2_init 1 none, Cond.methodLink RX2 1 objectInit, Cond.instanceMethod objectInit, Cond.code objectInit ⟨#[0xb1]⟩ 1 none, Cond.classLink RX2 7 RX0, Cond.instantiable RX0 8, Cond.initialized RX0, Cond.fieldLink RX2 10 "ParishNames" "now" "LParishNames$Chronicle;", Cond.fieldLink RX2 16 "ParishNames" "kept" "[LParishNames$Chronicle;", Cond.classLink RX2 20 RX1, Cond.instantiable RX1 1, Cond.initialized RX1, Cond.fieldLink RX2 23 "ParishNames" "speller" "LParishNames$Speller;", Cond.fieldLink RX2 27 "ParishNames" "keptSet" "I", Cond.fieldLink RX2 31 "ParishNames" "pad" "J", Cond.instanceMethod yX0_init]
def wsL_law_r2 : List Cond := [Cond.code yX0_init cX0_init 1 none, Cond.methodLink RX0 3 objectInit, Cond.arrayClass .int, Cond.fieldLink RX0 9 "ParishNames$Chronicle" "kinds" "[I", Cond.fieldLink RX0 15 "ParishNames$Chronicle" "years" "[I", Cond.fieldLink RX0 18 "ParishNames$Chronicle" "parishes" "[I", Cond.fieldLink RX0 21 "ParishNames$Chronicle" "sets" "[I", Cond.fieldLink RX0 24 "ParishNames$Chronicle" "owners" "[I", Cond.arrayClass .long, Cond.fieldLink RX0 27 "ParishNames$Chronicle" "names" "[J", Cond.fieldLink RX0 31 "ParishNames$Chronicle" "told" "I", Cond.fieldLink RX0 35 "ParishNames$Chronicle" "founded" "I", Cond.instanceMethod yX1_init, Cond.code yX1_init cX1_init 1 none, Cond.methodLink RX1 3 objectInit, Cond.fieldLink RX1 9 "ParishNames$Speller" "row" "[I", Cond.methodLink RL 12 yX3_init, Cond.instanceMethod yX3_init, Cond.code yX3_init cX3_init 1 none, Cond.methodLink RX3 1 objectInit, Cond.fieldLink RX3 7 "ParishNamesModel" "state" "[I", Cond.fieldLink RX3 13 "ParishNamesModel" "images" "[I", Cond.arrayClass .boolean, Cond.fieldLink RX3 16 "ParishNamesModel" "isKept" "[Z"]
def wsL_law_r3 : List Cond := [Cond.fieldLink RX3 20 "ParishNamesModel" "pad" "[I", Cond.fieldLink RX3 23 "ParishNamesModel" "owner" "[I", Cond.fieldLink RX3 26 "ParishNamesModel" "namedBy" "[I", Cond.fieldLink RX3 29 "ParishNamesModel" "first" "[I", Cond.fieldLink RX3 32 "ParishNamesModel" "second" "[I", Cond.fieldLink RX3 35 "ParishNamesModel" "firstSound" "[I", Cond.fieldLink RX3 38 "ParishNamesModel" "secondSound" "[I", Cond.fieldLink RX3 41 "ParishNamesModel" "costs" "[I", Cond.methodLink RL 13 yX2_say, Cond.instanceMethod yX2_say, Cond.selects RX2 yX2_say yX2_say, Cond.code yX2_say cX2_say 3 (some .int), Cond.methodLink RX2 35 yX1_lengthOf, Cond.static yX1_lengthOf, Cond.code yX1_lengthOf cX1_lengthOf 3 (some .int), Cond.methodLink RX1 15 yX1_letterOf, Cond.static yX1_letterOf, Cond.code yX1_letterOf cX1_letterOf 3 (some .int), Cond.methodLink RX2 39 yX1_withLetter, Cond.static yX1_withLetter, Cond.code yX1_withLetter cX1_withLetter 4 (some .long), Cond.methodLink RL 17 yX3_say, Cond.instanceMethod yX3_say, Cond.selects RX3 yX3_say yX3_say]
def wsL_law_r4 : List Cond := [Cond.code yX3_say cX3_say 2 (some .int), Cond.fieldLink RX3 48 "ParishNamesModel" "said" "I", Cond.methodLink RX3 44 yX3_in, Cond.static yX3_in, Cond.code yX3_in cX3_in 3 (some .boolean), Cond.methodLink RL 18 yX2_wipe, Cond.instanceMethod yX2_wipe, Cond.selects RX2 yX2_wipe yX2_wipe, Cond.code yX2_wipe cX2_wipe 2 (some .int), Cond.methodLink RL 22 yX3_wipe, Cond.instanceMethod yX3_wipe, Cond.selects RX3 yX3_wipe yX3_wipe, Cond.code yX3_wipe cX3_wipe 2 (some .int), Cond.methodLink RL 23 yX2_name, Cond.instanceMethod yX2_name, Cond.selects RX2 yX2_name yX2_name, Cond.code yX2_name cX2_name 3 (some .int), Cond.methodLink RX2 43 yX0_knows, Cond.instanceMethod yX0_knows, Cond.selects RX0 yX0_knows yX0_knows, Cond.code yX0_knows cX0_knows 2 (some .boolean), Cond.methodLink RX2 47 yX2_isYear, Cond.static yX2_isYear, Cond.code yX2_isYear cX2_isYear 1 (some .boolean)]
def wsL_law_r5 : List Cond := [Cond.methodLink RX2 50 yX2_padIsNoName, Cond.instanceMethod yX2_padIsNoName, Cond.selects RX2 yX2_padIsNoName yX2_padIsNoName, Cond.code yX2_padIsNoName cX2_padIsNoName 1 (some .boolean), Cond.methodLink RX2 54 yX0_yearOfLast, Cond.instanceMethod yX0_yearOfLast, Cond.selects RX0 yX0_yearOfLast yX0_yearOfLast, Cond.code yX0_yearOfLast cX0_yearOfLast 1 (some .int), Cond.methodLink RX2 58 yX0_sitesNow, Cond.instanceMethod yX0_sitesNow, Cond.selects RX0 yX0_sitesNow yX0_sitesNow, Cond.code yX0_sitesNow cX0_sitesNow 2 (some .int), Cond.methodLink RX0 80 yX0_sitesBehind, Cond.instanceMethod yX0_sitesBehind, Cond.selects RX0 yX0_sitesBehind yX0_sitesBehind, Cond.code yX0_sitesBehind cX0_sitesBehind 5 (some .int), Cond.methodLink RX0 61 yX0_sitesAtFirst, Cond.static yX0_sitesAtFirst, Cond.code yX0_sitesAtFirst cX0_sitesAtFirst 1 (some .int), Cond.methodLink RX0 64 yX0_sitesThrough, Cond.instanceMethod yX0_sitesThrough, Cond.selects RX0 yX0_sitesThrough yX0_sitesThrough, Cond.code yX0_sitesThrough cX0_sitesThrough 4 (some .int), Cond.methodLink RX2 62 yX0_isFull]
def wsL_law_r6 : List Cond := [Cond.instanceMethod yX0_isFull, Cond.selects RX0 yX0_isFull yX0_isFull, Cond.code yX0_isFull cX0_isFull 1 (some .boolean), Cond.methodLink RX2 65 yX2_takePad, Cond.instanceMethod yX2_takePad, Cond.selects RX2 yX2_takePad yX2_takePad, Cond.code yX2_takePad cX2_takePad 3 (some .long), Cond.methodLink RX2 69 yX0_tell, Cond.instanceMethod yX0_tell, Cond.selects RX0 yX0_tell yX0_tell, Cond.code yX0_tell cX0_tell 8 none, Cond.methodLink RX0 38 yX0_isFull, Cond.methodLink RX2 73 yX0_lastEvent, Cond.instanceMethod yX0_lastEvent, Cond.selects RX0 yX0_lastEvent yX0_lastEvent, Cond.code yX0_lastEvent cX0_lastEvent 1 (some .int), Cond.methodLink RL 27 yX3_name, Cond.instanceMethod yX3_name, Cond.selects RX3 yX3_name yX3_name, Cond.code yX3_name cX3_name 4 (some .int), Cond.methodLink RX3 56 yX3_isParish, Cond.instanceMethod yX3_isParish, Cond.selects RX3 yX3_isParish yX3_isParish, Cond.code yX3_isParish cX3_isParish 2 (some .boolean)]
def wsL_law_r7 : List Cond := [Cond.methodLink RX3 60 yX3_isYear, Cond.static yX3_isYear, Cond.code yX3_isYear cX3_isYear 1 (some .boolean), Cond.methodLink RX3 63 yX3_lastYear, Cond.instanceMethod yX3_lastYear, Cond.selects RX3 yX3_lastYear yX3_lastYear, Cond.code yX3_lastYear cX3_lastYear 1 (some .int), Cond.methodLink RX3 67 yX3_goToEnd, Cond.instanceMethod yX3_goToEnd, Cond.selects RX3 yX3_goToEnd yX3_goToEnd, Cond.code yX3_goToEnd cX3_goToEnd 1 none, Cond.methodLink RX3 52 yX3_goThrough, Cond.instanceMethod yX3_goThrough, Cond.selects RX3 yX3_goThrough yX3_goThrough, Cond.code yX3_goThrough cX3_goThrough 4 none, Cond.methodLink RX3 70 yX3_sitesOf, Cond.instanceMethod yX3_sitesOf, Cond.selects RX3 yX3_sitesOf yX3_sitesOf, Cond.code yX3_sitesOf cX3_sitesOf 4 (some .int), Cond.methodLink RX3 74 yX3_add, Cond.instanceMethod yX3_add, Cond.selects RX3 yX3_add yX3_add, Cond.code yX3_add cX3_add 7 none, Cond.methodLink RX3 78 yX3_takeName]
def wsL_law_r8 : List Cond := [Cond.instanceMethod yX3_takeName, Cond.selects RX3 yX3_takeName yX3_takeName, Cond.code yX3_takeName cX3_takeName 3 none, Cond.methodLink RL 28 yX2_split, Cond.instanceMethod yX2_split, Cond.selects RX2 yX2_split yX2_split, Cond.code yX2_split cX2_split 5 (some .int), Cond.methodLink RX2 76 yX2_isSetOfSites, Cond.static yX2_isSetOfSites, Cond.code yX2_isSetOfSites cX2_isSetOfSites 1 (some .boolean), Cond.methodLink RX2 79 yX2_isProperPart, Cond.static yX2_isProperPart, Cond.code yX2_isProperPart cX2_isProperPart 2 (some .boolean), Cond.methodLink RX2 83 yX0_parishCount, Cond.instanceMethod yX0_parishCount, Cond.selects RX0 yX0_parishCount yX0_parishCount, Cond.code yX0_parishCount cX0_parishCount 1 (some .int), Cond.methodLink RL 32 yX3_split, Cond.instanceMethod yX3_split, Cond.selects RX3 yX3_split yX3_split, Cond.code yX3_split cX3_split 6 (some .int), Cond.methodLink RX3 81 yX3_isSome, Cond.instanceMethod yX3_isSome, Cond.selects RX3 yX3_isSome yX3_isSome]
def wsL_law_r9 : List Cond := [Cond.code yX3_isSome cX3_isSome 4 (some .boolean), Cond.methodLink RL 33 yX2_merge, Cond.instanceMethod yX2_merge, Cond.selects RX2 yX2_merge yX2_merge, Cond.code yX2_merge cX2_merge 5 (some .int), Cond.methodLink RL 36 yX3_merge, Cond.instanceMethod yX3_merge, Cond.selects RX3 yX3_merge yX3_merge, Cond.code yX3_merge cX3_merge 5 (some .int), Cond.methodLink RL 37 yX2_shift, Cond.instanceMethod yX2_shift, Cond.selects RX2 yX2_shift yX2_shift, Cond.code yX2_shift cX2_shift 5 (some .int), Cond.methodLink RL 41 yX3_shift, Cond.instanceMethod yX3_shift, Cond.selects RX3 yX3_shift yX3_shift, Cond.code yX3_shift cX3_shift 5 (some .int), Cond.methodLink RL 42 yX2_undo, Cond.instanceMethod yX2_undo, Cond.selects RX2 yX2_undo yX2_undo, Cond.code yX2_undo cX2_undo 1 (some .int), Cond.methodLink RX2 86 yX0_eventCount, Cond.instanceMethod yX0_eventCount, Cond.selects RX0 yX0_eventCount yX0_eventCount]
def wsL_law_r10 : List Cond := [Cond.code yX0_eventCount cX0_eventCount 1 (some .int), Cond.methodLink RX2 89 yX0_forgetLast, Cond.instanceMethod yX0_forgetLast, Cond.selects RX0 yX0_forgetLast yX0_forgetLast, Cond.code yX0_forgetLast cX0_forgetLast 1 none, Cond.methodLink RL 45 yX3_undo, Cond.instanceMethod yX3_undo, Cond.selects RX3 yX3_undo yX3_undo, Cond.code yX3_undo cX3_undo 1 (some .int), Cond.methodLink RL 46 yX2_event, Cond.instanceMethod yX2_event, Cond.selects RX2 yX2_event yX2_event, Cond.code yX2_event cX2_event 3 (some .int), Cond.methodLink RX2 92 yX0_factOf, Cond.instanceMethod yX0_factOf, Cond.selects RX0 yX0_factOf yX0_factOf, Cond.code yX0_factOf cX0_factOf 3 (some .int), Cond.methodLink RL 49 yX3_event, Cond.instanceMethod yX3_event, Cond.selects RX3 yX3_event yX3_event, Cond.code yX3_event cX3_event 3 (some .int), Cond.methodLink RL 50 yX2_at, Cond.instanceMethod yX2_at, Cond.selects RX2 yX2_at yX2_at]
def wsL_law_r11 : List Cond := [Cond.code yX2_at cX2_at 3 (some .int), Cond.methodLink RX2 96 yX2_isSite, Cond.static yX2_isSite, Cond.code yX2_isSite cX2_isSite 1 (some .boolean), Cond.methodLink RX2 99 yX0_stageIn, Cond.instanceMethod yX0_stageIn, Cond.selects RX0 yX0_stageIn yX0_stageIn, Cond.code yX0_stageIn cX0_stageIn 3 (some .int), Cond.methodLink RX2 102 yX0_ownerBehind, Cond.instanceMethod yX0_ownerBehind, Cond.selects RX0 yX0_ownerBehind yX0_ownerBehind, Cond.code yX0_ownerBehind cX0_ownerBehind 5 (some .int), Cond.static yX2_has, Cond.code yX2_has cX2_has 2 (some .boolean), Cond.methodLink RL 53 yX3_at, Cond.instanceMethod yX3_at, Cond.selects RX3 yX3_at yX3_at, Cond.code yX3_at cX3_at 3 (some .int), Cond.methodLink RX3 85 yX3_isSite, Cond.static yX3_isSite, Cond.code yX3_isSite cX3_isSite 1 (some .boolean), Cond.methodLink RX3 88 yX3_goTo, Cond.instanceMethod yX3_goTo, Cond.selects RX3 yX3_goTo yX3_goTo]
def wsL_law_r12 : List Cond := [Cond.code yX3_goTo cX3_goTo 3 none, Cond.methodLink RL 54 yX2_sites, Cond.instanceMethod yX2_sites, Cond.selects RX2 yX2_sites yX2_sites, Cond.code yX2_sites cX2_sites 3 (some .int), Cond.methodLink RX2 105 yX0_sitesBehind, Cond.methodLink RL 57 yX3_sites, Cond.instanceMethod yX3_sites, Cond.selects RX3 yX3_sites yX3_sites, Cond.code yX3_sites cX3_sites 3 (some .int), Cond.methodLink RL 58 yX2_letter, Cond.instanceMethod yX2_letter, Cond.selects RX2 yX2_letter yX2_letter, Cond.code yX2_letter cX2_letter 7 (some .int), Cond.methodLink RX2 108 yX0_nameIn, Cond.instanceMethod yX0_nameIn, Cond.selects RX0 yX0_nameIn yX0_nameIn, Cond.code yX0_nameIn cX0_nameIn 4 (some .long), Cond.methodLink RX0 84 yX0_stageIn, Cond.methodLink RX0 87 yX0_nameBehind, Cond.instanceMethod yX0_nameBehind, Cond.selects RX0 yX0_nameBehind yX0_nameBehind, Cond.code yX0_nameBehind cX0_nameBehind 6 (some .long), Cond.methodLink RX0 68 yX0_nameAtFirst]
def wsL_law_r13 : List Cond := [Cond.static yX0_nameAtFirst, Cond.code yX0_nameAtFirst cX0_nameAtFirst 1 (some .long), Cond.methodLink RX0 55 yX1_withLetter, Cond.methodLink RX0 72 yX0_nameThrough, Cond.instanceMethod yX0_nameThrough, Cond.selects RX0 yX0_nameThrough yX0_nameThrough, Cond.code yX0_nameThrough cX0_nameThrough 5 (some .long), Cond.methodLink RX2 112 yX1_letterOf, Cond.methodLink RL 61 yX3_letter, Cond.instanceMethod yX3_letter, Cond.selects RX3 yX3_letter yX3_letter, Cond.code yX3_letter cX3_letter 4 (some .int), Cond.methodLink RX3 91 yX3_lettersOf, Cond.instanceMethod yX3_lettersOf, Cond.selects RX3 yX3_lettersOf yX3_lettersOf, Cond.code yX3_lettersOf cX3_lettersOf 2 (some .int), Cond.methodLink RX3 94 yX3_letterOf, Cond.instanceMethod yX3_letterOf, Cond.selects RX3 yX3_letterOf yX3_letterOf, Cond.code yX3_letterOf cX3_letterOf 3 (some .int), Cond.methodLink RL 62 yX2_sound, Cond.instanceMethod yX2_sound, Cond.selects RX2 yX2_sound yX2_sound, Cond.code yX2_sound cX2_sound 8 (some .int)]
def wsL_law_r14 : List Cond := [Cond.methodLink RX2 116 yX1_soundOf, Cond.static yX1_soundOf, Cond.code yX1_soundOf cX1_soundOf 8 (some .int), Cond.methodLink RX1 19 yX1_classOf, Cond.static yX1_classOf, Cond.code yX1_classOf cX1_classOf 1 (some .int), Cond.methodLink RX1 23 yX1_lengthOf, Cond.methodLink RX2 119 yX1_lengthOfSound, Cond.static yX1_lengthOfSound, Cond.code yX1_lengthOfSound cX1_lengthOfSound 2 (some .int), Cond.methodLink RX1 27 yX1_classOfSound, Cond.static yX1_classOfSound, Cond.code yX1_classOfSound cX1_classOfSound 2 (some .int), Cond.methodLink RX2 122 yX1_classOfSound, Cond.methodLink RL 65 yX3_sound, Cond.instanceMethod yX3_sound, Cond.selects RX3 yX3_sound yX3_sound, Cond.code yX3_sound cX3_sound 4 (some .int), Cond.fieldLink RX3 108 "ParishNamesModel" "firstClasses" "I", Cond.methodLink RX3 121 yX3_layFirst, Cond.instanceMethod yX3_layFirst, Cond.selects RX3 yX3_layFirst yX3_layFirst, Cond.code yX3_layFirst cX3_layFirst 3 none, Cond.fieldLink RX3 101 "ParishNamesModel" "firstLong" "I"]
def wsL_law_r15 : List Cond := [Cond.methodLink RX3 104 yX3_laySound, Cond.static yX3_laySound, Cond.code yX3_laySound cX3_laySound 6 (some .int), Cond.methodLink RX3 98 yX3_classOf, Cond.static yX3_classOf, Cond.code yX3_classOf cX3_classOf 1 (some .int), Cond.methodLink RL 66 yX2_parish, Cond.instanceMethod yX2_parish, Cond.selects RX2 yX2_parish yX2_parish, Cond.code yX2_parish cX2_parish 3 (some .int), Cond.methodLink RX2 125 yX0_eventsOf, Cond.instanceMethod yX0_eventsOf, Cond.selects RX0 yX0_eventsOf yX0_eventsOf, Cond.code yX0_eventsOf cX0_eventsOf 4 (some .int), Cond.methodLink RX2 128 yX0_lifeOf, Cond.instanceMethod yX0_lifeOf, Cond.selects RX0 yX0_lifeOf yX0_lifeOf, Cond.code yX0_lifeOf cX0_lifeOf 9 (some .int), Cond.methodLink RX0 94 yX0_holdsInAYear, Cond.instanceMethod yX0_holdsInAYear, Cond.selects RX0 yX0_holdsInAYear yX0_holdsInAYear, Cond.code yX0_holdsInAYear cX0_holdsInAYear 2 (some .boolean), Cond.methodLink RX0 48 yX0_firstYear, Cond.instanceMethod yX0_firstYear]
def wsL_law_r16 : List Cond := [Cond.selects RX0 yX0_firstYear yX0_firstYear, Cond.code yX0_firstYear cX0_firstYear 2 (some .int), Cond.methodLink RX0 52 yX0_lastYear, Cond.instanceMethod yX0_lastYear, Cond.selects RX0 yX0_lastYear yX0_lastYear, Cond.code yX0_lastYear cX0_lastYear 2 (some .int), Cond.methodLink RX0 98 yJ6_bitCount_0f7a4, Cond.static yJ6_bitCount_0f7a4, Cond.initialized RJ6, Cond.code yJ6_bitCount_0f7a4 cJ6_bitCount_0f7a4 1 (some .int), Cond.constant RJ6 265 (1431655765), Cond.constant RJ6 266 (858993459), Cond.constant RJ6 267 (252645135), Cond.methodLink RL 69 yX3_parish, Cond.instanceMethod yX3_parish, Cond.selects RX3 yX3_parish yX3_parish, Cond.code yX3_parish cX3_parish 9 (some .int), Cond.methodLink RX3 134 yX3_toldOf, Cond.instanceMethod yX3_toldOf, Cond.selects RX3 yX3_toldOf yX3_toldOf, Cond.code yX3_toldOf cX3_toldOf 4 (some .int), Cond.methodLink RX3 137 yX3_bits, Cond.static yX3_bits, Cond.code yX3_bits cX3_bits 3 (some .int)]
def wsL_law_r17 : List Cond := [Cond.methodLink RL 70 yX2_find, Cond.instanceMethod yX2_find, Cond.selects RX2 yX2_find yX2_find, Cond.code yX2_find cX2_find 7 (some .int), Cond.methodLink RX2 131 yX2_areYears, Cond.static yX2_areYears, Cond.code yX2_areYears cX2_areYears 2 (some .boolean), Cond.methodLink RX2 134 yX2_isHow, Cond.static yX2_isHow, Cond.code yX2_isHow cX2_isHow 1 (some .boolean), Cond.methodLink RX2 137 yX2_wasCalled, Cond.instanceMethod yX2_wasCalled, Cond.selects RX2 yX2_wasCalled yX2_wasCalled, Cond.code yX2_wasCalled cX2_wasCalled 12 (some .boolean), Cond.methodLink RX2 144 Lib.Math.max.name, Cond.static Lib.Math.max.name, Cond.initialized "java/lang/Math", Cond.code Lib.Math.max.name Lib.Math.max.code 2 (some .int), Cond.methodLink RX2 152 Lib.Math.min.name, Cond.static Lib.Math.min.name, Cond.code Lib.Math.min.name Lib.Math.min.code 2 (some .int), Cond.methodLink RX2 189 yX0_sitesAtFirst, Cond.methodLink RX2 192 yX0_nameAtFirst, Cond.methodLink RX2 196 yX0_sitesThrough]
def wsL_law_r18 : List Cond := [Cond.methodLink RX2 200 yX0_nameThrough, Cond.methodLink RX2 141 yX0_firstYear, Cond.methodLink RX2 149 yX0_lastYear, Cond.methodLink RX2 158 yX1_areAlike, Cond.instanceMethod yX1_areAlike, Cond.selects RX1 yX1_areAlike yX1_areAlike, Cond.code yX1_areAlike cX1_areAlike 6 (some .boolean), Cond.methodLink RX1 31 yX1_soundOf, Cond.methodLink RX1 34 yX1_distance, Cond.instanceMethod yX1_distance, Cond.selects RX1 yX1_distance yX1_distance, Cond.code yX1_distance cX1_distance 11 (some .int), Cond.methodLink RX1 38 Lib.Math.min.name, Cond.methodLink RL 73 yX3_find, Cond.instanceMethod yX3_find, Cond.selects RX3 yX3_find yX3_find, Cond.code yX3_find cX3_find 8 (some .int), Cond.methodLink RX3 140 yX3_areYears, Cond.static yX3_areYears, Cond.code yX3_areYears cX3_areYears 2 (some .boolean), Cond.methodLink RX3 143 yX3_layPad, Cond.instanceMethod yX3_layPad, Cond.selects RX3 yX3_layPad yX3_layPad, Cond.code yX3_layPad cX3_layPad 2 none]
def wsL_law_r19 : List Cond := [Cond.fieldLink RX3 111 "ParishNamesModel" "secondLong" "I", Cond.fieldLink RX3 114 "ParishNamesModel" "secondClasses" "I", Cond.methodLink RX3 146 yX3_isLike, Cond.instanceMethod yX3_isLike, Cond.selects RX3 yX3_isLike yX3_isLike, Cond.code yX3_isLike cX3_isLike 3 (some .boolean), Cond.methodLink RX3 124 yX3_areSame, Cond.instanceMethod yX3_areSame, Cond.selects RX3 yX3_areSame yX3_areSame, Cond.code yX3_areSame cX3_areSame 3 (some .boolean), Cond.methodLink RX3 128 yX3_soundSame, Cond.instanceMethod yX3_soundSame, Cond.selects RX3 yX3_soundSame yX3_soundSame, Cond.code yX3_soundSame cX3_soundSame 3 (some .boolean), Cond.methodLink RX3 131 yX3_offNow, Cond.instanceMethod yX3_offNow, Cond.selects RX3 yX3_offNow yX3_offNow, Cond.code yX3_offNow cX3_offNow 5 (some .int), Cond.methodLink RX3 117 yX3_least, Cond.static yX3_least, Cond.code yX3_least cX3_least 4 (some .int), Cond.methodLink RL 74 yX2_called, Cond.instanceMethod yX2_called, Cond.selects RX2 yX2_called yX2_called]
def wsL_law_r20 : List Cond := [Cond.code yX2_called cX2_called 12 (some .int), Cond.methodLink RX2 155 yX0_nameAt, Cond.instanceMethod yX0_nameAt, Cond.selects RX0 yX0_nameAt yX0_nameAt, Cond.code yX0_nameAt cX0_nameAt 3 (some .long), Cond.methodLink RX0 91 yX0_ownerBehind, Cond.methodLink RL 78 yX3_called, Cond.instanceMethod yX3_called, Cond.selects RX3 yX3_called yX3_called, Cond.code yX3_called cX3_called 10 (some .int), Cond.methodLink RL 79 yX2_off, Cond.instanceMethod yX2_off, Cond.selects RX2 yX2_off yX2_off, Cond.code yX2_off cX2_off 5 (some .int), Cond.methodLink RX2 162 yX1_distance, Cond.methodLink RL 82 yX3_off, Cond.instanceMethod yX3_off, Cond.selects RX3 yX3_off yX3_off, Cond.code yX3_off cX3_off 3 (some .int), Cond.methodLink RL 83 yX2_span, Cond.instanceMethod yX2_span, Cond.selects RX2 yX2_span yX2_span, Cond.code yX2_span cX2_span 8 (some .int), Cond.methodLink RX2 166 yX0_nextSpan]
def wsL_law_r21 : List Cond := [Cond.instanceMethod yX0_nextSpan, Cond.selects RX0 yX0_nextSpan yX0_nextSpan, Cond.code yX0_nextSpan cX0_nextSpan 8 (some .int), Cond.methodLink RX2 169 yX2_spanFact, Cond.instanceMethod yX2_spanFact, Cond.selects RX2 yX2_spanFact yX2_spanFact, Cond.code yX2_spanFact cX2_spanFact 5 (some .int), Cond.methodLink RL 86 yX3_span, Cond.instanceMethod yX3_span, Cond.selects RX3 yX3_span yX3_span, Cond.code yX3_span cX3_span 8 (some .int), Cond.methodLink RX3 149 yX3_keepFirst, Cond.instanceMethod yX3_keepFirst, Cond.selects RX3 yX3_keepFirst yX3_keepFirst, Cond.code yX3_keepFirst cX3_keepFirst 2 none, Cond.methodLink RL 87 yX2_heirs, Cond.instanceMethod yX2_heirs, Cond.selects RX2 yX2_heirs yX2_heirs, Cond.code yX2_heirs cX2_heirs 8 (some .int), Cond.methodLink RX2 173 yX2_has, Cond.methodLink RL 90 yX3_heirs, Cond.instanceMethod yX3_heirs, Cond.selects RX3 yX3_heirs yX3_heirs, Cond.code yX3_heirs cX3_heirs 7 (some .int)]
def wsL_law_r22 : List Cond := [Cond.methodLink RL 91 yX2_image, Cond.instanceMethod yX2_image, Cond.selects RX2 yX2_image yX2_image, Cond.code yX2_image cX2_image 2 (some .int), Cond.methodLink RX2 176 yX0_becomeLike, Cond.instanceMethod yX0_becomeLike, Cond.selects RX0 yX0_becomeLike yX0_becomeLike, Cond.code yX0_becomeLike cX0_becomeLike 2 none, Cond.methodLink RX0 42 arraycopyName, Cond.native arraycopyName, Cond.static arraycopyName, Cond.initialized "java/lang/System", Cond.methodLink RL 94 yX3_image, Cond.instanceMethod yX3_image, Cond.selects RX3 yX3_image yX3_image, Cond.code yX3_image cX3_image 3 (some .int), Cond.methodLink RL 95 yX2_restore, Cond.instanceMethod yX2_restore, Cond.selects RX2 yX2_restore yX2_restore, Cond.code yX2_restore cX2_restore 2 (some .int), Cond.methodLink RL 98 yX3_restore, Cond.instanceMethod yX3_restore, Cond.selects RX3 yX3_restore yX3_restore, Cond.code yX3_restore cX3_restore 3 (some .int)]
def wsL_law_r23 : List Cond := [Cond.methodLink RL 99 yX2_count, Cond.instanceMethod yX2_count, Cond.selects RX2 yX2_count yX2_count, Cond.code yX2_count cX2_count 2 (some .int), Cond.methodLink RX2 180 yX0_parishesNow, Cond.instanceMethod yX0_parishesNow, Cond.selects RX0 yX0_parishesNow yX0_parishesNow, Cond.code yX0_parishesNow cX0_parishesNow 3 (some .int), Cond.methodLink RX0 103 yX0_sitesNow, Cond.methodLink RX2 183 yX0_unlikeNamesNow, Cond.instanceMethod yX0_unlikeNamesNow, Cond.selects RX0 yX0_unlikeNamesNow yX0_unlikeNamesNow, Cond.code yX0_unlikeNamesNow cX0_unlikeNamesNow 3 (some .int), Cond.methodLink RX0 106 yX0_isNameOfLesser, Cond.instanceMethod yX0_isNameOfLesser, Cond.selects RX0 yX0_isNameOfLesser yX0_isNameOfLesser, Cond.code yX0_isNameOfLesser cX0_isNameOfLesser 5 (some .boolean), Cond.methodLink RX2 186 yX0_eventsOfKind, Cond.instanceMethod yX0_eventsOfKind, Cond.selects RX0 yX0_eventsOfKind yX0_eventsOfKind, Cond.code yX0_eventsOfKind cX0_eventsOfKind 4 (some .int), Cond.methodLink RL 102 yX3_count, Cond.instanceMethod yX3_count, Cond.selects RX3 yX3_count yX3_count]
def wsL_law_r24 : List Cond := [Cond.code yX3_count cX3_count 2 (some .int), Cond.methodLink RX3 152 yX3_ofKind, Cond.instanceMethod yX3_ofKind, Cond.selects RX3 yX3_ofKind yX3_ofKind, Cond.code yX3_ofKind cX3_ofKind 4 (some .int), Cond.methodLink RX3 155 yX3_thereNow, Cond.instanceMethod yX3_thereNow, Cond.selects RX3 yX3_thereNow yX3_thereNow, Cond.code yX3_thereNow cX3_thereNow 3 (some .int), Cond.methodLink RX3 158 yX3_namesNow, Cond.instanceMethod yX3_namesNow, Cond.selects RX3 yX3_namesNow yX3_namesNow, Cond.code yX3_namesNow cX3_namesNow 5 (some .int)]
def wsL_law : List Cond := (wsL_law_r1 ++ (wsL_law_r2 ++ (wsL_law_r3 ++ (wsL_law_r4 ++ (wsL_law_r5 ++ (wsL_law_r6 ++ (wsL_law_r7 ++ (wsL_law_r8 ++ (wsL_law_r9 ++ (wsL_law_r10 ++ (wsL_law_r11 ++ (wsL_law_r12 ++ (wsL_law_r13 ++ (wsL_law_r14 ++ (wsL_law_r15 ++ (wsL_law_r16 ++ (wsL_law_r17 ++ (wsL_law_r18 ++ (wsL_law_r19 ++ (wsL_law_r20 ++ (wsL_law_r21 ++ (wsL_law_r22 ++ (wsL_law_r23 ++ wsL_law_r24))))))))))))))))))))))) ++ wsX20 ++ wsX30 ++ wsX00 ++ wsX10 ++ ([] : List Cond)
abbrev vwCl : List vw_C := [(RX0, TX0, 8), (RX1, TX1, 1), (RX2, TX2, 5), (RX3, TX3, 16)]
end
section
theorem dX0_init_0 : decode cX0_init 0 = .ok (.aload_n 0, 1) := by decide +kernel
theorem dX0_init_1 : decode cX0_init 1 = .ok (.invokespecial 3, 3) := by decide +kernel
theorem dX0_init_4 : decode cX0_init 4 = .ok (.aload_n 0, 1) := by decide +kernel
theorem dX0_init_5 : decode cX0_init 5 = .ok (.bipush 30, 2) := by decide +kernel
theorem dX0_init_7 : decode cX0_init 7 = .ok (.newarray .int, 2) := by decide +kernel
theorem dX0_init_9 : decode cX0_init 9 = .ok (.putfield 9, 3) := by decide +kernel
theorem dX0_init_12 : decode cX0_init 12 = .ok (.aload_n 0, 1) := by decide +kernel
theorem dX0_init_13 : decode cX0_init 13 = .ok (.bipush 30, 2) := by decide +kernel
theorem dX0_init_15 : decode cX0_init 15 = .ok (.newarray .int, 2) := by decide +kernel
theorem dX0_init_17 : decode cX0_init 17 = .ok (.putfield 15, 3) := by decide +kernel
theorem dX0_init_20 : decode cX0_init 20 = .ok (.aload_n 0, 1) := by decide +kernel
theorem dX0_init_21 : decode cX0_init 21 = .ok (.bipush 30, 2) := by decide +kernel
theorem dX0_init_23 : decode cX0_init 23 = .ok (.newarray .int, 2) := by decide +kernel
theorem dX0_init_25 : decode cX0_init 25 = .ok (.putfield 18, 3) := by decide +kernel
theorem dX0_init_28 : decode cX0_init 28 = .ok (.aload_n 0, 1) := by decide +kernel
theorem dX0_init_29 : decode cX0_init 29 = .ok (.bipush 30, 2) := by decide +kernel
theorem dX0_init_31 : decode cX0_init 31 = .ok (.newarray .int, 2) := by decide +kernel
theorem dX0_init_33 : decode cX0_init 33 = .ok (.putfield 21, 3) := by decide +kernel
theorem dX0_init_36 : decode cX0_init 36 = .ok (.aload_n 0, 1) := by decide +kernel
theorem dX0_init_37 : decode cX0_init 37 = .ok (.bipush 30, 2) := by decide +kernel
theorem dX0_init_39 : decode cX0_init 39 = .ok (.newarray .int, 2) := by decide +kernel
theorem dX0_init_41 : decode cX0_init 41 = .ok (.putfield 24, 3) := by decide +kernel
theorem dX0_init_44 : decode cX0_init 44 = .ok (.aload_n 0, 1) := by decide +kernel
theorem dX0_init_45 : decode cX0_init 45 = .ok (.bipush 30, 2) := by decide +kernel
theorem dX0_init_47 : decode cX0_init 47 = .ok (.newarray .long, 2) := by decide +kernel
theorem dX0_init_49 : decode cX0_init 49 = .ok (.putfield 27, 3) := by decide +kernel
theorem dX0_init_52 : decode cX0_init 52 = .ok (.aload_n 0, 1) := by decide +kernel
theorem dX0_init_53 : decode cX0_init 53 = .ok (.iconst 0, 1) := by decide +kernel
theorem dX0_init_54 : decode cX0_init 54 = .ok (.putfield 31, 3) := by decide +kernel
theorem dX0_init_57 : decode cX0_init 57 = .ok (.aload_n 0, 1) := by decide +kernel
theorem dX0_init_58 : decode cX0_init 58 = .ok (.iconst 1, 1) := by decide +kernel
theorem dX0_init_59 : decode cX0_init 59 = .ok (.putfield 35, 3) := by decide +kernel
theorem dX0_init_62 : decode cX0_init 62 = .ok (.return_, 1) := by decide +kernel
theorem dX0_eventCount_0 : decode cX0_eventCount 0 = .ok (.aload_n 0, 1) := by decide +kernel
theorem dX0_eventCount_1 : decode cX0_eventCount 1 = .ok (.getfield 31, 3) := by decide +kernel
theorem dX0_eventCount_4 : decode cX0_eventCount 4 = .ok (.ireturn, 1) := by decide +kernel
theorem dX0_lastEvent_0 : decode cX0_lastEvent 0 = .ok (.aload_n 0, 1) := by decide +kernel
theorem dX0_lastEvent_1 : decode cX0_lastEvent 1 = .ok (.getfield 31, 3) := by decide +kernel
theorem dX0_lastEvent_4 : decode cX0_lastEvent 4 = .ok (.iconst 1, 1) := by decide +kernel
theorem dX0_lastEvent_5 : decode cX0_lastEvent 5 = .ok (.isub, 1) := by decide +kernel
theorem dX0_lastEvent_6 : decode cX0_lastEvent 6 = .ok (.ireturn, 1) := by decide +kernel
theorem dX0_parishCount_0 : decode cX0_parishCount 0 = .ok (.aload_n 0, 1) := by decide +kernel
theorem dX0_parishCount_1 : decode cX0_parishCount 1 = .ok (.getfield 35, 3) := by decide +kernel
theorem dX0_parishCount_4 : decode cX0_parishCount 4 = .ok (.ireturn, 1) := by decide +kernel
theorem dX0_isFull_0 : decode cX0_isFull 0 = .ok (.aload_n 0, 1) := by decide +kernel
theorem dX0_isFull_1 : decode cX0_isFull 1 = .ok (.getfield 31, 3) := by decide +kernel
theorem dX0_isFull_4 : decode cX0_isFull 4 = .ok (.bipush 30, 2) := by decide +kernel
theorem dX0_isFull_6 : decode cX0_isFull 6 = .ok (.if_icmp .lt 7, 3) := by decide +kernel
theorem dX0_isFull_9 : decode cX0_isFull 9 = .ok (.iconst 1, 1) := by decide +kernel
theorem dX0_isFull_10 : decode cX0_isFull 10 = .ok (.goto 4, 3) := by decide +kernel
theorem dX0_isFull_13 : decode cX0_isFull 13 = .ok (.iconst 0, 1) := by decide +kernel
theorem dX0_isFull_14 : decode cX0_isFull 14 = .ok (.ireturn, 1) := by decide +kernel
theorem dX0_knows_0 : decode cX0_knows 0 = .ok (.iload_n 1, 1) := by decide +kernel
theorem dX0_knows_1 : decode cX0_knows 1 = .ok (.ifCond .lt 15, 3) := by decide +kernel
theorem dX0_knows_4 : decode cX0_knows 4 = .ok (.iload_n 1, 1) := by decide +kernel
theorem dX0_knows_5 : decode cX0_knows 5 = .ok (.aload_n 0, 1) := by decide +kernel
theorem dX0_knows_6 : decode cX0_knows 6 = .ok (.getfield 35, 3) := by decide +kernel
theorem dX0_knows_9 : decode cX0_knows 9 = .ok (.if_icmp .ge 7, 3) := by decide +kernel
theorem dX0_knows_12 : decode cX0_knows 12 = .ok (.iconst 1, 1) := by decide +kernel
theorem dX0_knows_13 : decode cX0_knows 13 = .ok (.goto 4, 3) := by decide +kernel
theorem dX0_knows_16 : decode cX0_knows 16 = .ok (.iconst 0, 1) := by decide +kernel
theorem dX0_knows_17 : decode cX0_knows 17 = .ok (.ireturn, 1) := by decide +kernel
theorem dX0_yearOfLast_0 : decode cX0_yearOfLast 0 = .ok (.aload_n 0, 1) := by decide +kernel
theorem dX0_yearOfLast_1 : decode cX0_yearOfLast 1 = .ok (.getfield 31, 3) := by decide +kernel
theorem dX0_yearOfLast_4 : decode cX0_yearOfLast 4 = .ok (.ifCond .ne 7, 3) := by decide +kernel
theorem dX0_yearOfLast_7 : decode cX0_yearOfLast 7 = .ok (.iconst 0, 1) := by decide +kernel
theorem dX0_yearOfLast_8 : decode cX0_yearOfLast 8 = .ok (.goto 14, 3) := by decide +kernel
theorem dX0_yearOfLast_11 : decode cX0_yearOfLast 11 = .ok (.aload_n 0, 1) := by decide +kernel
theorem dX0_yearOfLast_12 : decode cX0_yearOfLast 12 = .ok (.getfield 15, 3) := by decide +kernel
theorem dX0_yearOfLast_15 : decode cX0_yearOfLast 15 = .ok (.aload_n 0, 1) := by decide +kernel
theorem dX0_yearOfLast_16 : decode cX0_yearOfLast 16 = .ok (.getfield 31, 3) := by decide +kernel
theorem dX0_yearOfLast_19 : decode cX0_yearOfLast 19 = .ok (.iconst 1, 1) := by decide +kernel
theorem dX0_yearOfLast_20 : decode cX0_yearOfLast 20 = .ok (.isub, 1) := by decide +kernel
theorem dX0_yearOfLast_21 : decode cX0_yearOfLast 21 = .ok (.iaload, 1) := by decide +kernel
theorem dX0_yearOfLast_22 : decode cX0_yearOfLast 22 = .ok (.ireturn, 1) := by decide +kernel
set_option maxRecDepth 20000 in
theorem ggX0_tell_X0_isFull : GoodIn wsX0_tell wsX0_isFull := goodIn_r _ [13, 2, 14, 15, 16, 17, 18, 19, 20, 21] (by decide +kernel) (by decide +kernel)
set_option maxRecDepth 20000 in
theorem gX0_tell_X0_isFull : GoodIn wsX0_tell (wsV RX0 38 RX0 yX0_isFull wsX0_isFull) := goodIn_app (goodIn_of _ (by decide +kernel)) ggX0_tell_X0_isFull
theorem dX0_tell_0 : decode cX0_tell 0 = .ok (.aload_n 0, 1) := by decide +kernel
theorem dX0_tell_1 : decode cX0_tell 1 = .ok (.invokevirtual 38, 3) := by decide +kernel
theorem dX0_tell_4 : decode cX0_tell 4 = .ok (.ifCond .eq 4, 3) := by decide +kernel
theorem dX0_tell_7 : decode cX0_tell 7 = .ok (.return_, 1) := by decide +kernel
theorem dX0_tell_8 : decode cX0_tell 8 = .ok (.aload_n 0, 1) := by decide +kernel
theorem dX0_tell_9 : decode cX0_tell 9 = .ok (.getfield 9, 3) := by decide +kernel
theorem dX0_tell_12 : decode cX0_tell 12 = .ok (.aload_n 0, 1) := by decide +kernel
theorem dX0_tell_13 : decode cX0_tell 13 = .ok (.getfield 31, 3) := by decide +kernel
theorem dX0_tell_16 : decode cX0_tell 16 = .ok (.iload_n 1, 1) := by decide +kernel
theorem dX0_tell_17 : decode cX0_tell 17 = .ok (.iastore, 1) := by decide +kernel
theorem dX0_tell_18 : decode cX0_tell 18 = .ok (.aload_n 0, 1) := by decide +kernel
theorem dX0_tell_19 : decode cX0_tell 19 = .ok (.getfield 15, 3) := by decide +kernel
theorem dX0_tell_22 : decode cX0_tell 22 = .ok (.aload_n 0, 1) := by decide +kernel
theorem dX0_tell_23 : decode cX0_tell 23 = .ok (.getfield 31, 3) := by decide +kernel
theorem dX0_tell_26 : decode cX0_tell 26 = .ok (.iload_n 2, 1) := by decide +kernel
theorem dX0_tell_27 : decode cX0_tell 27 = .ok (.iastore, 1) := by decide +kernel
theorem dX0_tell_28 : decode cX0_tell 28 = .ok (.aload_n 0, 1) := by decide +kernel
theorem dX0_tell_29 : decode cX0_tell 29 = .ok (.getfield 18, 3) := by decide +kernel
theorem dX0_tell_32 : decode cX0_tell 32 = .ok (.aload_n 0, 1) := by decide +kernel
theorem dX0_tell_33 : decode cX0_tell 33 = .ok (.getfield 31, 3) := by decide +kernel
theorem dX0_tell_36 : decode cX0_tell 36 = .ok (.iload_n 3, 1) := by decide +kernel
theorem dX0_tell_37 : decode cX0_tell 37 = .ok (.iastore, 1) := by decide +kernel
theorem dX0_tell_38 : decode cX0_tell 38 = .ok (.aload_n 0, 1) := by decide +kernel
theorem dX0_tell_39 : decode cX0_tell 39 = .ok (.getfield 21, 3) := by decide +kernel
theorem dX0_tell_42 : decode cX0_tell 42 = .ok (.aload_n 0, 1) := by decide +kernel
theorem dX0_tell_43 : decode cX0_tell 43 = .ok (.getfield 31, 3) := by decide +kernel
theorem dX0_tell_46 : decode cX0_tell 46 = .ok (.iload 4, 2) := by decide +kernel
theorem dX0_tell_48 : decode cX0_tell 48 = .ok (.iastore, 1) := by decide +kernel
theorem dX0_tell_49 : decode cX0_tell 49 = .ok (.aload_n 0, 1) := by decide +kernel
theorem dX0_tell_50 : decode cX0_tell 50 = .ok (.getfield 24, 3) := by decide +kernel
theorem dX0_tell_53 : decode cX0_tell 53 = .ok (.aload_n 0, 1) := by decide +kernel
theorem dX0_tell_54 : decode cX0_tell 54 = .ok (.getfield 31, 3) := by decide +kernel
theorem dX0_tell_57 : decode cX0_tell 57 = .ok (.iload 5, 2) := by decide +kernel
theorem dX0_tell_59 : decode cX0_tell 59 = .ok (.iastore, 1) := by decide +kernel
theorem dX0_tell_60 : decode cX0_tell 60 = .ok (.aload_n 0, 1) := by decide +kernel
theorem dX0_tell_61 : decode cX0_tell 61 = .ok (.getfield 27, 3) := by decide +kernel
theorem dX0_tell_64 : decode cX0_tell 64 = .ok (.aload_n 0, 1) := by decide +kernel
theorem dX0_tell_65 : decode cX0_tell 65 = .ok (.getfield 31, 3) := by decide +kernel
theorem dX0_tell_68 : decode cX0_tell 68 = .ok (.lload 6, 2) := by decide +kernel
theorem dX0_tell_70 : decode cX0_tell 70 = .ok (.lastore, 1) := by decide +kernel
theorem dX0_tell_71 : decode cX0_tell 71 = .ok (.aload_n 0, 1) := by decide +kernel
theorem dX0_tell_72 : decode cX0_tell 72 = .ok (.dup, 1) := by decide +kernel
theorem dX0_tell_73 : decode cX0_tell 73 = .ok (.getfield 31, 3) := by decide +kernel
theorem dX0_tell_76 : decode cX0_tell 76 = .ok (.iconst 1, 1) := by decide +kernel
theorem dX0_tell_77 : decode cX0_tell 77 = .ok (.iadd, 1) := by decide +kernel
theorem dX0_tell_78 : decode cX0_tell 78 = .ok (.putfield 31, 3) := by decide +kernel
theorem dX0_tell_81 : decode cX0_tell 81 = .ok (.iload_n 1, 1) := by decide +kernel
theorem dX0_tell_82 : decode cX0_tell 82 = .ok (.iconst 1, 1) := by decide +kernel
theorem dX0_tell_83 : decode cX0_tell 83 = .ok (.if_icmp .ne 13, 3) := by decide +kernel
theorem dX0_tell_86 : decode cX0_tell 86 = .ok (.aload_n 0, 1) := by decide +kernel
theorem dX0_tell_87 : decode cX0_tell 87 = .ok (.dup, 1) := by decide +kernel
theorem dX0_tell_88 : decode cX0_tell 88 = .ok (.getfield 35, 3) := by decide +kernel
theorem dX0_tell_91 : decode cX0_tell 91 = .ok (.iconst 1, 1) := by decide +kernel
theorem dX0_tell_92 : decode cX0_tell 92 = .ok (.iadd, 1) := by decide +kernel
theorem dX0_tell_93 : decode cX0_tell 93 = .ok (.putfield 35, 3) := by decide +kernel
theorem dX0_tell_96 : decode cX0_tell 96 = .ok (.return_, 1) := by decide +kernel
theorem dX0_forgetLast_0 : decode cX0_forgetLast 0 = .ok (.aload_n 0, 1) := by decide +kernel
theorem dX0_forgetLast_1 : decode cX0_forgetLast 1 = .ok (.getfield 31, 3) := by decide +kernel
theorem dX0_forgetLast_4 : decode cX0_forgetLast 4 = .ok (.ifCond .ne 4, 3) := by decide +kernel
theorem dX0_forgetLast_7 : decode cX0_forgetLast 7 = .ok (.return_, 1) := by decide +kernel
theorem dX0_forgetLast_8 : decode cX0_forgetLast 8 = .ok (.aload_n 0, 1) := by decide +kernel
theorem dX0_forgetLast_9 : decode cX0_forgetLast 9 = .ok (.dup, 1) := by decide +kernel
theorem dX0_forgetLast_10 : decode cX0_forgetLast 10 = .ok (.getfield 31, 3) := by decide +kernel
theorem dX0_forgetLast_13 : decode cX0_forgetLast 13 = .ok (.iconst 1, 1) := by decide +kernel
theorem dX0_forgetLast_14 : decode cX0_forgetLast 14 = .ok (.isub, 1) := by decide +kernel
theorem dX0_forgetLast_15 : decode cX0_forgetLast 15 = .ok (.putfield 31, 3) := by decide +kernel
theorem dX0_forgetLast_18 : decode cX0_forgetLast 18 = .ok (.aload_n 0, 1) := by decide +kernel
theorem dX0_forgetLast_19 : decode cX0_forgetLast 19 = .ok (.getfield 9, 3) := by decide +kernel
theorem dX0_forgetLast_22 : decode cX0_forgetLast 22 = .ok (.aload_n 0, 1) := by decide +kernel
theorem dX0_forgetLast_23 : decode cX0_forgetLast 23 = .ok (.getfield 31, 3) := by decide +kernel
theorem dX0_forgetLast_26 : decode cX0_forgetLast 26 = .ok (.iaload, 1) := by decide +kernel
theorem dX0_forgetLast_27 : decode cX0_forgetLast 27 = .ok (.iconst 1, 1) := by decide +kernel
theorem dX0_forgetLast_28 : decode cX0_forgetLast 28 = .ok (.if_icmp .ne 13, 3) := by decide +kernel
theorem dX0_forgetLast_31 : decode cX0_forgetLast 31 = .ok (.aload_n 0, 1) := by decide +kernel
theorem dX0_forgetLast_32 : decode cX0_forgetLast 32 = .ok (.dup, 1) := by decide +kernel
theorem dX0_forgetLast_33 : decode cX0_forgetLast 33 = .ok (.getfield 35, 3) := by decide +kernel
theorem dX0_forgetLast_36 : decode cX0_forgetLast 36 = .ok (.iconst 1, 1) := by decide +kernel
theorem dX0_forgetLast_37 : decode cX0_forgetLast 37 = .ok (.isub, 1) := by decide +kernel
theorem dX0_forgetLast_38 : decode cX0_forgetLast 38 = .ok (.putfield 35, 3) := by decide +kernel
theorem dX0_forgetLast_41 : decode cX0_forgetLast 41 = .ok (.return_, 1) := by decide +kernel
theorem dX0_becomeLike_0 : decode cX0_becomeLike 0 = .ok (.aload_n 1, 1) := by decide +kernel
theorem dX0_becomeLike_1 : decode cX0_becomeLike 1 = .ok (.getfield 9, 3) := by decide +kernel
theorem dX0_becomeLike_4 : decode cX0_becomeLike 4 = .ok (.iconst 0, 1) := by decide +kernel
theorem dX0_becomeLike_5 : decode cX0_becomeLike 5 = .ok (.aload_n 0, 1) := by decide +kernel
theorem dX0_becomeLike_6 : decode cX0_becomeLike 6 = .ok (.getfield 9, 3) := by decide +kernel
theorem dX0_becomeLike_9 : decode cX0_becomeLike 9 = .ok (.iconst 0, 1) := by decide +kernel
theorem dX0_becomeLike_10 : decode cX0_becomeLike 10 = .ok (.bipush 30, 2) := by decide +kernel
theorem dX0_becomeLike_12 : decode cX0_becomeLike 12 = .ok (.invokestatic 42, 3) := by decide +kernel
theorem dX0_becomeLike_15 : decode cX0_becomeLike 15 = .ok (.aload_n 1, 1) := by decide +kernel
theorem dX0_becomeLike_16 : decode cX0_becomeLike 16 = .ok (.getfield 15, 3) := by decide +kernel
theorem dX0_becomeLike_19 : decode cX0_becomeLike 19 = .ok (.iconst 0, 1) := by decide +kernel
theorem dX0_becomeLike_20 : decode cX0_becomeLike 20 = .ok (.aload_n 0, 1) := by decide +kernel
theorem dX0_becomeLike_21 : decode cX0_becomeLike 21 = .ok (.getfield 15, 3) := by decide +kernel
theorem dX0_becomeLike_24 : decode cX0_becomeLike 24 = .ok (.iconst 0, 1) := by decide +kernel
theorem dX0_becomeLike_25 : decode cX0_becomeLike 25 = .ok (.bipush 30, 2) := by decide +kernel
theorem dX0_becomeLike_27 : decode cX0_becomeLike 27 = .ok (.invokestatic 42, 3) := by decide +kernel
theorem dX0_becomeLike_30 : decode cX0_becomeLike 30 = .ok (.aload_n 1, 1) := by decide +kernel
theorem dX0_becomeLike_31 : decode cX0_becomeLike 31 = .ok (.getfield 18, 3) := by decide +kernel
theorem dX0_becomeLike_34 : decode cX0_becomeLike 34 = .ok (.iconst 0, 1) := by decide +kernel
theorem dX0_becomeLike_35 : decode cX0_becomeLike 35 = .ok (.aload_n 0, 1) := by decide +kernel
theorem dX0_becomeLike_36 : decode cX0_becomeLike 36 = .ok (.getfield 18, 3) := by decide +kernel
theorem dX0_becomeLike_39 : decode cX0_becomeLike 39 = .ok (.iconst 0, 1) := by decide +kernel
theorem dX0_becomeLike_40 : decode cX0_becomeLike 40 = .ok (.bipush 30, 2) := by decide +kernel
theorem dX0_becomeLike_42 : decode cX0_becomeLike 42 = .ok (.invokestatic 42, 3) := by decide +kernel
theorem dX0_becomeLike_45 : decode cX0_becomeLike 45 = .ok (.aload_n 1, 1) := by decide +kernel
theorem dX0_becomeLike_46 : decode cX0_becomeLike 46 = .ok (.getfield 21, 3) := by decide +kernel
theorem dX0_becomeLike_49 : decode cX0_becomeLike 49 = .ok (.iconst 0, 1) := by decide +kernel
theorem dX0_becomeLike_50 : decode cX0_becomeLike 50 = .ok (.aload_n 0, 1) := by decide +kernel
theorem dX0_becomeLike_51 : decode cX0_becomeLike 51 = .ok (.getfield 21, 3) := by decide +kernel
theorem dX0_becomeLike_54 : decode cX0_becomeLike 54 = .ok (.iconst 0, 1) := by decide +kernel
theorem dX0_becomeLike_55 : decode cX0_becomeLike 55 = .ok (.bipush 30, 2) := by decide +kernel
theorem dX0_becomeLike_57 : decode cX0_becomeLike 57 = .ok (.invokestatic 42, 3) := by decide +kernel
theorem dX0_becomeLike_60 : decode cX0_becomeLike 60 = .ok (.aload_n 1, 1) := by decide +kernel
theorem dX0_becomeLike_61 : decode cX0_becomeLike 61 = .ok (.getfield 24, 3) := by decide +kernel
theorem dX0_becomeLike_64 : decode cX0_becomeLike 64 = .ok (.iconst 0, 1) := by decide +kernel
theorem dX0_becomeLike_65 : decode cX0_becomeLike 65 = .ok (.aload_n 0, 1) := by decide +kernel
theorem dX0_becomeLike_66 : decode cX0_becomeLike 66 = .ok (.getfield 24, 3) := by decide +kernel
theorem dX0_becomeLike_69 : decode cX0_becomeLike 69 = .ok (.iconst 0, 1) := by decide +kernel
theorem dX0_becomeLike_70 : decode cX0_becomeLike 70 = .ok (.bipush 30, 2) := by decide +kernel
theorem dX0_becomeLike_72 : decode cX0_becomeLike 72 = .ok (.invokestatic 42, 3) := by decide +kernel
theorem dX0_becomeLike_75 : decode cX0_becomeLike 75 = .ok (.aload_n 1, 1) := by decide +kernel
theorem dX0_becomeLike_76 : decode cX0_becomeLike 76 = .ok (.getfield 27, 3) := by decide +kernel
theorem dX0_becomeLike_79 : decode cX0_becomeLike 79 = .ok (.iconst 0, 1) := by decide +kernel
theorem dX0_becomeLike_80 : decode cX0_becomeLike 80 = .ok (.aload_n 0, 1) := by decide +kernel
theorem dX0_becomeLike_81 : decode cX0_becomeLike 81 = .ok (.getfield 27, 3) := by decide +kernel
theorem dX0_becomeLike_84 : decode cX0_becomeLike 84 = .ok (.iconst 0, 1) := by decide +kernel
theorem dX0_becomeLike_85 : decode cX0_becomeLike 85 = .ok (.bipush 30, 2) := by decide +kernel
theorem dX0_becomeLike_87 : decode cX0_becomeLike 87 = .ok (.invokestatic 42, 3) := by decide +kernel
theorem dX0_becomeLike_90 : decode cX0_becomeLike 90 = .ok (.aload_n 0, 1) := by decide +kernel
theorem dX0_becomeLike_91 : decode cX0_becomeLike 91 = .ok (.aload_n 1, 1) := by decide +kernel
theorem dX0_becomeLike_92 : decode cX0_becomeLike 92 = .ok (.getfield 31, 3) := by decide +kernel
theorem dX0_becomeLike_95 : decode cX0_becomeLike 95 = .ok (.putfield 31, 3) := by decide +kernel
theorem dX0_becomeLike_98 : decode cX0_becomeLike 98 = .ok (.aload_n 0, 1) := by decide +kernel
theorem dX0_becomeLike_99 : decode cX0_becomeLike 99 = .ok (.aload_n 1, 1) := by decide +kernel
theorem dX0_becomeLike_100 : decode cX0_becomeLike 100 = .ok (.getfield 35, 3) := by decide +kernel
theorem dX0_becomeLike_103 : decode cX0_becomeLike 103 = .ok (.putfield 35, 3) := by decide +kernel
theorem dX0_becomeLike_106 : decode cX0_becomeLike 106 = .ok (.return_, 1) := by decide +kernel
theorem dX0_factOf_0 : decode cX0_factOf 0 = .ok (.iload_n 1, 1) := by decide +kernel
theorem dX0_factOf_1 : decode cX0_factOf 1 = .ok (.ifCond .lt 11, 3) := by decide +kernel
theorem dX0_factOf_4 : decode cX0_factOf 4 = .ok (.iload_n 1, 1) := by decide +kernel
theorem dX0_factOf_5 : decode cX0_factOf 5 = .ok (.aload_n 0, 1) := by decide +kernel
theorem dX0_factOf_6 : decode cX0_factOf 6 = .ok (.getfield 31, 3) := by decide +kernel
theorem dX0_factOf_9 : decode cX0_factOf 9 = .ok (.if_icmp .lt 6, 3) := by decide +kernel
theorem dX0_factOf_12 : decode cX0_factOf 12 = .ok (.bipush (-6), 2) := by decide +kernel
theorem dX0_factOf_14 : decode cX0_factOf 14 = .ok (.ireturn, 1) := by decide +kernel
theorem dX0_factOf_15 : decode cX0_factOf 15 = .ok (.iload_n 2, 1) := by decide +kernel
theorem dX0_factOf_16 : decode cX0_factOf 16 = .ok (.tableswitch 74 0 3 #[32, 39, 46, 53], 32) := by decide +kernel
theorem dX0_factOf_48 : decode cX0_factOf 48 = .ok (.aload_n 0, 1) := by decide +kernel
theorem dX0_factOf_49 : decode cX0_factOf 49 = .ok (.getfield 9, 3) := by decide +kernel
theorem dX0_factOf_52 : decode cX0_factOf 52 = .ok (.iload_n 1, 1) := by decide +kernel
theorem dX0_factOf_53 : decode cX0_factOf 53 = .ok (.iaload, 1) := by decide +kernel
theorem dX0_factOf_54 : decode cX0_factOf 54 = .ok (.ireturn, 1) := by decide +kernel
theorem dX0_factOf_55 : decode cX0_factOf 55 = .ok (.aload_n 0, 1) := by decide +kernel
theorem dX0_factOf_56 : decode cX0_factOf 56 = .ok (.getfield 15, 3) := by decide +kernel
theorem dX0_factOf_59 : decode cX0_factOf 59 = .ok (.iload_n 1, 1) := by decide +kernel
theorem dX0_factOf_60 : decode cX0_factOf 60 = .ok (.iaload, 1) := by decide +kernel
theorem dX0_factOf_61 : decode cX0_factOf 61 = .ok (.ireturn, 1) := by decide +kernel
theorem dX0_factOf_62 : decode cX0_factOf 62 = .ok (.aload_n 0, 1) := by decide +kernel
theorem dX0_factOf_63 : decode cX0_factOf 63 = .ok (.getfield 18, 3) := by decide +kernel
theorem dX0_factOf_66 : decode cX0_factOf 66 = .ok (.iload_n 1, 1) := by decide +kernel
theorem dX0_factOf_67 : decode cX0_factOf 67 = .ok (.iaload, 1) := by decide +kernel
theorem dX0_factOf_68 : decode cX0_factOf 68 = .ok (.ireturn, 1) := by decide +kernel
theorem dX0_factOf_69 : decode cX0_factOf 69 = .ok (.aload_n 0, 1) := by decide +kernel
theorem dX0_factOf_70 : decode cX0_factOf 70 = .ok (.getfield 9, 3) := by decide +kernel
theorem dX0_factOf_73 : decode cX0_factOf 73 = .ok (.iload_n 1, 1) := by decide +kernel
theorem dX0_factOf_74 : decode cX0_factOf 74 = .ok (.iaload, 1) := by decide +kernel
theorem dX0_factOf_75 : decode cX0_factOf 75 = .ok (.ifCond .ne 8, 3) := by decide +kernel
theorem dX0_factOf_78 : decode cX0_factOf 78 = .ok (.bipush (-6), 2) := by decide +kernel
theorem dX0_factOf_80 : decode cX0_factOf 80 = .ok (.goto 9, 3) := by decide +kernel
theorem dX0_factOf_83 : decode cX0_factOf 83 = .ok (.aload_n 0, 1) := by decide +kernel
theorem dX0_factOf_84 : decode cX0_factOf 84 = .ok (.getfield 21, 3) := by decide +kernel
theorem dX0_factOf_87 : decode cX0_factOf 87 = .ok (.iload_n 1, 1) := by decide +kernel
theorem dX0_factOf_88 : decode cX0_factOf 88 = .ok (.iaload, 1) := by decide +kernel
theorem dX0_factOf_89 : decode cX0_factOf 89 = .ok (.ireturn, 1) := by decide +kernel
theorem dX0_factOf_90 : decode cX0_factOf 90 = .ok (.aload_n 0, 1) := by decide +kernel
theorem dX0_factOf_91 : decode cX0_factOf 91 = .ok (.getfield 9, 3) := by decide +kernel
theorem dX0_factOf_94 : decode cX0_factOf 94 = .ok (.iload_n 1, 1) := by decide +kernel
theorem dX0_factOf_95 : decode cX0_factOf 95 = .ok (.iaload, 1) := by decide +kernel
theorem dX0_factOf_96 : decode cX0_factOf 96 = .ok (.ifCond .ne 8, 3) := by decide +kernel
theorem dX0_factOf_99 : decode cX0_factOf 99 = .ok (.bipush (-6), 2) := by decide +kernel
theorem dX0_factOf_101 : decode cX0_factOf 101 = .ok (.goto 9, 3) := by decide +kernel
theorem dX0_factOf_104 : decode cX0_factOf 104 = .ok (.aload_n 0, 1) := by decide +kernel
theorem dX0_factOf_105 : decode cX0_factOf 105 = .ok (.getfield 24, 3) := by decide +kernel
theorem dX0_factOf_108 : decode cX0_factOf 108 = .ok (.iload_n 1, 1) := by decide +kernel
theorem dX0_factOf_109 : decode cX0_factOf 109 = .ok (.iaload, 1) := by decide +kernel
theorem dX0_factOf_110 : decode cX0_factOf 110 = .ok (.ireturn, 1) := by decide +kernel
theorem dX0_firstYear_0 : decode cX0_firstYear 0 = .ok (.iload_n 1, 1) := by decide +kernel
theorem dX0_firstYear_1 : decode cX0_firstYear 1 = .ok (.ifCond .le 11, 3) := by decide +kernel
theorem dX0_firstYear_4 : decode cX0_firstYear 4 = .ok (.iload_n 1, 1) := by decide +kernel
theorem dX0_firstYear_5 : decode cX0_firstYear 5 = .ok (.aload_n 0, 1) := by decide +kernel
theorem dX0_firstYear_6 : decode cX0_firstYear 6 = .ok (.getfield 31, 3) := by decide +kernel
theorem dX0_firstYear_9 : decode cX0_firstYear 9 = .ok (.if_icmp .le 7, 3) := by decide +kernel
theorem dX0_firstYear_12 : decode cX0_firstYear 12 = .ok (.iconst 0, 1) := by decide +kernel
theorem dX0_firstYear_13 : decode cX0_firstYear 13 = .ok (.goto 11, 3) := by decide +kernel
theorem dX0_firstYear_16 : decode cX0_firstYear 16 = .ok (.aload_n 0, 1) := by decide +kernel
theorem dX0_firstYear_17 : decode cX0_firstYear 17 = .ok (.getfield 15, 3) := by decide +kernel
theorem dX0_firstYear_20 : decode cX0_firstYear 20 = .ok (.iload_n 1, 1) := by decide +kernel
theorem dX0_firstYear_21 : decode cX0_firstYear 21 = .ok (.iconst 1, 1) := by decide +kernel
theorem dX0_firstYear_22 : decode cX0_firstYear 22 = .ok (.isub, 1) := by decide +kernel
theorem dX0_firstYear_23 : decode cX0_firstYear 23 = .ok (.iaload, 1) := by decide +kernel
theorem dX0_firstYear_24 : decode cX0_firstYear 24 = .ok (.ireturn, 1) := by decide +kernel
theorem dX0_lastYear_0 : decode cX0_lastYear 0 = .ok (.iload_n 1, 1) := by decide +kernel
theorem dX0_lastYear_1 : decode cX0_lastYear 1 = .ok (.ifCond .lt 11, 3) := by decide +kernel
theorem dX0_lastYear_4 : decode cX0_lastYear 4 = .ok (.iload_n 1, 1) := by decide +kernel
theorem dX0_lastYear_5 : decode cX0_lastYear 5 = .ok (.aload_n 0, 1) := by decide +kernel
theorem dX0_lastYear_6 : decode cX0_lastYear 6 = .ok (.getfield 31, 3) := by decide +kernel
theorem dX0_lastYear_9 : decode cX0_lastYear 9 = .ok (.if_icmp .lt 9, 3) := by decide +kernel
theorem dX0_lastYear_12 : decode cX0_lastYear 12 = .ok (.sipush 999, 3) := by decide +kernel
theorem dX0_lastYear_15 : decode cX0_lastYear 15 = .ok (.goto 11, 3) := by decide +kernel
theorem dX0_lastYear_18 : decode cX0_lastYear 18 = .ok (.aload_n 0, 1) := by decide +kernel
theorem dX0_lastYear_19 : decode cX0_lastYear 19 = .ok (.getfield 15, 3) := by decide +kernel
theorem dX0_lastYear_22 : decode cX0_lastYear 22 = .ok (.iload_n 1, 1) := by decide +kernel
theorem dX0_lastYear_23 : decode cX0_lastYear 23 = .ok (.iaload, 1) := by decide +kernel
theorem dX0_lastYear_24 : decode cX0_lastYear 24 = .ok (.iconst 1, 1) := by decide +kernel
theorem dX0_lastYear_25 : decode cX0_lastYear 25 = .ok (.isub, 1) := by decide +kernel
theorem dX0_lastYear_26 : decode cX0_lastYear 26 = .ok (.ireturn, 1) := by decide +kernel
set_option maxRecDepth 20000 in
theorem ggX0_holdsInAYear_X0_firstYear : GoodIn wsX0_holdsInAYear wsX0_firstYear := goodIn_r _ [5, 6, 7, 12, 13, 14, 15, 16, 17, 18, 19] (by decide +kernel) (by decide +kernel)
set_option maxRecDepth 20000 in
theorem gX0_holdsInAYear_X0_firstYear : GoodIn wsX0_holdsInAYear (wsV RX0 48 RX0 yX0_firstYear wsX0_firstYear) := goodIn_app (goodIn_of _ (by decide +kernel)) ggX0_holdsInAYear_X0_firstYear
set_option maxRecDepth 20000 in
theorem ggX0_holdsInAYear_X0_lastYear : GoodIn wsX0_holdsInAYear wsX0_lastYear := goodIn_r _ [11, 6, 7, 12, 13, 14, 15, 16, 17, 18, 19] (by decide +kernel) (by decide +kernel)
set_option maxRecDepth 20000 in
theorem gX0_holdsInAYear_X0_lastYear : GoodIn wsX0_holdsInAYear (wsV RX0 52 RX0 yX0_lastYear wsX0_lastYear) := goodIn_app (goodIn_of _ (by decide +kernel)) ggX0_holdsInAYear_X0_lastYear
theorem dX0_holdsInAYear_0 : decode cX0_holdsInAYear 0 = .ok (.aload_n 0, 1) := by decide +kernel
theorem dX0_holdsInAYear_1 : decode cX0_holdsInAYear 1 = .ok (.iload_n 1, 1) := by decide +kernel
theorem dX0_holdsInAYear_2 : decode cX0_holdsInAYear 2 = .ok (.invokevirtual 48, 3) := by decide +kernel
theorem dX0_holdsInAYear_5 : decode cX0_holdsInAYear 5 = .ok (.aload_n 0, 1) := by decide +kernel
theorem dX0_holdsInAYear_6 : decode cX0_holdsInAYear 6 = .ok (.iload_n 1, 1) := by decide +kernel
theorem dX0_holdsInAYear_7 : decode cX0_holdsInAYear 7 = .ok (.invokevirtual 52, 3) := by decide +kernel
theorem dX0_holdsInAYear_10 : decode cX0_holdsInAYear 10 = .ok (.if_icmp .gt 7, 3) := by decide +kernel
theorem dX0_holdsInAYear_13 : decode cX0_holdsInAYear 13 = .ok (.iconst 1, 1) := by decide +kernel
theorem dX0_holdsInAYear_14 : decode cX0_holdsInAYear 14 = .ok (.goto 4, 3) := by decide +kernel
theorem dX0_holdsInAYear_17 : decode cX0_holdsInAYear 17 = .ok (.iconst 0, 1) := by decide +kernel
theorem dX0_holdsInAYear_18 : decode cX0_holdsInAYear 18 = .ok (.ireturn, 1) := by decide +kernel
theorem dX0_stageIn_0 : decode cX0_stageIn 0 = .ok (.iconst 0, 1) := by decide +kernel
theorem dX0_stageIn_1 : decode cX0_stageIn 1 = .ok (.istore_n 2, 1) := by decide +kernel
theorem dX0_stageIn_2 : decode cX0_stageIn 2 = .ok (.iload_n 2, 1) := by decide +kernel
theorem dX0_stageIn_3 : decode cX0_stageIn 3 = .ok (.aload_n 0, 1) := by decide +kernel
theorem dX0_stageIn_4 : decode cX0_stageIn 4 = .ok (.getfield 31, 3) := by decide +kernel
theorem dX0_stageIn_7 : decode cX0_stageIn 7 = .ok (.if_icmp .ge 19, 3) := by decide +kernel
theorem dX0_stageIn_10 : decode cX0_stageIn 10 = .ok (.aload_n 0, 1) := by decide +kernel
theorem dX0_stageIn_11 : decode cX0_stageIn 11 = .ok (.getfield 15, 3) := by decide +kernel
theorem dX0_stageIn_14 : decode cX0_stageIn 14 = .ok (.iload_n 2, 1) := by decide +kernel
theorem dX0_stageIn_15 : decode cX0_stageIn 15 = .ok (.iaload, 1) := by decide +kernel
theorem dX0_stageIn_16 : decode cX0_stageIn 16 = .ok (.iload_n 1, 1) := by decide +kernel
theorem dX0_stageIn_17 : decode cX0_stageIn 17 = .ok (.if_icmp .gt 9, 3) := by decide +kernel
theorem dX0_stageIn_20 : decode cX0_stageIn 20 = .ok (.iinc 2 1, 3) := by decide +kernel
theorem dX0_stageIn_23 : decode cX0_stageIn 23 = .ok (.goto (-21), 3) := by decide +kernel
theorem dX0_stageIn_26 : decode cX0_stageIn 26 = .ok (.iload_n 2, 1) := by decide +kernel
theorem dX0_stageIn_27 : decode cX0_stageIn 27 = .ok (.ireturn, 1) := by decide +kernel
theorem dX0_sitesAtFirst_0 : decode cX0_sitesAtFirst 0 = .ok (.iload_n 0, 1) := by decide +kernel
theorem dX0_sitesAtFirst_1 : decode cX0_sitesAtFirst 1 = .ok (.ifCond .ne 9, 3) := by decide +kernel
theorem dX0_sitesAtFirst_4 : decode cX0_sitesAtFirst 4 = .ok (.sipush 4095, 3) := by decide +kernel
theorem dX0_sitesAtFirst_7 : decode cX0_sitesAtFirst 7 = .ok (.goto 4, 3) := by decide +kernel
theorem dX0_sitesAtFirst_10 : decode cX0_sitesAtFirst 10 = .ok (.iconst 0, 1) := by decide +kernel
theorem dX0_sitesAtFirst_11 : decode cX0_sitesAtFirst 11 = .ok (.ireturn, 1) := by decide +kernel
set_option maxRecDepth 20000 in
theorem ggX0_nameAtFirst_X1_withLetter : GoodIn wsX0_nameAtFirst wsX1_withLetter := goodIn_r _ [4] (by decide +kernel) (by decide +kernel)
set_option maxRecDepth 20000 in
theorem gX0_nameAtFirst_X1_withLetter : GoodIn wsX0_nameAtFirst (va_wsS RX0 55 yX1_withLetter wsX1_withLetter) := goodIn_app (goodIn_of _ (by decide +kernel)) ggX0_nameAtFirst_X1_withLetter
theorem dX0_nameAtFirst_0 : decode cX0_nameAtFirst 0 = .ok (.iload_n 0, 1) := by decide +kernel
theorem dX0_nameAtFirst_1 : decode cX0_nameAtFirst 1 = .ok (.ifCond .ne 13, 3) := by decide +kernel
theorem dX0_nameAtFirst_4 : decode cX0_nameAtFirst 4 = .ok (.lconst 0, 1) := by decide +kernel
theorem dX0_nameAtFirst_5 : decode cX0_nameAtFirst 5 = .ok (.iconst 0, 1) := by decide +kernel
theorem dX0_nameAtFirst_6 : decode cX0_nameAtFirst 6 = .ok (.bipush 97, 2) := by decide +kernel
theorem dX0_nameAtFirst_8 : decode cX0_nameAtFirst 8 = .ok (.invokestatic 55, 3) := by decide +kernel
theorem dX0_nameAtFirst_11 : decode cX0_nameAtFirst 11 = .ok (.goto 4, 3) := by decide +kernel
theorem dX0_nameAtFirst_14 : decode cX0_nameAtFirst 14 = .ok (.lconst 0, 1) := by decide +kernel
theorem dX0_nameAtFirst_15 : decode cX0_nameAtFirst 15 = .ok (.lreturn, 1) := by decide +kernel
theorem dX0_sitesThrough_0 : decode cX0_sitesThrough 0 = .ok (.iload_n 1, 1) := by decide +kernel
theorem dX0_sitesThrough_1 : decode cX0_sitesThrough 1 = .ok (.ifCond .lt 11, 3) := by decide +kernel
theorem dX0_sitesThrough_4 : decode cX0_sitesThrough 4 = .ok (.iload_n 1, 1) := by decide +kernel
theorem dX0_sitesThrough_5 : decode cX0_sitesThrough 5 = .ok (.aload_n 0, 1) := by decide +kernel
theorem dX0_sitesThrough_6 : decode cX0_sitesThrough 6 = .ok (.getfield 31, 3) := by decide +kernel
theorem dX0_sitesThrough_9 : decode cX0_sitesThrough 9 = .ok (.if_icmp .lt 5, 3) := by decide +kernel
theorem dX0_sitesThrough_12 : decode cX0_sitesThrough 12 = .ok (.iload_n 3, 1) := by decide +kernel
theorem dX0_sitesThrough_13 : decode cX0_sitesThrough 13 = .ok (.ireturn, 1) := by decide +kernel
theorem dX0_sitesThrough_14 : decode cX0_sitesThrough 14 = .ok (.aload_n 0, 1) := by decide +kernel
theorem dX0_sitesThrough_15 : decode cX0_sitesThrough 15 = .ok (.getfield 18, 3) := by decide +kernel
theorem dX0_sitesThrough_18 : decode cX0_sitesThrough 18 = .ok (.iload_n 1, 1) := by decide +kernel
theorem dX0_sitesThrough_19 : decode cX0_sitesThrough 19 = .ok (.iaload, 1) := by decide +kernel
theorem dX0_sitesThrough_20 : decode cX0_sitesThrough 20 = .ok (.iload_n 2, 1) := by decide +kernel
theorem dX0_sitesThrough_21 : decode cX0_sitesThrough 21 = .ok (.if_icmp .ne 14, 3) := by decide +kernel
theorem dX0_sitesThrough_24 : decode cX0_sitesThrough 24 = .ok (.iload_n 3, 1) := by decide +kernel
theorem dX0_sitesThrough_25 : decode cX0_sitesThrough 25 = .ok (.aload_n 0, 1) := by decide +kernel
theorem dX0_sitesThrough_26 : decode cX0_sitesThrough 26 = .ok (.getfield 21, 3) := by decide +kernel
theorem dX0_sitesThrough_29 : decode cX0_sitesThrough 29 = .ok (.iload_n 1, 1) := by decide +kernel
theorem dX0_sitesThrough_30 : decode cX0_sitesThrough 30 = .ok (.iaload, 1) := by decide +kernel
theorem dX0_sitesThrough_31 : decode cX0_sitesThrough 31 = .ok (.iconst (-1), 1) := by decide +kernel
theorem dX0_sitesThrough_32 : decode cX0_sitesThrough 32 = .ok (.ixor, 1) := by decide +kernel
theorem dX0_sitesThrough_33 : decode cX0_sitesThrough 33 = .ok (.iand, 1) := by decide +kernel
theorem dX0_sitesThrough_34 : decode cX0_sitesThrough 34 = .ok (.ireturn, 1) := by decide +kernel
theorem dX0_sitesThrough_35 : decode cX0_sitesThrough 35 = .ok (.aload_n 0, 1) := by decide +kernel
theorem dX0_sitesThrough_36 : decode cX0_sitesThrough 36 = .ok (.getfield 24, 3) := by decide +kernel
theorem dX0_sitesThrough_39 : decode cX0_sitesThrough 39 = .ok (.iload_n 1, 1) := by decide +kernel
theorem dX0_sitesThrough_40 : decode cX0_sitesThrough 40 = .ok (.iaload, 1) := by decide +kernel
theorem dX0_sitesThrough_41 : decode cX0_sitesThrough 41 = .ok (.iload_n 2, 1) := by decide +kernel
theorem dX0_sitesThrough_42 : decode cX0_sitesThrough 42 = .ok (.if_icmp .ne 14, 3) := by decide +kernel
theorem dX0_sitesThrough_45 : decode cX0_sitesThrough 45 = .ok (.iload_n 3, 1) := by decide +kernel
theorem dX0_sitesThrough_46 : decode cX0_sitesThrough 46 = .ok (.aload_n 0, 1) := by decide +kernel
theorem dX0_sitesThrough_47 : decode cX0_sitesThrough 47 = .ok (.getfield 21, 3) := by decide +kernel
theorem dX0_sitesThrough_50 : decode cX0_sitesThrough 50 = .ok (.iload_n 1, 1) := by decide +kernel
theorem dX0_sitesThrough_51 : decode cX0_sitesThrough 51 = .ok (.iaload, 1) := by decide +kernel
theorem dX0_sitesThrough_52 : decode cX0_sitesThrough 52 = .ok (.ior, 1) := by decide +kernel
theorem dX0_sitesThrough_53 : decode cX0_sitesThrough 53 = .ok (.goto 4, 3) := by decide +kernel
theorem dX0_sitesThrough_56 : decode cX0_sitesThrough 56 = .ok (.iload_n 3, 1) := by decide +kernel
theorem dX0_sitesThrough_57 : decode cX0_sitesThrough 57 = .ok (.ireturn, 1) := by decide +kernel
theorem dX0_nameThrough_0 : decode cX0_nameThrough 0 = .ok (.iload_n 1, 1) := by decide +kernel
theorem dX0_nameThrough_1 : decode cX0_nameThrough 1 = .ok (.ifCond .lt 11, 3) := by decide +kernel
theorem dX0_nameThrough_4 : decode cX0_nameThrough 4 = .ok (.iload_n 1, 1) := by decide +kernel
theorem dX0_nameThrough_5 : decode cX0_nameThrough 5 = .ok (.aload_n 0, 1) := by decide +kernel
theorem dX0_nameThrough_6 : decode cX0_nameThrough 6 = .ok (.getfield 31, 3) := by decide +kernel
theorem dX0_nameThrough_9 : decode cX0_nameThrough 9 = .ok (.if_icmp .lt 5, 3) := by decide +kernel
theorem dX0_nameThrough_12 : decode cX0_nameThrough 12 = .ok (.lload_n 3, 1) := by decide +kernel
theorem dX0_nameThrough_13 : decode cX0_nameThrough 13 = .ok (.lreturn, 1) := by decide +kernel
theorem dX0_nameThrough_14 : decode cX0_nameThrough 14 = .ok (.aload_n 0, 1) := by decide +kernel
theorem dX0_nameThrough_15 : decode cX0_nameThrough 15 = .ok (.getfield 9, 3) := by decide +kernel
theorem dX0_nameThrough_18 : decode cX0_nameThrough 18 = .ok (.iload_n 1, 1) := by decide +kernel
theorem dX0_nameThrough_19 : decode cX0_nameThrough 19 = .ok (.iaload, 1) := by decide +kernel
theorem dX0_nameThrough_20 : decode cX0_nameThrough 20 = .ok (.ifCond .ne 20, 3) := by decide +kernel
theorem dX0_nameThrough_23 : decode cX0_nameThrough 23 = .ok (.aload_n 0, 1) := by decide +kernel
theorem dX0_nameThrough_24 : decode cX0_nameThrough 24 = .ok (.getfield 18, 3) := by decide +kernel
theorem dX0_nameThrough_27 : decode cX0_nameThrough 27 = .ok (.iload_n 1, 1) := by decide +kernel
theorem dX0_nameThrough_28 : decode cX0_nameThrough 28 = .ok (.iaload, 1) := by decide +kernel
theorem dX0_nameThrough_29 : decode cX0_nameThrough 29 = .ok (.iload_n 2, 1) := by decide +kernel
theorem dX0_nameThrough_30 : decode cX0_nameThrough 30 = .ok (.if_icmp .ne 10, 3) := by decide +kernel
theorem dX0_nameThrough_33 : decode cX0_nameThrough 33 = .ok (.aload_n 0, 1) := by decide +kernel
theorem dX0_nameThrough_34 : decode cX0_nameThrough 34 = .ok (.getfield 27, 3) := by decide +kernel
theorem dX0_nameThrough_37 : decode cX0_nameThrough 37 = .ok (.iload_n 1, 1) := by decide +kernel
theorem dX0_nameThrough_38 : decode cX0_nameThrough 38 = .ok (.laload, 1) := by decide +kernel
theorem dX0_nameThrough_39 : decode cX0_nameThrough 39 = .ok (.lreturn, 1) := by decide +kernel
theorem dX0_nameThrough_40 : decode cX0_nameThrough 40 = .ok (.aload_n 0, 1) := by decide +kernel
theorem dX0_nameThrough_41 : decode cX0_nameThrough 41 = .ok (.getfield 9, 3) := by decide +kernel
theorem dX0_nameThrough_44 : decode cX0_nameThrough 44 = .ok (.iload_n 1, 1) := by decide +kernel
theorem dX0_nameThrough_45 : decode cX0_nameThrough 45 = .ok (.iaload, 1) := by decide +kernel
theorem dX0_nameThrough_46 : decode cX0_nameThrough 46 = .ok (.iconst 1, 1) := by decide +kernel
theorem dX0_nameThrough_47 : decode cX0_nameThrough 47 = .ok (.if_icmp .ne 22, 3) := by decide +kernel
theorem dX0_nameThrough_50 : decode cX0_nameThrough 50 = .ok (.aload_n 0, 1) := by decide +kernel
theorem dX0_nameThrough_51 : decode cX0_nameThrough 51 = .ok (.getfield 24, 3) := by decide +kernel
theorem dX0_nameThrough_54 : decode cX0_nameThrough 54 = .ok (.iload_n 1, 1) := by decide +kernel
theorem dX0_nameThrough_55 : decode cX0_nameThrough 55 = .ok (.iaload, 1) := by decide +kernel
theorem dX0_nameThrough_56 : decode cX0_nameThrough 56 = .ok (.iload_n 2, 1) := by decide +kernel
theorem dX0_nameThrough_57 : decode cX0_nameThrough 57 = .ok (.if_icmp .ne 12, 3) := by decide +kernel
theorem dX0_nameThrough_60 : decode cX0_nameThrough 60 = .ok (.aload_n 0, 1) := by decide +kernel
theorem dX0_nameThrough_61 : decode cX0_nameThrough 61 = .ok (.getfield 27, 3) := by decide +kernel
theorem dX0_nameThrough_64 : decode cX0_nameThrough 64 = .ok (.iload_n 1, 1) := by decide +kernel
theorem dX0_nameThrough_65 : decode cX0_nameThrough 65 = .ok (.laload, 1) := by decide +kernel
theorem dX0_nameThrough_66 : decode cX0_nameThrough 66 = .ok (.goto 4, 3) := by decide +kernel
theorem dX0_nameThrough_69 : decode cX0_nameThrough 69 = .ok (.lload_n 3, 1) := by decide +kernel
theorem dX0_nameThrough_70 : decode cX0_nameThrough 70 = .ok (.lreturn, 1) := by decide +kernel
set_option maxRecDepth 20000 in
theorem ggX0_sitesBehind_X0_sitesAtFirst : GoodIn wsX0_sitesBehind wsX0_sitesAtFirst := goodIn_r _ [5] (by decide +kernel) (by decide +kernel)
set_option maxRecDepth 20000 in
theorem gX0_sitesBehind_X0_sitesAtFirst : GoodIn wsX0_sitesBehind (va_wsS RX0 61 yX0_sitesAtFirst wsX0_sitesAtFirst) := goodIn_app (goodIn_of _ (by decide +kernel)) ggX0_sitesBehind_X0_sitesAtFirst
set_option maxRecDepth 20000 in
theorem ggX0_sitesBehind_X0_sitesThrough : GoodIn wsX0_sitesBehind wsX0_sitesThrough := goodIn_r _ [9, 1, 10, 11, 12, 13, 14, 15, 16, 17, 18, 19, 20] (by decide +kernel) (by decide +kernel)
set_option maxRecDepth 20000 in
theorem gX0_sitesBehind_X0_sitesThrough : GoodIn wsX0_sitesBehind (wsV RX0 64 RX0 yX0_sitesThrough wsX0_sitesThrough) := goodIn_app (goodIn_of _ (by decide +kernel)) ggX0_sitesBehind_X0_sitesThrough
theorem dX0_sitesBehind_0 : decode cX0_sitesBehind 0 = .ok (.iload_n 1, 1) := by decide +kernel
theorem dX0_sitesBehind_1 : decode cX0_sitesBehind 1 = .ok (.invokestatic 61, 3) := by decide +kernel
theorem dX0_sitesBehind_4 : decode cX0_sitesBehind 4 = .ok (.istore_n 3, 1) := by decide +kernel
theorem dX0_sitesBehind_5 : decode cX0_sitesBehind 5 = .ok (.iconst 0, 1) := by decide +kernel
theorem dX0_sitesBehind_6 : decode cX0_sitesBehind 6 = .ok (.istore 4, 2) := by decide +kernel
theorem dX0_sitesBehind_8 : decode cX0_sitesBehind 8 = .ok (.iload 4, 2) := by decide +kernel
theorem dX0_sitesBehind_10 : decode cX0_sitesBehind 10 = .ok (.iload_n 2, 1) := by decide +kernel
theorem dX0_sitesBehind_11 : decode cX0_sitesBehind 11 = .ok (.if_icmp .ge 27, 3) := by decide +kernel
theorem dX0_sitesBehind_14 : decode cX0_sitesBehind 14 = .ok (.iload 4, 2) := by decide +kernel
theorem dX0_sitesBehind_16 : decode cX0_sitesBehind 16 = .ok (.aload_n 0, 1) := by decide +kernel
theorem dX0_sitesBehind_17 : decode cX0_sitesBehind 17 = .ok (.getfield 31, 3) := by decide +kernel
theorem dX0_sitesBehind_20 : decode cX0_sitesBehind 20 = .ok (.if_icmp .ge 18, 3) := by decide +kernel
theorem dX0_sitesBehind_23 : decode cX0_sitesBehind 23 = .ok (.aload_n 0, 1) := by decide +kernel
theorem dX0_sitesBehind_24 : decode cX0_sitesBehind 24 = .ok (.iload 4, 2) := by decide +kernel
theorem dX0_sitesBehind_26 : decode cX0_sitesBehind 26 = .ok (.iload_n 1, 1) := by decide +kernel
theorem dX0_sitesBehind_27 : decode cX0_sitesBehind 27 = .ok (.iload_n 3, 1) := by decide +kernel
theorem dX0_sitesBehind_28 : decode cX0_sitesBehind 28 = .ok (.invokevirtual 64, 3) := by decide +kernel
theorem dX0_sitesBehind_31 : decode cX0_sitesBehind 31 = .ok (.istore_n 3, 1) := by decide +kernel
theorem dX0_sitesBehind_32 : decode cX0_sitesBehind 32 = .ok (.iinc 4 1, 3) := by decide +kernel
theorem dX0_sitesBehind_35 : decode cX0_sitesBehind 35 = .ok (.goto (-27), 3) := by decide +kernel
theorem dX0_sitesBehind_38 : decode cX0_sitesBehind 38 = .ok (.iload_n 3, 1) := by decide +kernel
theorem dX0_sitesBehind_39 : decode cX0_sitesBehind 39 = .ok (.ireturn, 1) := by decide +kernel
set_option maxRecDepth 20000 in
theorem ggX0_nameBehind_X0_nameAtFirst : GoodIn wsX0_nameBehind wsX0_nameAtFirst := goodIn_r _ [5, 6, 7, 8, 9] (by decide +kernel) (by decide +kernel)
set_option maxRecDepth 20000 in
theorem gX0_nameBehind_X0_nameAtFirst : GoodIn wsX0_nameBehind (va_wsS RX0 68 yX0_nameAtFirst wsX0_nameAtFirst) := goodIn_app (goodIn_of _ (by decide +kernel)) ggX0_nameBehind_X0_nameAtFirst
set_option maxRecDepth 20000 in
theorem ggX0_nameBehind_X0_nameThrough : GoodIn wsX0_nameBehind wsX0_nameThrough := goodIn_r _ [13, 1, 14, 15, 16, 17, 18, 19, 20, 21, 22, 23, 24, 25] (by decide +kernel) (by decide +kernel)
set_option maxRecDepth 20000 in
theorem gX0_nameBehind_X0_nameThrough : GoodIn wsX0_nameBehind (wsV RX0 72 RX0 yX0_nameThrough wsX0_nameThrough) := goodIn_app (goodIn_of _ (by decide +kernel)) ggX0_nameBehind_X0_nameThrough
theorem dX0_nameBehind_0 : decode cX0_nameBehind 0 = .ok (.iload_n 1, 1) := by decide +kernel
theorem dX0_nameBehind_1 : decode cX0_nameBehind 1 = .ok (.invokestatic 68, 3) := by decide +kernel
theorem dX0_nameBehind_4 : decode cX0_nameBehind 4 = .ok (.lstore_n 3, 1) := by decide +kernel
theorem dX0_nameBehind_5 : decode cX0_nameBehind 5 = .ok (.iconst 0, 1) := by decide +kernel
theorem dX0_nameBehind_6 : decode cX0_nameBehind 6 = .ok (.istore 5, 2) := by decide +kernel
theorem dX0_nameBehind_8 : decode cX0_nameBehind 8 = .ok (.iload 5, 2) := by decide +kernel
theorem dX0_nameBehind_10 : decode cX0_nameBehind 10 = .ok (.iload_n 2, 1) := by decide +kernel
theorem dX0_nameBehind_11 : decode cX0_nameBehind 11 = .ok (.if_icmp .ge 27, 3) := by decide +kernel
theorem dX0_nameBehind_14 : decode cX0_nameBehind 14 = .ok (.iload 5, 2) := by decide +kernel
theorem dX0_nameBehind_16 : decode cX0_nameBehind 16 = .ok (.aload_n 0, 1) := by decide +kernel
theorem dX0_nameBehind_17 : decode cX0_nameBehind 17 = .ok (.getfield 31, 3) := by decide +kernel
theorem dX0_nameBehind_20 : decode cX0_nameBehind 20 = .ok (.if_icmp .ge 18, 3) := by decide +kernel
theorem dX0_nameBehind_23 : decode cX0_nameBehind 23 = .ok (.aload_n 0, 1) := by decide +kernel
theorem dX0_nameBehind_24 : decode cX0_nameBehind 24 = .ok (.iload 5, 2) := by decide +kernel
theorem dX0_nameBehind_26 : decode cX0_nameBehind 26 = .ok (.iload_n 1, 1) := by decide +kernel
theorem dX0_nameBehind_27 : decode cX0_nameBehind 27 = .ok (.lload_n 3, 1) := by decide +kernel
theorem dX0_nameBehind_28 : decode cX0_nameBehind 28 = .ok (.invokevirtual 72, 3) := by decide +kernel
theorem dX0_nameBehind_31 : decode cX0_nameBehind 31 = .ok (.lstore_n 3, 1) := by decide +kernel
theorem dX0_nameBehind_32 : decode cX0_nameBehind 32 = .ok (.iinc 5 1, 3) := by decide +kernel
theorem dX0_nameBehind_35 : decode cX0_nameBehind 35 = .ok (.goto (-27), 3) := by decide +kernel
theorem dX0_nameBehind_38 : decode cX0_nameBehind 38 = .ok (.lload_n 3, 1) := by decide +kernel
theorem dX0_nameBehind_39 : decode cX0_nameBehind 39 = .ok (.lreturn, 1) := by decide +kernel
set_option maxRecDepth 20000 in
theorem ggX0_ownerBehind_X2_has : GoodIn wsX0_ownerBehind wsX2_has := goodIn_r _ [6] (by decide +kernel) (by decide +kernel)
set_option maxRecDepth 20000 in
theorem gX0_ownerBehind_X2_has_n76 : GoodIn wsX0_ownerBehind (wsX2_has) := ggX0_ownerBehind_X2_has
theorem dX0_ownerBehind_0 : decode cX0_ownerBehind 0 = .ok (.iconst 0, 1) := by decide +kernel
theorem dX0_ownerBehind_1 : decode cX0_ownerBehind 1 = .ok (.istore_n 3, 1) := by decide +kernel
theorem dX0_ownerBehind_2 : decode cX0_ownerBehind 2 = .ok (.iconst 0, 1) := by decide +kernel
theorem dX0_ownerBehind_3 : decode cX0_ownerBehind 3 = .ok (.istore 4, 2) := by decide +kernel
theorem dX0_ownerBehind_5 : decode cX0_ownerBehind 5 = .ok (.iload 4, 2) := by decide +kernel
theorem dX0_ownerBehind_7 : decode cX0_ownerBehind 7 = .ok (.iload_n 2, 1) := by decide +kernel
theorem dX0_ownerBehind_8 : decode cX0_ownerBehind 8 = .ok (.if_icmp .ge 40, 3) := by decide +kernel
theorem dX0_ownerBehind_11 : decode cX0_ownerBehind 11 = .ok (.iload 4, 2) := by decide +kernel
theorem dX0_ownerBehind_13 : decode cX0_ownerBehind 13 = .ok (.aload_n 0, 1) := by decide +kernel
theorem dX0_ownerBehind_14 : decode cX0_ownerBehind 14 = .ok (.getfield 31, 3) := by decide +kernel
theorem dX0_ownerBehind_17 : decode cX0_ownerBehind 17 = .ok (.if_icmp .ge 31, 3) := by decide +kernel
theorem dX0_ownerBehind_20 : decode cX0_ownerBehind 20 = .ok (.aload_n 0, 1) := by decide +kernel
theorem dX0_ownerBehind_21 : decode cX0_ownerBehind 21 = .ok (.getfield 21, 3) := by decide +kernel
theorem dX0_ownerBehind_24 : decode cX0_ownerBehind 24 = .ok (.iload 4, 2) := by decide +kernel
theorem dX0_ownerBehind_26 : decode cX0_ownerBehind 26 = .ok (.iaload, 1) := by decide +kernel
theorem dX0_ownerBehind_27 : decode cX0_ownerBehind 27 = .ok (.iload_n 1, 1) := by decide +kernel
theorem dX0_ownerBehind_28 : decode cX0_ownerBehind 28 = .ok (.invokestatic 76, 3) := by decide +kernel
theorem dX0_ownerBehind_31 : decode cX0_ownerBehind 31 = .ok (.ifCond .eq 11, 3) := by decide +kernel
theorem dX0_ownerBehind_34 : decode cX0_ownerBehind 34 = .ok (.aload_n 0, 1) := by decide +kernel
theorem dX0_ownerBehind_35 : decode cX0_ownerBehind 35 = .ok (.getfield 24, 3) := by decide +kernel
theorem dX0_ownerBehind_38 : decode cX0_ownerBehind 38 = .ok (.iload 4, 2) := by decide +kernel
theorem dX0_ownerBehind_40 : decode cX0_ownerBehind 40 = .ok (.iaload, 1) := by decide +kernel
theorem dX0_ownerBehind_41 : decode cX0_ownerBehind 41 = .ok (.istore_n 3, 1) := by decide +kernel
theorem dX0_ownerBehind_42 : decode cX0_ownerBehind 42 = .ok (.iinc 4 1, 3) := by decide +kernel
theorem dX0_ownerBehind_45 : decode cX0_ownerBehind 45 = .ok (.goto (-40), 3) := by decide +kernel
theorem dX0_ownerBehind_48 : decode cX0_ownerBehind 48 = .ok (.iload_n 3, 1) := by decide +kernel
theorem dX0_ownerBehind_49 : decode cX0_ownerBehind 49 = .ok (.ireturn, 1) := by decide +kernel
set_option maxRecDepth 20000 in
theorem ggX0_sitesNow_X0_sitesBehind : GoodIn wsX0_sitesNow wsX0_sitesBehind := goodIn_r _ [6, 1, 7, 8, 5, 9, 10, 11, 12, 13, 14, 15, 16, 17, 18, 19, 20, 21, 22, 23, 24] (by decide +kernel) (by decide +kernel)
set_option maxRecDepth 20000 in
theorem gX0_sitesNow_X0_sitesBehind : GoodIn wsX0_sitesNow (wsV RX0 80 RX0 yX0_sitesBehind wsX0_sitesBehind) := goodIn_app (goodIn_of _ (by decide +kernel)) ggX0_sitesNow_X0_sitesBehind
theorem dX0_sitesNow_0 : decode cX0_sitesNow 0 = .ok (.aload_n 0, 1) := by decide +kernel
theorem dX0_sitesNow_1 : decode cX0_sitesNow 1 = .ok (.iload_n 1, 1) := by decide +kernel
theorem dX0_sitesNow_2 : decode cX0_sitesNow 2 = .ok (.aload_n 0, 1) := by decide +kernel
theorem dX0_sitesNow_3 : decode cX0_sitesNow 3 = .ok (.getfield 31, 3) := by decide +kernel
theorem dX0_sitesNow_6 : decode cX0_sitesNow 6 = .ok (.invokevirtual 80, 3) := by decide +kernel
theorem dX0_sitesNow_9 : decode cX0_sitesNow 9 = .ok (.ireturn, 1) := by decide +kernel
set_option maxRecDepth 20000 in
theorem ggX0_nameIn_X0_stageIn : GoodIn wsX0_nameIn wsX0_stageIn := goodIn_r _ [5, 6, 7, 39, 40, 41, 42, 43, 44, 45, 46] (by decide +kernel) (by decide +kernel)
set_option maxRecDepth 20000 in
theorem gX0_nameIn_X0_stageIn : GoodIn wsX0_nameIn (wsV RX0 84 RX0 yX0_stageIn wsX0_stageIn) := goodIn_app (goodIn_of _ (by decide +kernel)) ggX0_nameIn_X0_stageIn
set_option maxRecDepth 20000 in
theorem ggX0_nameIn_X0_sitesBehind : GoodIn wsX0_nameIn wsX0_sitesBehind := goodIn_r _ [11, 6, 12, 13, 4, 14, 15, 16, 17, 18, 19, 20, 21, 39, 40, 41, 42, 43, 44, 45, 46] (by decide +kernel) (by decide +kernel)
set_option maxRecDepth 20000 in
theorem gX0_nameIn_X0_sitesBehind : GoodIn wsX0_nameIn (wsV RX0 80 RX0 yX0_sitesBehind wsX0_sitesBehind) := goodIn_app (goodIn_of _ (by decide +kernel)) ggX0_nameIn_X0_sitesBehind
set_option maxRecDepth 20000 in
theorem ggX0_nameIn_X0_nameBehind : GoodIn wsX0_nameIn wsX0_nameBehind := goodIn_r _ [25, 6, 26, 27, 4, 28, 29, 30, 31, 32, 33, 34, 35, 36, 37, 19, 38, 21, 39, 40, 41, 42, 43, 44, 45, 46] (by decide +kernel) (by decide +kernel)
set_option maxRecDepth 20000 in
theorem gX0_nameIn_X0_nameBehind : GoodIn wsX0_nameIn (wsV RX0 87 RX0 yX0_nameBehind wsX0_nameBehind) := goodIn_app (goodIn_of _ (by decide +kernel)) ggX0_nameIn_X0_nameBehind
theorem dX0_nameIn_0 : decode cX0_nameIn 0 = .ok (.aload_n 0, 1) := by decide +kernel
theorem dX0_nameIn_1 : decode cX0_nameIn 1 = .ok (.iload_n 2, 1) := by decide +kernel
theorem dX0_nameIn_2 : decode cX0_nameIn 2 = .ok (.invokevirtual 84, 3) := by decide +kernel
theorem dX0_nameIn_5 : decode cX0_nameIn 5 = .ok (.istore_n 3, 1) := by decide +kernel
theorem dX0_nameIn_6 : decode cX0_nameIn 6 = .ok (.aload_n 0, 1) := by decide +kernel
theorem dX0_nameIn_7 : decode cX0_nameIn 7 = .ok (.iload_n 1, 1) := by decide +kernel
theorem dX0_nameIn_8 : decode cX0_nameIn 8 = .ok (.iload_n 3, 1) := by decide +kernel
theorem dX0_nameIn_9 : decode cX0_nameIn 9 = .ok (.invokevirtual 80, 3) := by decide +kernel
theorem dX0_nameIn_12 : decode cX0_nameIn 12 = .ok (.ifCond .ne 7, 3) := by decide +kernel
theorem dX0_nameIn_15 : decode cX0_nameIn 15 = .ok (.lconst 0, 1) := by decide +kernel
theorem dX0_nameIn_16 : decode cX0_nameIn 16 = .ok (.goto 9, 3) := by decide +kernel
theorem dX0_nameIn_19 : decode cX0_nameIn 19 = .ok (.aload_n 0, 1) := by decide +kernel
theorem dX0_nameIn_20 : decode cX0_nameIn 20 = .ok (.iload_n 1, 1) := by decide +kernel
theorem dX0_nameIn_21 : decode cX0_nameIn 21 = .ok (.iload_n 3, 1) := by decide +kernel
theorem dX0_nameIn_22 : decode cX0_nameIn 22 = .ok (.invokevirtual 87, 3) := by decide +kernel
theorem dX0_nameIn_25 : decode cX0_nameIn 25 = .ok (.lreturn, 1) := by decide +kernel
set_option maxRecDepth 20000 in
theorem ggX0_nameAt_X0_ownerBehind : GoodIn wsX0_nameAt wsX0_ownerBehind := goodIn_r _ [5, 6, 7, 8, 9, 10, 11, 30, 31, 32, 33, 34, 35, 36, 37] (by decide +kernel) (by decide +kernel)
set_option maxRecDepth 20000 in
theorem gX0_nameAt_X0_ownerBehind : GoodIn wsX0_nameAt (wsV RX0 91 RX0 yX0_ownerBehind wsX0_ownerBehind) := goodIn_app (goodIn_of _ (by decide +kernel)) ggX0_nameAt_X0_ownerBehind
set_option maxRecDepth 20000 in
theorem ggX0_nameAt_X0_nameBehind : GoodIn wsX0_nameAt wsX0_nameBehind := goodIn_r _ [15, 6, 16, 17, 4, 18, 19, 20, 21, 22, 23, 24, 25, 26, 27, 28, 29, 8, 30, 31, 32, 33, 34, 35, 36, 37] (by decide +kernel) (by decide +kernel)
set_option maxRecDepth 20000 in
theorem gX0_nameAt_X0_nameBehind : GoodIn wsX0_nameAt (wsV RX0 87 RX0 yX0_nameBehind wsX0_nameBehind) := goodIn_app (goodIn_of _ (by decide +kernel)) ggX0_nameAt_X0_nameBehind
theorem dX0_nameAt_0 : decode cX0_nameAt 0 = .ok (.aload_n 0, 1) := by decide +kernel
theorem dX0_nameAt_1 : decode cX0_nameAt 1 = .ok (.aload_n 0, 1) := by decide +kernel
theorem dX0_nameAt_2 : decode cX0_nameAt 2 = .ok (.iload_n 1, 1) := by decide +kernel
theorem dX0_nameAt_3 : decode cX0_nameAt 3 = .ok (.iload_n 2, 1) := by decide +kernel
theorem dX0_nameAt_4 : decode cX0_nameAt 4 = .ok (.invokevirtual 91, 3) := by decide +kernel
theorem dX0_nameAt_7 : decode cX0_nameAt 7 = .ok (.iload_n 2, 1) := by decide +kernel
theorem dX0_nameAt_8 : decode cX0_nameAt 8 = .ok (.invokevirtual 87, 3) := by decide +kernel
theorem dX0_nameAt_11 : decode cX0_nameAt 11 = .ok (.lreturn, 1) := by decide +kernel
theorem dX0_eventsOf_0 : decode cX0_eventsOf 0 = .ok (.iconst 0, 1) := by decide +kernel
theorem dX0_eventsOf_1 : decode cX0_eventsOf 1 = .ok (.istore_n 2, 1) := by decide +kernel
theorem dX0_eventsOf_2 : decode cX0_eventsOf 2 = .ok (.iconst 0, 1) := by decide +kernel
theorem dX0_eventsOf_3 : decode cX0_eventsOf 3 = .ok (.istore_n 3, 1) := by decide +kernel
theorem dX0_eventsOf_4 : decode cX0_eventsOf 4 = .ok (.iload_n 3, 1) := by decide +kernel
theorem dX0_eventsOf_5 : decode cX0_eventsOf 5 = .ok (.aload_n 0, 1) := by decide +kernel
theorem dX0_eventsOf_6 : decode cX0_eventsOf 6 = .ok (.getfield 31, 3) := by decide +kernel
theorem dX0_eventsOf_9 : decode cX0_eventsOf 9 = .ok (.if_icmp .ge 32, 3) := by decide +kernel
theorem dX0_eventsOf_12 : decode cX0_eventsOf 12 = .ok (.aload_n 0, 1) := by decide +kernel
theorem dX0_eventsOf_13 : decode cX0_eventsOf 13 = .ok (.getfield 18, 3) := by decide +kernel
theorem dX0_eventsOf_16 : decode cX0_eventsOf 16 = .ok (.iload_n 3, 1) := by decide +kernel
theorem dX0_eventsOf_17 : decode cX0_eventsOf 17 = .ok (.iaload, 1) := by decide +kernel
theorem dX0_eventsOf_18 : decode cX0_eventsOf 18 = .ok (.iload_n 1, 1) := by decide +kernel
theorem dX0_eventsOf_19 : decode cX0_eventsOf 19 = .ok (.if_icmp .eq 13, 3) := by decide +kernel
end
section
theorem dX0_eventsOf_22 : decode cX0_eventsOf 22 = .ok (.aload_n 0, 1) := by decide +kernel
theorem dX0_eventsOf_23 : decode cX0_eventsOf 23 = .ok (.getfield 24, 3) := by decide +kernel
theorem dX0_eventsOf_26 : decode cX0_eventsOf 26 = .ok (.iload_n 3, 1) := by decide +kernel
theorem dX0_eventsOf_27 : decode cX0_eventsOf 27 = .ok (.iaload, 1) := by decide +kernel
theorem dX0_eventsOf_28 : decode cX0_eventsOf 28 = .ok (.iload_n 1, 1) := by decide +kernel
theorem dX0_eventsOf_29 : decode cX0_eventsOf 29 = .ok (.if_icmp .ne 6, 3) := by decide +kernel
theorem dX0_eventsOf_32 : decode cX0_eventsOf 32 = .ok (.iinc 2 1, 3) := by decide +kernel
theorem dX0_eventsOf_35 : decode cX0_eventsOf 35 = .ok (.iinc 3 1, 3) := by decide +kernel
theorem dX0_eventsOf_38 : decode cX0_eventsOf 38 = .ok (.goto (-34), 3) := by decide +kernel
theorem dX0_eventsOf_41 : decode cX0_eventsOf 41 = .ok (.iload_n 2, 1) := by decide +kernel
theorem dX0_eventsOf_42 : decode cX0_eventsOf 42 = .ok (.ireturn, 1) := by decide +kernel
theorem dX0_eventsOfKind_0 : decode cX0_eventsOfKind 0 = .ok (.iconst 0, 1) := by decide +kernel
theorem dX0_eventsOfKind_1 : decode cX0_eventsOfKind 1 = .ok (.istore_n 2, 1) := by decide +kernel
theorem dX0_eventsOfKind_2 : decode cX0_eventsOfKind 2 = .ok (.iconst 0, 1) := by decide +kernel
theorem dX0_eventsOfKind_3 : decode cX0_eventsOfKind 3 = .ok (.istore_n 3, 1) := by decide +kernel
theorem dX0_eventsOfKind_4 : decode cX0_eventsOfKind 4 = .ok (.iload_n 3, 1) := by decide +kernel
theorem dX0_eventsOfKind_5 : decode cX0_eventsOfKind 5 = .ok (.aload_n 0, 1) := by decide +kernel
theorem dX0_eventsOfKind_6 : decode cX0_eventsOfKind 6 = .ok (.getfield 31, 3) := by decide +kernel
theorem dX0_eventsOfKind_9 : decode cX0_eventsOfKind 9 = .ok (.if_icmp .ge 22, 3) := by decide +kernel
theorem dX0_eventsOfKind_12 : decode cX0_eventsOfKind 12 = .ok (.aload_n 0, 1) := by decide +kernel
theorem dX0_eventsOfKind_13 : decode cX0_eventsOfKind 13 = .ok (.getfield 9, 3) := by decide +kernel
theorem dX0_eventsOfKind_16 : decode cX0_eventsOfKind 16 = .ok (.iload_n 3, 1) := by decide +kernel
theorem dX0_eventsOfKind_17 : decode cX0_eventsOfKind 17 = .ok (.iaload, 1) := by decide +kernel
theorem dX0_eventsOfKind_18 : decode cX0_eventsOfKind 18 = .ok (.iload_n 1, 1) := by decide +kernel
theorem dX0_eventsOfKind_19 : decode cX0_eventsOfKind 19 = .ok (.if_icmp .ne 6, 3) := by decide +kernel
theorem dX0_eventsOfKind_22 : decode cX0_eventsOfKind 22 = .ok (.iinc 2 1, 3) := by decide +kernel
theorem dX0_eventsOfKind_25 : decode cX0_eventsOfKind 25 = .ok (.iinc 3 1, 3) := by decide +kernel
theorem dX0_eventsOfKind_28 : decode cX0_eventsOfKind 28 = .ok (.goto (-24), 3) := by decide +kernel
theorem dX0_eventsOfKind_31 : decode cX0_eventsOfKind 31 = .ok (.iload_n 2, 1) := by decide +kernel
theorem dX0_eventsOfKind_32 : decode cX0_eventsOfKind 32 = .ok (.ireturn, 1) := by decide +kernel
set_option maxRecDepth 20000 in
theorem ggX0_lifeOf_X0_sitesAtFirst : GoodIn wsX0_lifeOf wsX0_sitesAtFirst := goodIn_r _ [5] (by decide +kernel) (by decide +kernel)
set_option maxRecDepth 20000 in
theorem gX0_lifeOf_X0_sitesAtFirst : GoodIn wsX0_lifeOf (va_wsS RX0 61 yX0_sitesAtFirst wsX0_sitesAtFirst) := goodIn_app (goodIn_of _ (by decide +kernel)) ggX0_lifeOf_X0_sitesAtFirst
set_option maxRecDepth 20000 in
theorem ggX0_lifeOf_X0_sitesThrough : GoodIn wsX0_lifeOf wsX0_sitesThrough := goodIn_r _ [9, 1, 10, 11, 12, 33, 34, 35, 36, 37, 38, 39, 40] (by decide +kernel) (by decide +kernel)
set_option maxRecDepth 20000 in
theorem gX0_lifeOf_X0_sitesThrough : GoodIn wsX0_lifeOf (wsV RX0 64 RX0 yX0_sitesThrough wsX0_sitesThrough) := goodIn_app (goodIn_of _ (by decide +kernel)) ggX0_lifeOf_X0_sitesThrough
set_option maxRecDepth 20000 in
theorem ggX0_lifeOf_X0_holdsInAYear : GoodIn wsX0_lifeOf wsX0_holdsInAYear := goodIn_r _ [16, 17, 18, 19, 4, 20, 1, 21, 22, 23, 24, 25, 33, 34, 35, 36, 37, 38, 39, 40] (by decide +kernel) (by decide +kernel)
set_option maxRecDepth 20000 in
theorem gX0_lifeOf_X0_holdsInAYear : GoodIn wsX0_lifeOf (wsV RX0 94 RX0 yX0_holdsInAYear wsX0_holdsInAYear) := goodIn_app (goodIn_of _ (by decide +kernel)) ggX0_lifeOf_X0_holdsInAYear
set_option maxRecDepth 20000 in
theorem ggX0_lifeOf_X0_firstYear : GoodIn wsX0_lifeOf wsX0_firstYear := goodIn_r _ [20, 1, 21, 33, 34, 35, 36, 37, 38, 39, 40] (by decide +kernel) (by decide +kernel)
set_option maxRecDepth 20000 in
theorem gX0_lifeOf_X0_firstYear : GoodIn wsX0_lifeOf (wsV RX0 48 RX0 yX0_firstYear wsX0_firstYear) := goodIn_app (goodIn_of _ (by decide +kernel)) ggX0_lifeOf_X0_firstYear
set_option maxRecDepth 20000 in
theorem ggX0_lifeOf_X0_lastYear : GoodIn wsX0_lifeOf wsX0_lastYear := goodIn_r _ [25, 1, 21, 33, 34, 35, 36, 37, 38, 39, 40] (by decide +kernel) (by decide +kernel)
set_option maxRecDepth 20000 in
theorem gX0_lifeOf_X0_lastYear : GoodIn wsX0_lifeOf (wsV RX0 52 RX0 yX0_lastYear wsX0_lastYear) := goodIn_app (goodIn_of _ (by decide +kernel)) ggX0_lifeOf_X0_lastYear
set_option maxRecDepth 20000 in
theorem ggX0_lifeOf_J6_bitCount_0f7a4 : GoodIn wsX0_lifeOf wsJ6_bitCount_0f7a4 := goodIn_r _ [29, 30, 31, 32] (by decide +kernel) (by decide +kernel)
set_option maxRecDepth 20000 in
theorem gX0_lifeOf_J6_bitCount_0f7a4 : GoodIn wsX0_lifeOf (va_wsS RX0 98 yJ6_bitCount_0f7a4 wsJ6_bitCount_0f7a4) := goodIn_app (goodIn_of _ (by decide +kernel)) ggX0_lifeOf_J6_bitCount_0f7a4
theorem dX0_lifeOf_0 : decode cX0_lifeOf 0 = .ok (.bipush (-6), 2) := by decide +kernel
theorem dX0_lifeOf_2 : decode cX0_lifeOf 2 = .ok (.istore_n 3, 1) := by decide +kernel
theorem dX0_lifeOf_3 : decode cX0_lifeOf 3 = .ok (.bipush (-6), 2) := by decide +kernel
theorem dX0_lifeOf_5 : decode cX0_lifeOf 5 = .ok (.istore 4, 2) := by decide +kernel
theorem dX0_lifeOf_7 : decode cX0_lifeOf 7 = .ok (.iconst 0, 1) := by decide +kernel
theorem dX0_lifeOf_8 : decode cX0_lifeOf 8 = .ok (.istore 5, 2) := by decide +kernel
theorem dX0_lifeOf_10 : decode cX0_lifeOf 10 = .ok (.iconst 0, 1) := by decide +kernel
theorem dX0_lifeOf_11 : decode cX0_lifeOf 11 = .ok (.istore 6, 2) := by decide +kernel
theorem dX0_lifeOf_13 : decode cX0_lifeOf 13 = .ok (.iload_n 1, 1) := by decide +kernel
theorem dX0_lifeOf_14 : decode cX0_lifeOf 14 = .ok (.invokestatic 61, 3) := by decide +kernel
theorem dX0_lifeOf_17 : decode cX0_lifeOf 17 = .ok (.istore 7, 2) := by decide +kernel
theorem dX0_lifeOf_19 : decode cX0_lifeOf 19 = .ok (.iconst 0, 1) := by decide +kernel
theorem dX0_lifeOf_20 : decode cX0_lifeOf 20 = .ok (.istore 8, 2) := by decide +kernel
theorem dX0_lifeOf_22 : decode cX0_lifeOf 22 = .ok (.iload 8, 2) := by decide +kernel
theorem dX0_lifeOf_24 : decode cX0_lifeOf 24 = .ok (.aload_n 0, 1) := by decide +kernel
theorem dX0_lifeOf_25 : decode cX0_lifeOf 25 = .ok (.getfield 31, 3) := by decide +kernel
theorem dX0_lifeOf_28 : decode cX0_lifeOf 28 = .ok (.if_icmp .gt 87, 3) := by decide +kernel
theorem dX0_lifeOf_31 : decode cX0_lifeOf 31 = .ok (.iload 8, 2) := by decide +kernel
theorem dX0_lifeOf_33 : decode cX0_lifeOf 33 = .ok (.ifCond .le 16, 3) := by decide +kernel
theorem dX0_lifeOf_36 : decode cX0_lifeOf 36 = .ok (.aload_n 0, 1) := by decide +kernel
theorem dX0_lifeOf_37 : decode cX0_lifeOf 37 = .ok (.iload 8, 2) := by decide +kernel
theorem dX0_lifeOf_39 : decode cX0_lifeOf 39 = .ok (.iconst 1, 1) := by decide +kernel
theorem dX0_lifeOf_40 : decode cX0_lifeOf 40 = .ok (.isub, 1) := by decide +kernel
theorem dX0_lifeOf_41 : decode cX0_lifeOf 41 = .ok (.iload_n 1, 1) := by decide +kernel
theorem dX0_lifeOf_42 : decode cX0_lifeOf 42 = .ok (.iload 7, 2) := by decide +kernel
theorem dX0_lifeOf_44 : decode cX0_lifeOf 44 = .ok (.invokevirtual 64, 3) := by decide +kernel
theorem dX0_lifeOf_47 : decode cX0_lifeOf 47 = .ok (.istore 7, 2) := by decide +kernel
theorem dX0_lifeOf_49 : decode cX0_lifeOf 49 = .ok (.iload 7, 2) := by decide +kernel
theorem dX0_lifeOf_51 : decode cX0_lifeOf 51 = .ok (.ifCond .eq 58, 3) := by decide +kernel
theorem dX0_lifeOf_54 : decode cX0_lifeOf 54 = .ok (.aload_n 0, 1) := by decide +kernel
theorem dX0_lifeOf_55 : decode cX0_lifeOf 55 = .ok (.iload 8, 2) := by decide +kernel
theorem dX0_lifeOf_57 : decode cX0_lifeOf 57 = .ok (.invokevirtual 94, 3) := by decide +kernel
theorem dX0_lifeOf_60 : decode cX0_lifeOf 60 = .ok (.ifCond .ne 6, 3) := by decide +kernel
theorem dX0_lifeOf_63 : decode cX0_lifeOf 63 = .ok (.goto 46, 3) := by decide +kernel
theorem dX0_lifeOf_66 : decode cX0_lifeOf 66 = .ok (.iload 5, 2) := by decide +kernel
theorem dX0_lifeOf_68 : decode cX0_lifeOf 68 = .ok (.ifCond .ne 10, 3) := by decide +kernel
theorem dX0_lifeOf_71 : decode cX0_lifeOf 71 = .ok (.aload_n 0, 1) := by decide +kernel
theorem dX0_lifeOf_72 : decode cX0_lifeOf 72 = .ok (.iload 8, 2) := by decide +kernel
theorem dX0_lifeOf_74 : decode cX0_lifeOf 74 = .ok (.invokevirtual 48, 3) := by decide +kernel
theorem dX0_lifeOf_77 : decode cX0_lifeOf 77 = .ok (.istore_n 3, 1) := by decide +kernel
theorem dX0_lifeOf_78 : decode cX0_lifeOf 78 = .ok (.aload_n 0, 1) := by decide +kernel
theorem dX0_lifeOf_79 : decode cX0_lifeOf 79 = .ok (.iload 8, 2) := by decide +kernel
theorem dX0_lifeOf_81 : decode cX0_lifeOf 81 = .ok (.invokevirtual 52, 3) := by decide +kernel
theorem dX0_lifeOf_84 : decode cX0_lifeOf 84 = .ok (.istore 4, 2) := by decide +kernel
theorem dX0_lifeOf_86 : decode cX0_lifeOf 86 = .ok (.iload 5, 2) := by decide +kernel
theorem dX0_lifeOf_88 : decode cX0_lifeOf 88 = .ok (.iload 4, 2) := by decide +kernel
theorem dX0_lifeOf_90 : decode cX0_lifeOf 90 = .ok (.aload_n 0, 1) := by decide +kernel
theorem dX0_lifeOf_91 : decode cX0_lifeOf 91 = .ok (.iload 8, 2) := by decide +kernel
theorem dX0_lifeOf_93 : decode cX0_lifeOf 93 = .ok (.invokevirtual 48, 3) := by decide +kernel
theorem dX0_lifeOf_96 : decode cX0_lifeOf 96 = .ok (.isub, 1) := by decide +kernel
theorem dX0_lifeOf_97 : decode cX0_lifeOf 97 = .ok (.iconst 1, 1) := by decide +kernel
theorem dX0_lifeOf_98 : decode cX0_lifeOf 98 = .ok (.iadd, 1) := by decide +kernel
theorem dX0_lifeOf_99 : decode cX0_lifeOf 99 = .ok (.iadd, 1) := by decide +kernel
theorem dX0_lifeOf_100 : decode cX0_lifeOf 100 = .ok (.istore 5, 2) := by decide +kernel
theorem dX0_lifeOf_102 : decode cX0_lifeOf 102 = .ok (.iload 6, 2) := by decide +kernel
theorem dX0_lifeOf_104 : decode cX0_lifeOf 104 = .ok (.iload 7, 2) := by decide +kernel
theorem dX0_lifeOf_106 : decode cX0_lifeOf 106 = .ok (.ior, 1) := by decide +kernel
theorem dX0_lifeOf_107 : decode cX0_lifeOf 107 = .ok (.istore 6, 2) := by decide +kernel
theorem dX0_lifeOf_109 : decode cX0_lifeOf 109 = .ok (.iinc 8 1, 3) := by decide +kernel
theorem dX0_lifeOf_112 : decode cX0_lifeOf 112 = .ok (.goto (-90), 3) := by decide +kernel
theorem dX0_lifeOf_115 : decode cX0_lifeOf 115 = .ok (.iload_n 2, 1) := by decide +kernel
theorem dX0_lifeOf_116 : decode cX0_lifeOf 116 = .ok (.tableswitch 36 0 2 #[28, 30, 33], 28) := by decide +kernel
theorem dX0_lifeOf_144 : decode cX0_lifeOf 144 = .ok (.iload_n 3, 1) := by decide +kernel
theorem dX0_lifeOf_145 : decode cX0_lifeOf 145 = .ok (.ireturn, 1) := by decide +kernel
theorem dX0_lifeOf_146 : decode cX0_lifeOf 146 = .ok (.iload 4, 2) := by decide +kernel
theorem dX0_lifeOf_148 : decode cX0_lifeOf 148 = .ok (.ireturn, 1) := by decide +kernel
theorem dX0_lifeOf_149 : decode cX0_lifeOf 149 = .ok (.iload 5, 2) := by decide +kernel
theorem dX0_lifeOf_151 : decode cX0_lifeOf 151 = .ok (.ireturn, 1) := by decide +kernel
theorem dX0_lifeOf_152 : decode cX0_lifeOf 152 = .ok (.iload 6, 2) := by decide +kernel
theorem dX0_lifeOf_154 : decode cX0_lifeOf 154 = .ok (.invokestatic 98, 3) := by decide +kernel
theorem dX0_lifeOf_157 : decode cX0_lifeOf 157 = .ok (.ireturn, 1) := by decide +kernel
set_option maxRecDepth 20000 in
theorem ggX0_nextSpan_X0_ownerBehind : GoodIn wsX0_nextSpan wsX0_ownerBehind := goodIn_r _ [6, 1, 7, 8, 9, 10, 11, 43, 44, 45, 46, 47, 48, 49, 50] (by decide +kernel) (by decide +kernel)
set_option maxRecDepth 20000 in
theorem gX0_nextSpan_X0_ownerBehind : GoodIn wsX0_nextSpan (wsV RX0 91 RX0 yX0_ownerBehind wsX0_ownerBehind) := goodIn_app (goodIn_of _ (by decide +kernel)) ggX0_nextSpan_X0_ownerBehind
set_option maxRecDepth 20000 in
theorem ggX0_nextSpan_X0_nameBehind : GoodIn wsX0_nextSpan wsX0_nameBehind := goodIn_r _ [15, 1, 16, 17, 5, 18, 19, 20, 21, 22, 23, 24, 25, 26, 27, 28, 29, 8, 43, 44, 45, 46, 47, 48, 49, 50] (by decide +kernel) (by decide +kernel)
set_option maxRecDepth 20000 in
theorem gX0_nextSpan_X0_nameBehind : GoodIn wsX0_nextSpan (wsV RX0 87 RX0 yX0_nameBehind wsX0_nameBehind) := goodIn_app (goodIn_of _ (by decide +kernel)) ggX0_nextSpan_X0_nameBehind
set_option maxRecDepth 20000 in
theorem ggX0_nextSpan_X0_holdsInAYear : GoodIn wsX0_nextSpan wsX0_holdsInAYear := goodIn_r _ [33, 34, 35, 36, 5, 37, 1, 38, 39, 40, 41, 42, 43, 44, 45, 46, 47, 48, 49, 50] (by decide +kernel) (by decide +kernel)
set_option maxRecDepth 20000 in
theorem gX0_nextSpan_X0_holdsInAYear : GoodIn wsX0_nextSpan (wsV RX0 94 RX0 yX0_holdsInAYear wsX0_holdsInAYear) := goodIn_app (goodIn_of _ (by decide +kernel)) ggX0_nextSpan_X0_holdsInAYear
theorem dX0_nextSpan_0 : decode cX0_nextSpan 0 = .ok (.aload_n 0, 1) := by decide +kernel
theorem dX0_nextSpan_1 : decode cX0_nextSpan 1 = .ok (.iload_n 1, 1) := by decide +kernel
theorem dX0_nextSpan_2 : decode cX0_nextSpan 2 = .ok (.iload_n 2, 1) := by decide +kernel
theorem dX0_nextSpan_3 : decode cX0_nextSpan 3 = .ok (.invokevirtual 91, 3) := by decide +kernel
theorem dX0_nextSpan_6 : decode cX0_nextSpan 6 = .ok (.istore_n 3, 1) := by decide +kernel
theorem dX0_nextSpan_7 : decode cX0_nextSpan 7 = .ok (.aload_n 0, 1) := by decide +kernel
theorem dX0_nextSpan_8 : decode cX0_nextSpan 8 = .ok (.iload_n 3, 1) := by decide +kernel
theorem dX0_nextSpan_9 : decode cX0_nextSpan 9 = .ok (.iload_n 2, 1) := by decide +kernel
theorem dX0_nextSpan_10 : decode cX0_nextSpan 10 = .ok (.invokevirtual 87, 3) := by decide +kernel
theorem dX0_nextSpan_13 : decode cX0_nextSpan 13 = .ok (.lstore 4, 2) := by decide +kernel
theorem dX0_nextSpan_15 : decode cX0_nextSpan 15 = .ok (.iload_n 2, 1) := by decide +kernel
theorem dX0_nextSpan_16 : decode cX0_nextSpan 16 = .ok (.iconst 1, 1) := by decide +kernel
theorem dX0_nextSpan_17 : decode cX0_nextSpan 17 = .ok (.iadd, 1) := by decide +kernel
theorem dX0_nextSpan_18 : decode cX0_nextSpan 18 = .ok (.istore 6, 2) := by decide +kernel
theorem dX0_nextSpan_20 : decode cX0_nextSpan 20 = .ok (.iload 6, 2) := by decide +kernel
theorem dX0_nextSpan_22 : decode cX0_nextSpan 22 = .ok (.aload_n 0, 1) := by decide +kernel
theorem dX0_nextSpan_23 : decode cX0_nextSpan 23 = .ok (.getfield 31, 3) := by decide +kernel
theorem dX0_nextSpan_26 : decode cX0_nextSpan 26 = .ok (.if_icmp .gt 53, 3) := by decide +kernel
theorem dX0_nextSpan_29 : decode cX0_nextSpan 29 = .ok (.aload_n 0, 1) := by decide +kernel
theorem dX0_nextSpan_30 : decode cX0_nextSpan 30 = .ok (.iload 6, 2) := by decide +kernel
theorem dX0_nextSpan_32 : decode cX0_nextSpan 32 = .ok (.invokevirtual 94, 3) := by decide +kernel
theorem dX0_nextSpan_35 : decode cX0_nextSpan 35 = .ok (.ifCond .ne 6, 3) := by decide +kernel
theorem dX0_nextSpan_38 : decode cX0_nextSpan 38 = .ok (.goto 35, 3) := by decide +kernel
theorem dX0_nextSpan_41 : decode cX0_nextSpan 41 = .ok (.aload_n 0, 1) := by decide +kernel
theorem dX0_nextSpan_42 : decode cX0_nextSpan 42 = .ok (.iload_n 1, 1) := by decide +kernel
theorem dX0_nextSpan_43 : decode cX0_nextSpan 43 = .ok (.iload 6, 2) := by decide +kernel
theorem dX0_nextSpan_45 : decode cX0_nextSpan 45 = .ok (.invokevirtual 91, 3) := by decide +kernel
theorem dX0_nextSpan_48 : decode cX0_nextSpan 48 = .ok (.istore 7, 2) := by decide +kernel
theorem dX0_nextSpan_50 : decode cX0_nextSpan 50 = .ok (.iload 7, 2) := by decide +kernel
theorem dX0_nextSpan_52 : decode cX0_nextSpan 52 = .ok (.iload_n 3, 1) := by decide +kernel
theorem dX0_nextSpan_53 : decode cX0_nextSpan 53 = .ok (.if_icmp .ne 17, 3) := by decide +kernel
theorem dX0_nextSpan_56 : decode cX0_nextSpan 56 = .ok (.aload_n 0, 1) := by decide +kernel
theorem dX0_nextSpan_57 : decode cX0_nextSpan 57 = .ok (.iload 7, 2) := by decide +kernel
theorem dX0_nextSpan_59 : decode cX0_nextSpan 59 = .ok (.iload 6, 2) := by decide +kernel
theorem dX0_nextSpan_61 : decode cX0_nextSpan 61 = .ok (.invokevirtual 87, 3) := by decide +kernel
theorem dX0_nextSpan_64 : decode cX0_nextSpan 64 = .ok (.lload 4, 2) := by decide +kernel
theorem dX0_nextSpan_66 : decode cX0_nextSpan 66 = .ok (.lcmp, 1) := by decide +kernel
theorem dX0_nextSpan_67 : decode cX0_nextSpan 67 = .ok (.ifCond .eq 6, 3) := by decide +kernel
theorem dX0_nextSpan_70 : decode cX0_nextSpan 70 = .ok (.iload 6, 2) := by decide +kernel
theorem dX0_nextSpan_72 : decode cX0_nextSpan 72 = .ok (.ireturn, 1) := by decide +kernel
theorem dX0_nextSpan_73 : decode cX0_nextSpan 73 = .ok (.iinc 6 1, 3) := by decide +kernel
theorem dX0_nextSpan_76 : decode cX0_nextSpan 76 = .ok (.goto (-56), 3) := by decide +kernel
theorem dX0_nextSpan_79 : decode cX0_nextSpan 79 = .ok (.aload_n 0, 1) := by decide +kernel
theorem dX0_nextSpan_80 : decode cX0_nextSpan 80 = .ok (.getfield 31, 3) := by decide +kernel
theorem dX0_nextSpan_83 : decode cX0_nextSpan 83 = .ok (.iconst 1, 1) := by decide +kernel
theorem dX0_nextSpan_84 : decode cX0_nextSpan 84 = .ok (.iadd, 1) := by decide +kernel
theorem dX0_nextSpan_85 : decode cX0_nextSpan 85 = .ok (.ireturn, 1) := by decide +kernel
set_option maxRecDepth 20000 in
theorem ggX0_parishesNow_X0_sitesNow : GoodIn wsX0_parishesNow wsX0_sitesNow := goodIn_r _ [6, 7, 8, 9, 10, 5, 11, 12, 13, 14, 15, 16, 17, 18, 19, 20, 21, 22, 23, 24, 25, 26, 27, 28, 29] (by decide +kernel) (by decide +kernel)
set_option maxRecDepth 20000 in
theorem gX0_parishesNow_X0_sitesNow : GoodIn wsX0_parishesNow (wsV RX0 103 RX0 yX0_sitesNow wsX0_sitesNow) := goodIn_app (goodIn_of _ (by decide +kernel)) ggX0_parishesNow_X0_sitesNow
theorem dX0_parishesNow_0 : decode cX0_parishesNow 0 = .ok (.iconst 0, 1) := by decide +kernel
theorem dX0_parishesNow_1 : decode cX0_parishesNow 1 = .ok (.istore_n 1, 1) := by decide +kernel
theorem dX0_parishesNow_2 : decode cX0_parishesNow 2 = .ok (.iconst 0, 1) := by decide +kernel
theorem dX0_parishesNow_3 : decode cX0_parishesNow 3 = .ok (.istore_n 2, 1) := by decide +kernel
theorem dX0_parishesNow_4 : decode cX0_parishesNow 4 = .ok (.iload_n 2, 1) := by decide +kernel
theorem dX0_parishesNow_5 : decode cX0_parishesNow 5 = .ok (.aload_n 0, 1) := by decide +kernel
theorem dX0_parishesNow_6 : decode cX0_parishesNow 6 = .ok (.getfield 35, 3) := by decide +kernel
theorem dX0_parishesNow_9 : decode cX0_parishesNow 9 = .ok (.if_icmp .ge 20, 3) := by decide +kernel
theorem dX0_parishesNow_12 : decode cX0_parishesNow 12 = .ok (.aload_n 0, 1) := by decide +kernel
theorem dX0_parishesNow_13 : decode cX0_parishesNow 13 = .ok (.iload_n 2, 1) := by decide +kernel
theorem dX0_parishesNow_14 : decode cX0_parishesNow 14 = .ok (.invokevirtual 103, 3) := by decide +kernel
theorem dX0_parishesNow_17 : decode cX0_parishesNow 17 = .ok (.ifCond .eq 6, 3) := by decide +kernel
theorem dX0_parishesNow_20 : decode cX0_parishesNow 20 = .ok (.iinc 1 1, 3) := by decide +kernel
theorem dX0_parishesNow_23 : decode cX0_parishesNow 23 = .ok (.iinc 2 1, 3) := by decide +kernel
theorem dX0_parishesNow_26 : decode cX0_parishesNow 26 = .ok (.goto (-22), 3) := by decide +kernel
theorem dX0_parishesNow_29 : decode cX0_parishesNow 29 = .ok (.iload_n 1, 1) := by decide +kernel
theorem dX0_parishesNow_30 : decode cX0_parishesNow 30 = .ok (.ireturn, 1) := by decide +kernel
set_option maxRecDepth 20000 in
theorem ggX0_unlikeNamesNow_X0_sitesNow : GoodIn wsX0_unlikeNamesNow wsX0_sitesNow := goodIn_r _ [6, 7, 8, 9, 10, 5, 11, 12, 13, 14, 15, 16, 17, 18, 19, 20, 21, 43, 44, 45, 46, 47, 48, 49, 50] (by decide +kernel) (by decide +kernel)
set_option maxRecDepth 20000 in
theorem gX0_unlikeNamesNow_X0_sitesNow : GoodIn wsX0_unlikeNamesNow (wsV RX0 103 RX0 yX0_sitesNow wsX0_sitesNow) := goodIn_app (goodIn_of _ (by decide +kernel)) ggX0_unlikeNamesNow_X0_sitesNow
set_option maxRecDepth 20000 in
theorem ggX0_unlikeNamesNow_X0_isNameOfLesser : GoodIn wsX0_unlikeNamesNow wsX0_isNameOfLesser := goodIn_r _ [25, 7, 26, 27, 28, 5, 29, 30, 31, 32, 33, 34, 35, 36, 37, 38, 39, 40, 41, 19, 42, 21, 2, 3, 4, 6, 8, 9, 10, 11, 12, 13, 14, 15, 16, 17, 18, 20, 43, 44, 45, 46, 47, 48, 49, 50] (by decide +kernel) (by decide +kernel)
set_option maxRecDepth 20000 in
theorem gX0_unlikeNamesNow_X0_isNameOfLesser : GoodIn wsX0_unlikeNamesNow (wsV RX0 106 RX0 yX0_isNameOfLesser wsX0_isNameOfLesser) := goodIn_app (goodIn_of _ (by decide +kernel)) ggX0_unlikeNamesNow_X0_isNameOfLesser
theorem dX0_unlikeNamesNow_0 : decode cX0_unlikeNamesNow 0 = .ok (.iconst 0, 1) := by decide +kernel
theorem dX0_unlikeNamesNow_1 : decode cX0_unlikeNamesNow 1 = .ok (.istore_n 1, 1) := by decide +kernel
theorem dX0_unlikeNamesNow_2 : decode cX0_unlikeNamesNow 2 = .ok (.iconst 0, 1) := by decide +kernel
theorem dX0_unlikeNamesNow_3 : decode cX0_unlikeNamesNow 3 = .ok (.istore_n 2, 1) := by decide +kernel
theorem dX0_unlikeNamesNow_4 : decode cX0_unlikeNamesNow 4 = .ok (.iload_n 2, 1) := by decide +kernel
theorem dX0_unlikeNamesNow_5 : decode cX0_unlikeNamesNow 5 = .ok (.aload_n 0, 1) := by decide +kernel
theorem dX0_unlikeNamesNow_6 : decode cX0_unlikeNamesNow 6 = .ok (.getfield 35, 3) := by decide +kernel
theorem dX0_unlikeNamesNow_9 : decode cX0_unlikeNamesNow 9 = .ok (.if_icmp .ge 28, 3) := by decide +kernel
theorem dX0_unlikeNamesNow_12 : decode cX0_unlikeNamesNow 12 = .ok (.aload_n 0, 1) := by decide +kernel
theorem dX0_unlikeNamesNow_13 : decode cX0_unlikeNamesNow 13 = .ok (.iload_n 2, 1) := by decide +kernel
theorem dX0_unlikeNamesNow_14 : decode cX0_unlikeNamesNow 14 = .ok (.invokevirtual 103, 3) := by decide +kernel
theorem dX0_unlikeNamesNow_17 : decode cX0_unlikeNamesNow 17 = .ok (.ifCond .eq 14, 3) := by decide +kernel
theorem dX0_unlikeNamesNow_20 : decode cX0_unlikeNamesNow 20 = .ok (.aload_n 0, 1) := by decide +kernel
theorem dX0_unlikeNamesNow_21 : decode cX0_unlikeNamesNow 21 = .ok (.iload_n 2, 1) := by decide +kernel
theorem dX0_unlikeNamesNow_22 : decode cX0_unlikeNamesNow 22 = .ok (.invokevirtual 106, 3) := by decide +kernel
theorem dX0_unlikeNamesNow_25 : decode cX0_unlikeNamesNow 25 = .ok (.ifCond .ne 6, 3) := by decide +kernel
theorem dX0_unlikeNamesNow_28 : decode cX0_unlikeNamesNow 28 = .ok (.iinc 1 1, 3) := by decide +kernel
theorem dX0_unlikeNamesNow_31 : decode cX0_unlikeNamesNow 31 = .ok (.iinc 2 1, 3) := by decide +kernel
theorem dX0_unlikeNamesNow_34 : decode cX0_unlikeNamesNow 34 = .ok (.goto (-30), 3) := by decide +kernel
theorem dX0_unlikeNamesNow_37 : decode cX0_unlikeNamesNow 37 = .ok (.iload_n 1, 1) := by decide +kernel
theorem dX0_unlikeNamesNow_38 : decode cX0_unlikeNamesNow 38 = .ok (.ireturn, 1) := by decide +kernel
set_option maxRecDepth 20000 in
theorem ggX0_isNameOfLesser_X0_nameBehind : GoodIn wsX0_isNameOfLesser wsX0_nameBehind := goodIn_r _ [6, 1, 7, 8, 5, 9, 10, 11, 12, 13, 14, 15, 16, 17, 18, 19, 20, 21, 38, 39, 40, 41, 42, 43, 44, 45] (by decide +kernel) (by decide +kernel)
set_option maxRecDepth 20000 in
theorem gX0_isNameOfLesser_X0_nameBehind : GoodIn wsX0_isNameOfLesser (wsV RX0 87 RX0 yX0_nameBehind wsX0_nameBehind) := goodIn_app (goodIn_of _ (by decide +kernel)) ggX0_isNameOfLesser_X0_nameBehind
set_option maxRecDepth 20000 in
theorem ggX0_isNameOfLesser_X0_sitesNow : GoodIn wsX0_isNameOfLesser wsX0_sitesNow := goodIn_r _ [25, 1, 26, 27, 28, 5, 29, 30, 31, 32, 33, 34, 35, 36, 19, 37, 21, 38, 39, 40, 41, 42, 43, 44, 45] (by decide +kernel) (by decide +kernel)
set_option maxRecDepth 20000 in
theorem gX0_isNameOfLesser_X0_sitesNow : GoodIn wsX0_isNameOfLesser (wsV RX0 103 RX0 yX0_sitesNow wsX0_sitesNow) := goodIn_app (goodIn_of _ (by decide +kernel)) ggX0_isNameOfLesser_X0_sitesNow
theorem dX0_isNameOfLesser_0 : decode cX0_isNameOfLesser 0 = .ok (.aload_n 0, 1) := by decide +kernel
theorem dX0_isNameOfLesser_1 : decode cX0_isNameOfLesser 1 = .ok (.iload_n 1, 1) := by decide +kernel
theorem dX0_isNameOfLesser_2 : decode cX0_isNameOfLesser 2 = .ok (.aload_n 0, 1) := by decide +kernel
theorem dX0_isNameOfLesser_3 : decode cX0_isNameOfLesser 3 = .ok (.getfield 31, 3) := by decide +kernel
theorem dX0_isNameOfLesser_6 : decode cX0_isNameOfLesser 6 = .ok (.invokevirtual 87, 3) := by decide +kernel
theorem dX0_isNameOfLesser_9 : decode cX0_isNameOfLesser 9 = .ok (.lstore_n 2, 1) := by decide +kernel
theorem dX0_isNameOfLesser_10 : decode cX0_isNameOfLesser 10 = .ok (.iconst 0, 1) := by decide +kernel
theorem dX0_isNameOfLesser_11 : decode cX0_isNameOfLesser 11 = .ok (.istore 4, 2) := by decide +kernel
theorem dX0_isNameOfLesser_13 : decode cX0_isNameOfLesser 13 = .ok (.iload 4, 2) := by decide +kernel
theorem dX0_isNameOfLesser_15 : decode cX0_isNameOfLesser 15 = .ok (.iload_n 1, 1) := by decide +kernel
theorem dX0_isNameOfLesser_16 : decode cX0_isNameOfLesser 16 = .ok (.if_icmp .ge 35, 3) := by decide +kernel
theorem dX0_isNameOfLesser_19 : decode cX0_isNameOfLesser 19 = .ok (.aload_n 0, 1) := by decide +kernel
theorem dX0_isNameOfLesser_20 : decode cX0_isNameOfLesser 20 = .ok (.iload 4, 2) := by decide +kernel
theorem dX0_isNameOfLesser_22 : decode cX0_isNameOfLesser 22 = .ok (.invokevirtual 103, 3) := by decide +kernel
theorem dX0_isNameOfLesser_25 : decode cX0_isNameOfLesser 25 = .ok (.ifCond .eq 20, 3) := by decide +kernel
theorem dX0_isNameOfLesser_28 : decode cX0_isNameOfLesser 28 = .ok (.aload_n 0, 1) := by decide +kernel
theorem dX0_isNameOfLesser_29 : decode cX0_isNameOfLesser 29 = .ok (.iload 4, 2) := by decide +kernel
theorem dX0_isNameOfLesser_31 : decode cX0_isNameOfLesser 31 = .ok (.aload_n 0, 1) := by decide +kernel
theorem dX0_isNameOfLesser_32 : decode cX0_isNameOfLesser 32 = .ok (.getfield 31, 3) := by decide +kernel
theorem dX0_isNameOfLesser_35 : decode cX0_isNameOfLesser 35 = .ok (.invokevirtual 87, 3) := by decide +kernel
theorem dX0_isNameOfLesser_38 : decode cX0_isNameOfLesser 38 = .ok (.lload_n 2, 1) := by decide +kernel
theorem dX0_isNameOfLesser_39 : decode cX0_isNameOfLesser 39 = .ok (.lcmp, 1) := by decide +kernel
theorem dX0_isNameOfLesser_40 : decode cX0_isNameOfLesser 40 = .ok (.ifCond .ne 5, 3) := by decide +kernel
theorem dX0_isNameOfLesser_43 : decode cX0_isNameOfLesser 43 = .ok (.iconst 1, 1) := by decide +kernel
theorem dX0_isNameOfLesser_44 : decode cX0_isNameOfLesser 44 = .ok (.ireturn, 1) := by decide +kernel
theorem dX0_isNameOfLesser_45 : decode cX0_isNameOfLesser 45 = .ok (.iinc 4 1, 3) := by decide +kernel
theorem dX0_isNameOfLesser_48 : decode cX0_isNameOfLesser 48 = .ok (.goto (-35), 3) := by decide +kernel
theorem dX0_isNameOfLesser_51 : decode cX0_isNameOfLesser 51 = .ok (.iconst 0, 1) := by decide +kernel
theorem dX0_isNameOfLesser_52 : decode cX0_isNameOfLesser 52 = .ok (.ireturn, 1) := by decide +kernel
theorem dX1_init_0 : decode cX1_init 0 = .ok (.aload_n 0, 1) := by decide +kernel
theorem dX1_init_1 : decode cX1_init 1 = .ok (.invokespecial 3, 3) := by decide +kernel
theorem dX1_init_4 : decode cX1_init 4 = .ok (.aload_n 0, 1) := by decide +kernel
theorem dX1_init_5 : decode cX1_init 5 = .ok (.bipush 9, 2) := by decide +kernel
theorem dX1_init_7 : decode cX1_init 7 = .ok (.newarray .int, 2) := by decide +kernel
theorem dX1_init_9 : decode cX1_init 9 = .ok (.putfield 9, 3) := by decide +kernel
theorem dX1_init_12 : decode cX1_init 12 = .ok (.return_, 1) := by decide +kernel
theorem dX1_letterOf_0 : decode cX1_letterOf 0 = .ok (.lload_n 0, 1) := by decide +kernel
theorem dX1_letterOf_1 : decode cX1_letterOf 1 = .ok (.bipush 8, 2) := by decide +kernel
theorem dX1_letterOf_3 : decode cX1_letterOf 3 = .ok (.iload_n 2, 1) := by decide +kernel
theorem dX1_letterOf_4 : decode cX1_letterOf 4 = .ok (.imul, 1) := by decide +kernel
theorem dX1_letterOf_5 : decode cX1_letterOf 5 = .ok (.lushr, 1) := by decide +kernel
theorem dX1_letterOf_6 : decode cX1_letterOf 6 = .ok (.l2i, 1) := by decide +kernel
theorem dX1_letterOf_7 : decode cX1_letterOf 7 = .ok (.sipush 255, 3) := by decide +kernel
theorem dX1_letterOf_10 : decode cX1_letterOf 10 = .ok (.iand, 1) := by decide +kernel
theorem dX1_letterOf_11 : decode cX1_letterOf 11 = .ok (.ireturn, 1) := by decide +kernel
theorem dX1_withLetter_0 : decode cX1_withLetter 0 = .ok (.lload_n 0, 1) := by decide +kernel
theorem dX1_withLetter_1 : decode cX1_withLetter 1 = .ok (.iload_n 3, 1) := by decide +kernel
theorem dX1_withLetter_2 : decode cX1_withLetter 2 = .ok (.i2l, 1) := by decide +kernel
theorem dX1_withLetter_3 : decode cX1_withLetter 3 = .ok (.bipush 8, 2) := by decide +kernel
theorem dX1_withLetter_5 : decode cX1_withLetter 5 = .ok (.iload_n 2, 1) := by decide +kernel
theorem dX1_withLetter_6 : decode cX1_withLetter 6 = .ok (.imul, 1) := by decide +kernel
theorem dX1_withLetter_7 : decode cX1_withLetter 7 = .ok (.lshl, 1) := by decide +kernel
theorem dX1_withLetter_8 : decode cX1_withLetter 8 = .ok (.lor, 1) := by decide +kernel
theorem dX1_withLetter_9 : decode cX1_withLetter 9 = .ok (.lreturn, 1) := by decide +kernel
set_option maxRecDepth 20000 in
theorem ggX1_lengthOf_X1_letterOf : GoodIn wsX1_lengthOf wsX1_letterOf := goodIn_r _ [4] (by decide +kernel) (by decide +kernel)
set_option maxRecDepth 20000 in
theorem gX1_lengthOf_X1_letterOf : GoodIn wsX1_lengthOf (va_wsS RX1 15 yX1_letterOf wsX1_letterOf) := goodIn_app (goodIn_of _ (by decide +kernel)) ggX1_lengthOf_X1_letterOf
theorem dX1_lengthOf_0 : decode cX1_lengthOf 0 = .ok (.iconst 0, 1) := by decide +kernel
theorem dX1_lengthOf_1 : decode cX1_lengthOf 1 = .ok (.istore_n 2, 1) := by decide +kernel
theorem dX1_lengthOf_2 : decode cX1_lengthOf 2 = .ok (.iload_n 2, 1) := by decide +kernel
theorem dX1_lengthOf_3 : decode cX1_lengthOf 3 = .ok (.bipush 8, 2) := by decide +kernel
theorem dX1_lengthOf_5 : decode cX1_lengthOf 5 = .ok (.if_icmp .ge 17, 3) := by decide +kernel
theorem dX1_lengthOf_8 : decode cX1_lengthOf 8 = .ok (.lload_n 0, 1) := by decide +kernel
theorem dX1_lengthOf_9 : decode cX1_lengthOf 9 = .ok (.iload_n 2, 1) := by decide +kernel
theorem dX1_lengthOf_10 : decode cX1_lengthOf 10 = .ok (.invokestatic 15, 3) := by decide +kernel
theorem dX1_lengthOf_13 : decode cX1_lengthOf 13 = .ok (.ifCond .eq 9, 3) := by decide +kernel
theorem dX1_lengthOf_16 : decode cX1_lengthOf 16 = .ok (.iinc 2 1, 3) := by decide +kernel
theorem dX1_lengthOf_19 : decode cX1_lengthOf 19 = .ok (.goto (-17), 3) := by decide +kernel
theorem dX1_lengthOf_22 : decode cX1_lengthOf 22 = .ok (.iload_n 2, 1) := by decide +kernel
theorem dX1_lengthOf_23 : decode cX1_lengthOf 23 = .ok (.ireturn, 1) := by decide +kernel
theorem dX1_classOf_0 : decode cX1_classOf 0 = .ok (.iload_n 0, 1) := by decide +kernel
theorem dX1_classOf_1 : decode cX1_classOf 1 = .ok (.tableswitch 128 98 122 #[115, 117, 119, 128, 115, 117, 128, 128, 117, 117, 121, 123, 123, 128, 115, 117, 125, 117, 119, 128, 115, 128, 117, 128, 117], 115) := by decide +kernel
theorem dX1_classOf_116 : decode cX1_classOf 116 = .ok (.iconst 1, 1) := by decide +kernel
theorem dX1_classOf_117 : decode cX1_classOf 117 = .ok (.ireturn, 1) := by decide +kernel
theorem dX1_classOf_118 : decode cX1_classOf 118 = .ok (.iconst 2, 1) := by decide +kernel
theorem dX1_classOf_119 : decode cX1_classOf 119 = .ok (.ireturn, 1) := by decide +kernel
theorem dX1_classOf_120 : decode cX1_classOf 120 = .ok (.iconst 3, 1) := by decide +kernel
theorem dX1_classOf_121 : decode cX1_classOf 121 = .ok (.ireturn, 1) := by decide +kernel
theorem dX1_classOf_122 : decode cX1_classOf 122 = .ok (.iconst 4, 1) := by decide +kernel
theorem dX1_classOf_123 : decode cX1_classOf 123 = .ok (.ireturn, 1) := by decide +kernel
theorem dX1_classOf_124 : decode cX1_classOf 124 = .ok (.iconst 5, 1) := by decide +kernel
theorem dX1_classOf_125 : decode cX1_classOf 125 = .ok (.ireturn, 1) := by decide +kernel
theorem dX1_classOf_126 : decode cX1_classOf 126 = .ok (.bipush 6, 2) := by decide +kernel
theorem dX1_classOf_128 : decode cX1_classOf 128 = .ok (.ireturn, 1) := by decide +kernel
theorem dX1_classOf_129 : decode cX1_classOf 129 = .ok (.iconst 0, 1) := by decide +kernel
theorem dX1_classOf_130 : decode cX1_classOf 130 = .ok (.ireturn, 1) := by decide +kernel
set_option maxRecDepth 20000 in
theorem ggX1_soundOf_X1_letterOf : GoodIn wsX1_soundOf wsX1_letterOf := goodIn_r _ [4] (by decide +kernel) (by decide +kernel)
set_option maxRecDepth 20000 in
theorem gX1_soundOf_X1_letterOf : GoodIn wsX1_soundOf (va_wsS RX1 15 yX1_letterOf wsX1_letterOf) := goodIn_app (goodIn_of _ (by decide +kernel)) ggX1_soundOf_X1_letterOf
set_option maxRecDepth 20000 in
theorem ggX1_soundOf_X1_classOf : GoodIn wsX1_soundOf wsX1_classOf := goodIn_r _ [7] (by decide +kernel) (by decide +kernel)
set_option maxRecDepth 20000 in
theorem gX1_soundOf_X1_classOf : GoodIn wsX1_soundOf (va_wsS RX1 19 yX1_classOf wsX1_classOf) := goodIn_app (goodIn_of _ (by decide +kernel)) ggX1_soundOf_X1_classOf
set_option maxRecDepth 20000 in
theorem ggX1_soundOf_X1_lengthOf : GoodIn wsX1_soundOf wsX1_lengthOf := goodIn_r _ [10, 1, 2, 3, 4] (by decide +kernel) (by decide +kernel)
set_option maxRecDepth 20000 in
theorem gX1_soundOf_X1_lengthOf : GoodIn wsX1_soundOf (va_wsS RX1 23 yX1_lengthOf wsX1_lengthOf) := goodIn_app (goodIn_of _ (by decide +kernel)) ggX1_soundOf_X1_lengthOf
theorem dX1_soundOf_0 : decode cX1_soundOf 0 = .ok (.lload_n 0, 1) := by decide +kernel
theorem dX1_soundOf_1 : decode cX1_soundOf 1 = .ok (.iconst 0, 1) := by decide +kernel
theorem dX1_soundOf_2 : decode cX1_soundOf 2 = .ok (.invokestatic 15, 3) := by decide +kernel
theorem dX1_soundOf_5 : decode cX1_soundOf 5 = .ok (.invokestatic 19, 3) := by decide +kernel
theorem dX1_soundOf_8 : decode cX1_soundOf 8 = .ok (.istore_n 2, 1) := by decide +kernel
theorem dX1_soundOf_9 : decode cX1_soundOf 9 = .ok (.iload_n 2, 1) := by decide +kernel
theorem dX1_soundOf_10 : decode cX1_soundOf 10 = .ok (.iconst 1, 1) := by decide +kernel
theorem dX1_soundOf_11 : decode cX1_soundOf 11 = .ok (.iadd, 1) := by decide +kernel
theorem dX1_soundOf_12 : decode cX1_soundOf 12 = .ok (.istore_n 3, 1) := by decide +kernel
theorem dX1_soundOf_13 : decode cX1_soundOf 13 = .ok (.iconst 1, 1) := by decide +kernel
theorem dX1_soundOf_14 : decode cX1_soundOf 14 = .ok (.istore 4, 2) := by decide +kernel
theorem dX1_soundOf_16 : decode cX1_soundOf 16 = .ok (.lload_n 0, 1) := by decide +kernel
theorem dX1_soundOf_17 : decode cX1_soundOf 17 = .ok (.invokestatic 23, 3) := by decide +kernel
theorem dX1_soundOf_20 : decode cX1_soundOf 20 = .ok (.istore 5, 2) := by decide +kernel
theorem dX1_soundOf_22 : decode cX1_soundOf 22 = .ok (.iconst 1, 1) := by decide +kernel
theorem dX1_soundOf_23 : decode cX1_soundOf 23 = .ok (.istore 6, 2) := by decide +kernel
theorem dX1_soundOf_25 : decode cX1_soundOf 25 = .ok (.iload 6, 2) := by decide +kernel
theorem dX1_soundOf_27 : decode cX1_soundOf 27 = .ok (.iload 5, 2) := by decide +kernel
theorem dX1_soundOf_29 : decode cX1_soundOf 29 = .ok (.if_icmp .ge 55, 3) := by decide +kernel
theorem dX1_soundOf_32 : decode cX1_soundOf 32 = .ok (.iload 4, 2) := by decide +kernel
theorem dX1_soundOf_34 : decode cX1_soundOf 34 = .ok (.iconst 4, 1) := by decide +kernel
theorem dX1_soundOf_35 : decode cX1_soundOf 35 = .ok (.if_icmp .ge 49, 3) := by decide +kernel
theorem dX1_soundOf_38 : decode cX1_soundOf 38 = .ok (.lload_n 0, 1) := by decide +kernel
theorem dX1_soundOf_39 : decode cX1_soundOf 39 = .ok (.iload 6, 2) := by decide +kernel
theorem dX1_soundOf_41 : decode cX1_soundOf 41 = .ok (.invokestatic 15, 3) := by decide +kernel
theorem dX1_soundOf_44 : decode cX1_soundOf 44 = .ok (.invokestatic 19, 3) := by decide +kernel
theorem dX1_soundOf_47 : decode cX1_soundOf 47 = .ok (.istore 7, 2) := by decide +kernel
theorem dX1_soundOf_49 : decode cX1_soundOf 49 = .ok (.iload 7, 2) := by decide +kernel
theorem dX1_soundOf_51 : decode cX1_soundOf 51 = .ok (.ifCond .eq 24, 3) := by decide +kernel
theorem dX1_soundOf_54 : decode cX1_soundOf 54 = .ok (.iload 7, 2) := by decide +kernel
theorem dX1_soundOf_56 : decode cX1_soundOf 56 = .ok (.iload_n 2, 1) := by decide +kernel
theorem dX1_soundOf_57 : decode cX1_soundOf 57 = .ok (.if_icmp .eq 18, 3) := by decide +kernel
theorem dX1_soundOf_60 : decode cX1_soundOf 60 = .ok (.iload_n 3, 1) := by decide +kernel
theorem dX1_soundOf_61 : decode cX1_soundOf 61 = .ok (.iload 7, 2) := by decide +kernel
theorem dX1_soundOf_63 : decode cX1_soundOf 63 = .ok (.iconst 1, 1) := by decide +kernel
theorem dX1_soundOf_64 : decode cX1_soundOf 64 = .ok (.iadd, 1) := by decide +kernel
theorem dX1_soundOf_65 : decode cX1_soundOf 65 = .ok (.iconst 4, 1) := by decide +kernel
theorem dX1_soundOf_66 : decode cX1_soundOf 66 = .ok (.iload 4, 2) := by decide +kernel
theorem dX1_soundOf_68 : decode cX1_soundOf 68 = .ok (.imul, 1) := by decide +kernel
theorem dX1_soundOf_69 : decode cX1_soundOf 69 = .ok (.ishl, 1) := by decide +kernel
theorem dX1_soundOf_70 : decode cX1_soundOf 70 = .ok (.ior, 1) := by decide +kernel
theorem dX1_soundOf_71 : decode cX1_soundOf 71 = .ok (.istore_n 3, 1) := by decide +kernel
theorem dX1_soundOf_72 : decode cX1_soundOf 72 = .ok (.iinc 4 1, 3) := by decide +kernel
theorem dX1_soundOf_75 : decode cX1_soundOf 75 = .ok (.iload 7, 2) := by decide +kernel
theorem dX1_soundOf_77 : decode cX1_soundOf 77 = .ok (.istore_n 2, 1) := by decide +kernel
theorem dX1_soundOf_78 : decode cX1_soundOf 78 = .ok (.iinc 6 1, 3) := by decide +kernel
theorem dX1_soundOf_81 : decode cX1_soundOf 81 = .ok (.goto (-56), 3) := by decide +kernel
theorem dX1_soundOf_84 : decode cX1_soundOf 84 = .ok (.iload_n 3, 1) := by decide +kernel
theorem dX1_soundOf_85 : decode cX1_soundOf 85 = .ok (.ireturn, 1) := by decide +kernel
set_option maxRecDepth 20000 in
theorem ggX1_lengthOfSound_X1_classOfSound : GoodIn wsX1_lengthOfSound wsX1_classOfSound := goodIn_r _ [4] (by decide +kernel) (by decide +kernel)
set_option maxRecDepth 20000 in
theorem gX1_lengthOfSound_X1_classOfSound : GoodIn wsX1_lengthOfSound (va_wsS RX1 27 yX1_classOfSound wsX1_classOfSound) := goodIn_app (goodIn_of _ (by decide +kernel)) ggX1_lengthOfSound_X1_classOfSound
theorem dX1_lengthOfSound_0 : decode cX1_lengthOfSound 0 = .ok (.iconst 0, 1) := by decide +kernel
theorem dX1_lengthOfSound_1 : decode cX1_lengthOfSound 1 = .ok (.istore_n 1, 1) := by decide +kernel
theorem dX1_lengthOfSound_2 : decode cX1_lengthOfSound 2 = .ok (.iload_n 1, 1) := by decide +kernel
theorem dX1_lengthOfSound_3 : decode cX1_lengthOfSound 3 = .ok (.iconst 4, 1) := by decide +kernel
theorem dX1_lengthOfSound_4 : decode cX1_lengthOfSound 4 = .ok (.if_icmp .ge 17, 3) := by decide +kernel
theorem dX1_lengthOfSound_7 : decode cX1_lengthOfSound 7 = .ok (.iload_n 0, 1) := by decide +kernel
theorem dX1_lengthOfSound_8 : decode cX1_lengthOfSound 8 = .ok (.iload_n 1, 1) := by decide +kernel
theorem dX1_lengthOfSound_9 : decode cX1_lengthOfSound 9 = .ok (.invokestatic 27, 3) := by decide +kernel
theorem dX1_lengthOfSound_12 : decode cX1_lengthOfSound 12 = .ok (.ifCond .lt 9, 3) := by decide +kernel
theorem dX1_lengthOfSound_15 : decode cX1_lengthOfSound 15 = .ok (.iinc 1 1, 3) := by decide +kernel
theorem dX1_lengthOfSound_18 : decode cX1_lengthOfSound 18 = .ok (.goto (-16), 3) := by decide +kernel
theorem dX1_lengthOfSound_21 : decode cX1_lengthOfSound 21 = .ok (.iload_n 1, 1) := by decide +kernel
theorem dX1_lengthOfSound_22 : decode cX1_lengthOfSound 22 = .ok (.ireturn, 1) := by decide +kernel
theorem dX1_classOfSound_0 : decode cX1_classOfSound 0 = .ok (.iload_n 0, 1) := by decide +kernel
theorem dX1_classOfSound_1 : decode cX1_classOfSound 1 = .ok (.iconst 4, 1) := by decide +kernel
theorem dX1_classOfSound_2 : decode cX1_classOfSound 2 = .ok (.iload_n 1, 1) := by decide +kernel
theorem dX1_classOfSound_3 : decode cX1_classOfSound 3 = .ok (.imul, 1) := by decide +kernel
theorem dX1_classOfSound_4 : decode cX1_classOfSound 4 = .ok (.iushr, 1) := by decide +kernel
theorem dX1_classOfSound_5 : decode cX1_classOfSound 5 = .ok (.bipush 15, 2) := by decide +kernel
theorem dX1_classOfSound_7 : decode cX1_classOfSound 7 = .ok (.iand, 1) := by decide +kernel
theorem dX1_classOfSound_8 : decode cX1_classOfSound 8 = .ok (.iconst 1, 1) := by decide +kernel
theorem dX1_classOfSound_9 : decode cX1_classOfSound 9 = .ok (.isub, 1) := by decide +kernel
theorem dX1_classOfSound_10 : decode cX1_classOfSound 10 = .ok (.ireturn, 1) := by decide +kernel
set_option maxRecDepth 20000 in
theorem ggX1_areAlike_X1_soundOf : GoodIn wsX1_areAlike wsX1_soundOf := goodIn_r _ [4, 5, 6, 3, 7, 8, 9, 10, 11, 12, 13] (by decide +kernel) (by decide +kernel)
set_option maxRecDepth 20000 in
theorem gX1_areAlike_X1_soundOf : GoodIn wsX1_areAlike (va_wsS RX1 31 yX1_soundOf wsX1_soundOf) := goodIn_app (goodIn_of _ (by decide +kernel)) ggX1_areAlike_X1_soundOf
set_option maxRecDepth 20000 in
theorem ggX1_areAlike_X1_distance : GoodIn wsX1_areAlike wsX1_distance := goodIn_r _ [17, 18, 19, 20, 21, 22, 11, 12, 3, 13, 5, 6, 7, 23] (by decide +kernel) (by decide +kernel)
set_option maxRecDepth 20000 in
theorem gX1_areAlike_X1_distance : GoodIn wsX1_areAlike (wsV RX1 34 RX1 yX1_distance wsX1_distance) := goodIn_app (goodIn_of _ (by decide +kernel)) ggX1_areAlike_X1_distance
theorem dX1_areAlike_0 : decode cX1_areAlike 0 = .ok (.iload 5, 2) := by decide +kernel
theorem dX1_areAlike_2 : decode cX1_areAlike 2 = .ok (.ifCond .ne 15, 3) := by decide +kernel
theorem dX1_areAlike_5 : decode cX1_areAlike 5 = .ok (.lload_n 1, 1) := by decide +kernel
theorem dX1_areAlike_6 : decode cX1_areAlike 6 = .ok (.lload_n 3, 1) := by decide +kernel
theorem dX1_areAlike_7 : decode cX1_areAlike 7 = .ok (.lcmp, 1) := by decide +kernel
theorem dX1_areAlike_8 : decode cX1_areAlike 8 = .ok (.ifCond .ne 7, 3) := by decide +kernel
theorem dX1_areAlike_11 : decode cX1_areAlike 11 = .ok (.iconst 1, 1) := by decide +kernel
theorem dX1_areAlike_12 : decode cX1_areAlike 12 = .ok (.goto 4, 3) := by decide +kernel
theorem dX1_areAlike_15 : decode cX1_areAlike 15 = .ok (.iconst 0, 1) := by decide +kernel
theorem dX1_areAlike_16 : decode cX1_areAlike 16 = .ok (.ireturn, 1) := by decide +kernel
theorem dX1_areAlike_17 : decode cX1_areAlike 17 = .ok (.iload 5, 2) := by decide +kernel
theorem dX1_areAlike_19 : decode cX1_areAlike 19 = .ok (.iconst 1, 1) := by decide +kernel
theorem dX1_areAlike_20 : decode cX1_areAlike 20 = .ok (.if_icmp .ne 20, 3) := by decide +kernel
theorem dX1_areAlike_23 : decode cX1_areAlike 23 = .ok (.lload_n 1, 1) := by decide +kernel
theorem dX1_areAlike_24 : decode cX1_areAlike 24 = .ok (.invokestatic 31, 3) := by decide +kernel
theorem dX1_areAlike_27 : decode cX1_areAlike 27 = .ok (.lload_n 3, 1) := by decide +kernel
theorem dX1_areAlike_28 : decode cX1_areAlike 28 = .ok (.invokestatic 31, 3) := by decide +kernel
theorem dX1_areAlike_31 : decode cX1_areAlike 31 = .ok (.if_icmp .ne 7, 3) := by decide +kernel
theorem dX1_areAlike_34 : decode cX1_areAlike 34 = .ok (.iconst 1, 1) := by decide +kernel
theorem dX1_areAlike_35 : decode cX1_areAlike 35 = .ok (.goto 4, 3) := by decide +kernel
theorem dX1_areAlike_38 : decode cX1_areAlike 38 = .ok (.iconst 0, 1) := by decide +kernel
theorem dX1_areAlike_39 : decode cX1_areAlike 39 = .ok (.ireturn, 1) := by decide +kernel
theorem dX1_areAlike_40 : decode cX1_areAlike 40 = .ok (.aload_n 0, 1) := by decide +kernel
theorem dX1_areAlike_41 : decode cX1_areAlike 41 = .ok (.lload_n 1, 1) := by decide +kernel
theorem dX1_areAlike_42 : decode cX1_areAlike 42 = .ok (.lload_n 3, 1) := by decide +kernel
theorem dX1_areAlike_43 : decode cX1_areAlike 43 = .ok (.invokevirtual 34, 3) := by decide +kernel
theorem dX1_areAlike_46 : decode cX1_areAlike 46 = .ok (.iconst 1, 1) := by decide +kernel
theorem dX1_areAlike_47 : decode cX1_areAlike 47 = .ok (.if_icmp .gt 7, 3) := by decide +kernel
theorem dX1_areAlike_50 : decode cX1_areAlike 50 = .ok (.iconst 1, 1) := by decide +kernel
theorem dX1_areAlike_51 : decode cX1_areAlike 51 = .ok (.goto 4, 3) := by decide +kernel
theorem dX1_areAlike_54 : decode cX1_areAlike 54 = .ok (.iconst 0, 1) := by decide +kernel
theorem dX1_areAlike_55 : decode cX1_areAlike 55 = .ok (.ireturn, 1) := by decide +kernel
set_option maxRecDepth 20000 in
theorem ggX1_distance_X1_lengthOf : GoodIn wsX1_distance wsX1_lengthOf := goodIn_r _ [9, 10, 11, 8, 12] (by decide +kernel) (by decide +kernel)
set_option maxRecDepth 20000 in
theorem gX1_distance_X1_lengthOf : GoodIn wsX1_distance (va_wsS RX1 23 yX1_lengthOf wsX1_lengthOf) := goodIn_app (goodIn_of _ (by decide +kernel)) ggX1_distance_X1_lengthOf
set_option maxRecDepth 20000 in
theorem ggX1_distance_X1_letterOf : GoodIn wsX1_distance wsX1_letterOf := goodIn_r _ [12] (by decide +kernel) (by decide +kernel)
set_option maxRecDepth 20000 in
theorem gX1_distance_X1_letterOf : GoodIn wsX1_distance (va_wsS RX1 15 yX1_letterOf wsX1_letterOf) := goodIn_app (goodIn_of _ (by decide +kernel)) ggX1_distance_X1_letterOf
theorem dX1_distance_0 : decode cX1_distance 0 = .ok (.lload_n 1, 1) := by decide +kernel
theorem dX1_distance_1 : decode cX1_distance 1 = .ok (.invokestatic 23, 3) := by decide +kernel
theorem dX1_distance_4 : decode cX1_distance 4 = .ok (.istore 5, 2) := by decide +kernel
theorem dX1_distance_6 : decode cX1_distance 6 = .ok (.lload_n 3, 1) := by decide +kernel
theorem dX1_distance_7 : decode cX1_distance 7 = .ok (.invokestatic 23, 3) := by decide +kernel
theorem dX1_distance_10 : decode cX1_distance 10 = .ok (.istore 6, 2) := by decide +kernel
theorem dX1_distance_12 : decode cX1_distance 12 = .ok (.iconst 0, 1) := by decide +kernel
theorem dX1_distance_13 : decode cX1_distance 13 = .ok (.istore 7, 2) := by decide +kernel
theorem dX1_distance_15 : decode cX1_distance 15 = .ok (.iload 7, 2) := by decide +kernel
theorem dX1_distance_17 : decode cX1_distance 17 = .ok (.iload 6, 2) := by decide +kernel
theorem dX1_distance_19 : decode cX1_distance 19 = .ok (.if_icmp .gt 18, 3) := by decide +kernel
theorem dX1_distance_22 : decode cX1_distance 22 = .ok (.aload_n 0, 1) := by decide +kernel
theorem dX1_distance_23 : decode cX1_distance 23 = .ok (.getfield 9, 3) := by decide +kernel
theorem dX1_distance_26 : decode cX1_distance 26 = .ok (.iload 7, 2) := by decide +kernel
theorem dX1_distance_28 : decode cX1_distance 28 = .ok (.iload 7, 2) := by decide +kernel
theorem dX1_distance_30 : decode cX1_distance 30 = .ok (.iastore, 1) := by decide +kernel
theorem dX1_distance_31 : decode cX1_distance 31 = .ok (.iinc 7 1, 3) := by decide +kernel
theorem dX1_distance_34 : decode cX1_distance 34 = .ok (.goto (-19), 3) := by decide +kernel
theorem dX1_distance_37 : decode cX1_distance 37 = .ok (.iconst 1, 1) := by decide +kernel
theorem dX1_distance_38 : decode cX1_distance 38 = .ok (.istore 7, 2) := by decide +kernel
theorem dX1_distance_40 : decode cX1_distance 40 = .ok (.iload 7, 2) := by decide +kernel
theorem dX1_distance_42 : decode cX1_distance 42 = .ok (.iload 5, 2) := by decide +kernel
theorem dX1_distance_44 : decode cX1_distance 44 = .ok (.if_icmp .gt 108, 3) := by decide +kernel
theorem dX1_distance_47 : decode cX1_distance 47 = .ok (.aload_n 0, 1) := by decide +kernel
theorem dX1_distance_48 : decode cX1_distance 48 = .ok (.getfield 9, 3) := by decide +kernel
theorem dX1_distance_51 : decode cX1_distance 51 = .ok (.iconst 0, 1) := by decide +kernel
theorem dX1_distance_52 : decode cX1_distance 52 = .ok (.iaload, 1) := by decide +kernel
theorem dX1_distance_53 : decode cX1_distance 53 = .ok (.istore 8, 2) := by decide +kernel
theorem dX1_distance_55 : decode cX1_distance 55 = .ok (.aload_n 0, 1) := by decide +kernel
theorem dX1_distance_56 : decode cX1_distance 56 = .ok (.getfield 9, 3) := by decide +kernel
theorem dX1_distance_59 : decode cX1_distance 59 = .ok (.iconst 0, 1) := by decide +kernel
theorem dX1_distance_60 : decode cX1_distance 60 = .ok (.iload 7, 2) := by decide +kernel
theorem dX1_distance_62 : decode cX1_distance 62 = .ok (.iastore, 1) := by decide +kernel
theorem dX1_distance_63 : decode cX1_distance 63 = .ok (.iconst 1, 1) := by decide +kernel
theorem dX1_distance_64 : decode cX1_distance 64 = .ok (.istore 9, 2) := by decide +kernel
theorem dX1_distance_66 : decode cX1_distance 66 = .ok (.iload 9, 2) := by decide +kernel
theorem dX1_distance_68 : decode cX1_distance 68 = .ok (.iload 6, 2) := by decide +kernel
theorem dX1_distance_70 : decode cX1_distance 70 = .ok (.if_icmp .gt 76, 3) := by decide +kernel
theorem dX1_distance_73 : decode cX1_distance 73 = .ok (.lload_n 1, 1) := by decide +kernel
theorem dX1_distance_74 : decode cX1_distance 74 = .ok (.iload 7, 2) := by decide +kernel
theorem dX1_distance_76 : decode cX1_distance 76 = .ok (.iconst 1, 1) := by decide +kernel
theorem dX1_distance_77 : decode cX1_distance 77 = .ok (.isub, 1) := by decide +kernel
theorem dX1_distance_78 : decode cX1_distance 78 = .ok (.invokestatic 15, 3) := by decide +kernel
theorem dX1_distance_81 : decode cX1_distance 81 = .ok (.lload_n 3, 1) := by decide +kernel
theorem dX1_distance_82 : decode cX1_distance 82 = .ok (.iload 9, 2) := by decide +kernel
theorem dX1_distance_84 : decode cX1_distance 84 = .ok (.iconst 1, 1) := by decide +kernel
theorem dX1_distance_85 : decode cX1_distance 85 = .ok (.isub, 1) := by decide +kernel
theorem dX1_distance_86 : decode cX1_distance 86 = .ok (.invokestatic 15, 3) := by decide +kernel
theorem dX1_distance_89 : decode cX1_distance 89 = .ok (.if_icmp .ne 8, 3) := by decide +kernel
theorem dX1_distance_92 : decode cX1_distance 92 = .ok (.iload 8, 2) := by decide +kernel
theorem dX1_distance_94 : decode cX1_distance 94 = .ok (.goto 7, 3) := by decide +kernel
theorem dX1_distance_97 : decode cX1_distance 97 = .ok (.iload 8, 2) := by decide +kernel
theorem dX1_distance_99 : decode cX1_distance 99 = .ok (.iconst 1, 1) := by decide +kernel
theorem dX1_distance_100 : decode cX1_distance 100 = .ok (.iadd, 1) := by decide +kernel
theorem dX1_distance_101 : decode cX1_distance 101 = .ok (.istore 10, 2) := by decide +kernel
theorem dX1_distance_103 : decode cX1_distance 103 = .ok (.aload_n 0, 1) := by decide +kernel
theorem dX1_distance_104 : decode cX1_distance 104 = .ok (.getfield 9, 3) := by decide +kernel
theorem dX1_distance_107 : decode cX1_distance 107 = .ok (.iload 9, 2) := by decide +kernel
theorem dX1_distance_109 : decode cX1_distance 109 = .ok (.iaload, 1) := by decide +kernel
theorem dX1_distance_110 : decode cX1_distance 110 = .ok (.istore 8, 2) := by decide +kernel
theorem dX1_distance_112 : decode cX1_distance 112 = .ok (.aload_n 0, 1) := by decide +kernel
theorem dX1_distance_113 : decode cX1_distance 113 = .ok (.getfield 9, 3) := by decide +kernel
theorem dX1_distance_116 : decode cX1_distance 116 = .ok (.iload 9, 2) := by decide +kernel
theorem dX1_distance_118 : decode cX1_distance 118 = .ok (.iload 10, 2) := by decide +kernel
theorem dX1_distance_120 : decode cX1_distance 120 = .ok (.iload 8, 2) := by decide +kernel
theorem dX1_distance_122 : decode cX1_distance 122 = .ok (.aload_n 0, 1) := by decide +kernel
theorem dX1_distance_123 : decode cX1_distance 123 = .ok (.getfield 9, 3) := by decide +kernel
theorem dX1_distance_126 : decode cX1_distance 126 = .ok (.iload 9, 2) := by decide +kernel
theorem dX1_distance_128 : decode cX1_distance 128 = .ok (.iconst 1, 1) := by decide +kernel
theorem dX1_distance_129 : decode cX1_distance 129 = .ok (.isub, 1) := by decide +kernel
theorem dX1_distance_130 : decode cX1_distance 130 = .ok (.iaload, 1) := by decide +kernel
theorem dX1_distance_131 : decode cX1_distance 131 = .ok (.invokestatic 38, 3) := by decide +kernel
theorem dX1_distance_134 : decode cX1_distance 134 = .ok (.iconst 1, 1) := by decide +kernel
theorem dX1_distance_135 : decode cX1_distance 135 = .ok (.iadd, 1) := by decide +kernel
theorem dX1_distance_136 : decode cX1_distance 136 = .ok (.invokestatic 38, 3) := by decide +kernel
theorem dX1_distance_139 : decode cX1_distance 139 = .ok (.iastore, 1) := by decide +kernel
theorem dX1_distance_140 : decode cX1_distance 140 = .ok (.iinc 9 1, 3) := by decide +kernel
theorem dX1_distance_143 : decode cX1_distance 143 = .ok (.goto (-77), 3) := by decide +kernel
theorem dX1_distance_146 : decode cX1_distance 146 = .ok (.iinc 7 1, 3) := by decide +kernel
theorem dX1_distance_149 : decode cX1_distance 149 = .ok (.goto (-109), 3) := by decide +kernel
theorem dX1_distance_152 : decode cX1_distance 152 = .ok (.aload_n 0, 1) := by decide +kernel
theorem dX1_distance_153 : decode cX1_distance 153 = .ok (.getfield 9, 3) := by decide +kernel
theorem dX1_distance_156 : decode cX1_distance 156 = .ok (.iload 6, 2) := by decide +kernel
theorem dX1_distance_158 : decode cX1_distance 158 = .ok (.iaload, 1) := by decide +kernel
theorem dX1_distance_159 : decode cX1_distance 159 = .ok (.ireturn, 1) := by decide +kernel
theorem dJ6_bitCount_0f7a4_0 : decode cJ6_bitCount_0f7a4 0 = .ok (.iload_n 0, 1) := by decide +kernel
theorem dJ6_bitCount_0f7a4_1 : decode cJ6_bitCount_0f7a4 1 = .ok (.iload_n 0, 1) := by decide +kernel
theorem dJ6_bitCount_0f7a4_2 : decode cJ6_bitCount_0f7a4 2 = .ok (.iconst 1, 1) := by decide +kernel
theorem dJ6_bitCount_0f7a4_3 : decode cJ6_bitCount_0f7a4 3 = .ok (.iushr, 1) := by decide +kernel
theorem dJ6_bitCount_0f7a4_4 : decode cJ6_bitCount_0f7a4 4 = .ok (.ldc_w 265, 3) := by decide +kernel
theorem dJ6_bitCount_0f7a4_7 : decode cJ6_bitCount_0f7a4 7 = .ok (.iand, 1) := by decide +kernel
theorem dJ6_bitCount_0f7a4_8 : decode cJ6_bitCount_0f7a4 8 = .ok (.isub, 1) := by decide +kernel
theorem dJ6_bitCount_0f7a4_9 : decode cJ6_bitCount_0f7a4 9 = .ok (.istore_n 0, 1) := by decide +kernel
theorem dJ6_bitCount_0f7a4_10 : decode cJ6_bitCount_0f7a4 10 = .ok (.iload_n 0, 1) := by decide +kernel
theorem dJ6_bitCount_0f7a4_11 : decode cJ6_bitCount_0f7a4 11 = .ok (.ldc_w 266, 3) := by decide +kernel
theorem dJ6_bitCount_0f7a4_14 : decode cJ6_bitCount_0f7a4 14 = .ok (.iand, 1) := by decide +kernel
theorem dJ6_bitCount_0f7a4_15 : decode cJ6_bitCount_0f7a4 15 = .ok (.iload_n 0, 1) := by decide +kernel
theorem dJ6_bitCount_0f7a4_16 : decode cJ6_bitCount_0f7a4 16 = .ok (.iconst 2, 1) := by decide +kernel
theorem dJ6_bitCount_0f7a4_17 : decode cJ6_bitCount_0f7a4 17 = .ok (.iushr, 1) := by decide +kernel
theorem dJ6_bitCount_0f7a4_18 : decode cJ6_bitCount_0f7a4 18 = .ok (.ldc_w 266, 3) := by decide +kernel
theorem dJ6_bitCount_0f7a4_21 : decode cJ6_bitCount_0f7a4 21 = .ok (.iand, 1) := by decide +kernel
theorem dJ6_bitCount_0f7a4_22 : decode cJ6_bitCount_0f7a4 22 = .ok (.iadd, 1) := by decide +kernel
theorem dJ6_bitCount_0f7a4_23 : decode cJ6_bitCount_0f7a4 23 = .ok (.istore_n 0, 1) := by decide +kernel
theorem dJ6_bitCount_0f7a4_24 : decode cJ6_bitCount_0f7a4 24 = .ok (.iload_n 0, 1) := by decide +kernel
theorem dJ6_bitCount_0f7a4_25 : decode cJ6_bitCount_0f7a4 25 = .ok (.iload_n 0, 1) := by decide +kernel
theorem dJ6_bitCount_0f7a4_26 : decode cJ6_bitCount_0f7a4 26 = .ok (.iconst 4, 1) := by decide +kernel
theorem dJ6_bitCount_0f7a4_27 : decode cJ6_bitCount_0f7a4 27 = .ok (.iushr, 1) := by decide +kernel
theorem dJ6_bitCount_0f7a4_28 : decode cJ6_bitCount_0f7a4 28 = .ok (.iadd, 1) := by decide +kernel
theorem dJ6_bitCount_0f7a4_29 : decode cJ6_bitCount_0f7a4 29 = .ok (.ldc_w 267, 3) := by decide +kernel
theorem dJ6_bitCount_0f7a4_32 : decode cJ6_bitCount_0f7a4 32 = .ok (.iand, 1) := by decide +kernel
theorem dJ6_bitCount_0f7a4_33 : decode cJ6_bitCount_0f7a4 33 = .ok (.istore_n 0, 1) := by decide +kernel
theorem dJ6_bitCount_0f7a4_34 : decode cJ6_bitCount_0f7a4 34 = .ok (.iload_n 0, 1) := by decide +kernel
theorem dJ6_bitCount_0f7a4_35 : decode cJ6_bitCount_0f7a4 35 = .ok (.iload_n 0, 1) := by decide +kernel
theorem dJ6_bitCount_0f7a4_36 : decode cJ6_bitCount_0f7a4 36 = .ok (.bipush 8, 2) := by decide +kernel
theorem dJ6_bitCount_0f7a4_38 : decode cJ6_bitCount_0f7a4 38 = .ok (.iushr, 1) := by decide +kernel
theorem dJ6_bitCount_0f7a4_39 : decode cJ6_bitCount_0f7a4 39 = .ok (.iadd, 1) := by decide +kernel
theorem dJ6_bitCount_0f7a4_40 : decode cJ6_bitCount_0f7a4 40 = .ok (.istore_n 0, 1) := by decide +kernel
theorem dJ6_bitCount_0f7a4_41 : decode cJ6_bitCount_0f7a4 41 = .ok (.iload_n 0, 1) := by decide +kernel
theorem dJ6_bitCount_0f7a4_42 : decode cJ6_bitCount_0f7a4 42 = .ok (.iload_n 0, 1) := by decide +kernel
theorem dJ6_bitCount_0f7a4_43 : decode cJ6_bitCount_0f7a4 43 = .ok (.bipush 16, 2) := by decide +kernel
theorem dJ6_bitCount_0f7a4_45 : decode cJ6_bitCount_0f7a4 45 = .ok (.iushr, 1) := by decide +kernel
theorem dJ6_bitCount_0f7a4_46 : decode cJ6_bitCount_0f7a4 46 = .ok (.iadd, 1) := by decide +kernel
theorem dJ6_bitCount_0f7a4_47 : decode cJ6_bitCount_0f7a4 47 = .ok (.istore_n 0, 1) := by decide +kernel
theorem dJ6_bitCount_0f7a4_48 : decode cJ6_bitCount_0f7a4 48 = .ok (.iload_n 0, 1) := by decide +kernel
theorem dJ6_bitCount_0f7a4_49 : decode cJ6_bitCount_0f7a4 49 = .ok (.bipush 63, 2) := by decide +kernel
theorem dJ6_bitCount_0f7a4_51 : decode cJ6_bitCount_0f7a4 51 = .ok (.iand, 1) := by decide +kernel
theorem dJ6_bitCount_0f7a4_52 : decode cJ6_bitCount_0f7a4 52 = .ok (.ireturn, 1) := by decide +kernel
theorem dJ9_max_7cf53_0 : decode cJ9_max_7cf53 0 = .ok (.iload_n 0, 1) := by decide +kernel
theorem dJ9_max_7cf53_1 : decode cJ9_max_7cf53 1 = .ok (.iload_n 1, 1) := by decide +kernel
theorem dJ9_max_7cf53_2 : decode cJ9_max_7cf53 2 = .ok (.if_icmp .lt 7, 3) := by decide +kernel
theorem dJ9_max_7cf53_5 : decode cJ9_max_7cf53 5 = .ok (.iload_n 0, 1) := by decide +kernel
theorem dJ9_max_7cf53_6 : decode cJ9_max_7cf53 6 = .ok (.goto 4, 3) := by decide +kernel
theorem dJ9_max_7cf53_9 : decode cJ9_max_7cf53 9 = .ok (.iload_n 1, 1) := by decide +kernel
theorem dJ9_max_7cf53_10 : decode cJ9_max_7cf53 10 = .ok (.ireturn, 1) := by decide +kernel
theorem dJ9_min_7cf53_0 : decode cJ9_min_7cf53 0 = .ok (.iload_n 0, 1) := by decide +kernel
theorem dJ9_min_7cf53_1 : decode cJ9_min_7cf53 1 = .ok (.iload_n 1, 1) := by decide +kernel
theorem dJ9_min_7cf53_2 : decode cJ9_min_7cf53 2 = .ok (.if_icmp .gt 7, 3) := by decide +kernel
theorem dJ9_min_7cf53_5 : decode cJ9_min_7cf53 5 = .ok (.iload_n 0, 1) := by decide +kernel
theorem dJ9_min_7cf53_6 : decode cJ9_min_7cf53 6 = .ok (.goto 4, 3) := by decide +kernel
theorem dJ9_min_7cf53_9 : decode cJ9_min_7cf53 9 = .ok (.iload_n 1, 1) := by decide +kernel
theorem dJ9_min_7cf53_10 : decode cJ9_min_7cf53 10 = .ok (.ireturn, 1) := by decide +kernel
end
section
set_option maxRecDepth 20000 in
theorem ggX2_init_X0_init : GoodIn wsX2_init wsX0_init := goodIn_r _ [16, 17, 2, 3, 18, 19, 20, 21, 22, 23, 24, 25, 26, 27, 32, 33, 34, 35, 36, 37, 38, 39] (by decide +kernel) (by decide +kernel)
set_option maxRecDepth 20000 in
theorem gX2_init_X0_init_n9 : GoodIn wsX2_init (wsX0_init) := ggX2_init_X0_init
set_option maxRecDepth 20000 in
theorem ggX2_init_X1_init : GoodIn wsX2_init wsX1_init := goodIn_r _ [29, 30, 2, 3, 18, 31, 45] (by decide +kernel) (by decide +kernel)
set_option maxRecDepth 20000 in
theorem gX2_init_X1_init_n22 : GoodIn wsX2_init (wsX1_init) := ggX2_init_X1_init
theorem dX2_init_0 : decode cX2_init 0 = .ok (.aload_n 0, 1) := by decide +kernel
theorem dX2_init_1 : decode cX2_init 1 = .ok (.invokespecial 1, 3) := by decide +kernel
theorem dX2_init_4 : decode cX2_init 4 = .ok (.aload_n 0, 1) := by decide +kernel
theorem dX2_init_5 : decode cX2_init 5 = .ok (.new 7, 3) := by decide +kernel
theorem dX2_init_8 : decode cX2_init 8 = .ok (.dup, 1) := by decide +kernel
theorem dX2_init_9 : decode cX2_init 9 = .ok (.invokespecial 9, 3) := by decide +kernel
theorem dX2_init_12 : decode cX2_init 12 = .ok (.putfield 10, 3) := by decide +kernel
theorem dX2_init_15 : decode cX2_init 15 = .ok (.aload_n 0, 1) := by decide +kernel
theorem dX2_init_16 : decode cX2_init 16 = .ok (.iconst 2, 1) := by decide +kernel
theorem dX2_init_17 : decode cX2_init 17 = .ok (.anewarray 7, 3) := by decide +kernel
theorem dX2_init_20 : decode cX2_init 20 = .ok (.dup, 1) := by decide +kernel
theorem dX2_init_21 : decode cX2_init 21 = .ok (.iconst 0, 1) := by decide +kernel
theorem dX2_init_22 : decode cX2_init 22 = .ok (.new 7, 3) := by decide +kernel
theorem dX2_init_25 : decode cX2_init 25 = .ok (.dup, 1) := by decide +kernel
theorem dX2_init_26 : decode cX2_init 26 = .ok (.invokespecial 9, 3) := by decide +kernel
theorem dX2_init_29 : decode cX2_init 29 = .ok (.aastore, 1) := by decide +kernel
theorem dX2_init_30 : decode cX2_init 30 = .ok (.dup, 1) := by decide +kernel
theorem dX2_init_31 : decode cX2_init 31 = .ok (.iconst 1, 1) := by decide +kernel
theorem dX2_init_32 : decode cX2_init 32 = .ok (.new 7, 3) := by decide +kernel
theorem dX2_init_35 : decode cX2_init 35 = .ok (.dup, 1) := by decide +kernel
theorem dX2_init_36 : decode cX2_init 36 = .ok (.invokespecial 9, 3) := by decide +kernel
theorem dX2_init_39 : decode cX2_init 39 = .ok (.aastore, 1) := by decide +kernel
theorem dX2_init_40 : decode cX2_init 40 = .ok (.putfield 16, 3) := by decide +kernel
theorem dX2_init_43 : decode cX2_init 43 = .ok (.aload_n 0, 1) := by decide +kernel
theorem dX2_init_44 : decode cX2_init 44 = .ok (.new 20, 3) := by decide +kernel
theorem dX2_init_47 : decode cX2_init 47 = .ok (.dup, 1) := by decide +kernel
theorem dX2_init_48 : decode cX2_init 48 = .ok (.invokespecial 22, 3) := by decide +kernel
theorem dX2_init_51 : decode cX2_init 51 = .ok (.putfield 23, 3) := by decide +kernel
theorem dX2_init_54 : decode cX2_init 54 = .ok (.aload_n 0, 1) := by decide +kernel
theorem dX2_init_55 : decode cX2_init 55 = .ok (.iconst 0, 1) := by decide +kernel
theorem dX2_init_56 : decode cX2_init 56 = .ok (.putfield 27, 3) := by decide +kernel
theorem dX2_init_59 : decode cX2_init 59 = .ok (.aload_n 0, 1) := by decide +kernel
theorem dX2_init_60 : decode cX2_init 60 = .ok (.lconst 0, 1) := by decide +kernel
theorem dX2_init_61 : decode cX2_init 61 = .ok (.putfield 31, 3) := by decide +kernel
theorem dX2_init_64 : decode cX2_init 64 = .ok (.return_, 1) := by decide +kernel
set_option maxRecDepth 20000 in
theorem ggX2_say_X1_lengthOf : GoodIn wsX2_say wsX1_lengthOf := goodIn_r _ [5, 6, 7, 4, 8] (by decide +kernel) (by decide +kernel)
set_option maxRecDepth 20000 in
theorem gX2_say_X1_lengthOf : GoodIn wsX2_say (va_wsS RX2 35 yX1_lengthOf wsX1_lengthOf) := goodIn_app (goodIn_of _ (by decide +kernel)) ggX2_say_X1_lengthOf
set_option maxRecDepth 20000 in
theorem ggX2_say_X1_withLetter : GoodIn wsX2_say wsX1_withLetter := goodIn_r _ [11] (by decide +kernel) (by decide +kernel)
set_option maxRecDepth 20000 in
theorem gX2_say_X1_withLetter : GoodIn wsX2_say (va_wsS RX2 39 yX1_withLetter wsX1_withLetter) := goodIn_app (goodIn_of _ (by decide +kernel)) ggX2_say_X1_withLetter
theorem dX2_say_0 : decode cX2_say 0 = .ok (.iload_n 1, 1) := by decide +kernel
theorem dX2_say_1 : decode cX2_say 1 = .ok (.bipush 97, 2) := by decide +kernel
theorem dX2_say_3 : decode cX2_say 3 = .ok (.if_icmp .lt 9, 3) := by decide +kernel
theorem dX2_say_6 : decode cX2_say 6 = .ok (.iload_n 1, 1) := by decide +kernel
theorem dX2_say_7 : decode cX2_say 7 = .ok (.bipush 122, 2) := by decide +kernel
theorem dX2_say_9 : decode cX2_say 9 = .ok (.if_icmp .le 6, 3) := by decide +kernel
theorem dX2_say_12 : decode cX2_say 12 = .ok (.bipush (-2), 2) := by decide +kernel
theorem dX2_say_14 : decode cX2_say 14 = .ok (.ireturn, 1) := by decide +kernel
theorem dX2_say_15 : decode cX2_say 15 = .ok (.aload_n 0, 1) := by decide +kernel
theorem dX2_say_16 : decode cX2_say 16 = .ok (.getfield 31, 3) := by decide +kernel
theorem dX2_say_19 : decode cX2_say 19 = .ok (.invokestatic 35, 3) := by decide +kernel
theorem dX2_say_22 : decode cX2_say 22 = .ok (.istore_n 2, 1) := by decide +kernel
theorem dX2_say_23 : decode cX2_say 23 = .ok (.iload_n 2, 1) := by decide +kernel
theorem dX2_say_24 : decode cX2_say 24 = .ok (.bipush 8, 2) := by decide +kernel
theorem dX2_say_26 : decode cX2_say 26 = .ok (.if_icmp .lt 6, 3) := by decide +kernel
theorem dX2_say_29 : decode cX2_say 29 = .ok (.bipush (-4), 2) := by decide +kernel
theorem dX2_say_31 : decode cX2_say 31 = .ok (.ireturn, 1) := by decide +kernel
theorem dX2_say_32 : decode cX2_say 32 = .ok (.aload_n 0, 1) := by decide +kernel
theorem dX2_say_33 : decode cX2_say 33 = .ok (.aload_n 0, 1) := by decide +kernel
theorem dX2_say_34 : decode cX2_say 34 = .ok (.getfield 31, 3) := by decide +kernel
theorem dX2_say_37 : decode cX2_say 37 = .ok (.iload_n 2, 1) := by decide +kernel
theorem dX2_say_38 : decode cX2_say 38 = .ok (.iload_n 1, 1) := by decide +kernel
theorem dX2_say_39 : decode cX2_say 39 = .ok (.invokestatic 39, 3) := by decide +kernel
theorem dX2_say_42 : decode cX2_say 42 = .ok (.putfield 31, 3) := by decide +kernel
theorem dX2_say_45 : decode cX2_say 45 = .ok (.iload_n 2, 1) := by decide +kernel
theorem dX2_say_46 : decode cX2_say 46 = .ok (.iconst 1, 1) := by decide +kernel
theorem dX2_say_47 : decode cX2_say 47 = .ok (.iadd, 1) := by decide +kernel
theorem dX2_say_48 : decode cX2_say 48 = .ok (.ireturn, 1) := by decide +kernel
set_option maxRecDepth 20000 in
theorem ggX2_wipe_X1_lengthOf : GoodIn wsX2_wipe wsX1_lengthOf := goodIn_r _ [5, 6, 7, 4, 8] (by decide +kernel) (by decide +kernel)
set_option maxRecDepth 20000 in
theorem gX2_wipe_X1_lengthOf : GoodIn wsX2_wipe (va_wsS RX2 35 yX1_lengthOf wsX1_lengthOf) := goodIn_app (goodIn_of _ (by decide +kernel)) ggX2_wipe_X1_lengthOf
theorem dX2_wipe_0 : decode cX2_wipe 0 = .ok (.aload_n 0, 1) := by decide +kernel
theorem dX2_wipe_1 : decode cX2_wipe 1 = .ok (.getfield 31, 3) := by decide +kernel
theorem dX2_wipe_4 : decode cX2_wipe 4 = .ok (.invokestatic 35, 3) := by decide +kernel
theorem dX2_wipe_7 : decode cX2_wipe 7 = .ok (.istore_n 1, 1) := by decide +kernel
theorem dX2_wipe_8 : decode cX2_wipe 8 = .ok (.aload_n 0, 1) := by decide +kernel
theorem dX2_wipe_9 : decode cX2_wipe 9 = .ok (.lconst 0, 1) := by decide +kernel
theorem dX2_wipe_10 : decode cX2_wipe 10 = .ok (.putfield 31, 3) := by decide +kernel
theorem dX2_wipe_13 : decode cX2_wipe 13 = .ok (.iload_n 1, 1) := by decide +kernel
theorem dX2_wipe_14 : decode cX2_wipe 14 = .ok (.ireturn, 1) := by decide +kernel
set_option maxRecDepth 20000 in
theorem ggX2_name_X0_knows : GoodIn wsX2_name wsX0_knows := goodIn_r _ [6, 7, 65, 66, 67, 68, 69, 70, 71, 72] (by decide +kernel) (by decide +kernel)
set_option maxRecDepth 20000 in
theorem gX2_name_X0_knows : GoodIn wsX2_name (wsV RX2 43 RX0 yX0_knows wsX0_knows) := goodIn_app (goodIn_of _ (by decide +kernel)) ggX2_name_X0_knows
set_option maxRecDepth 20000 in
theorem ggX2_name_X2_isYear : GoodIn wsX2_name wsX2_isYear := goodIn_r _ [11] (by decide +kernel) (by decide +kernel)
set_option maxRecDepth 20000 in
theorem gX2_name_X2_isYear : GoodIn wsX2_name (va_wsS RX2 47 yX2_isYear wsX2_isYear) := goodIn_app (goodIn_of _ (by decide +kernel)) ggX2_name_X2_isYear
set_option maxRecDepth 20000 in
theorem ggX2_name_X2_padIsNoName : GoodIn wsX2_name wsX2_padIsNoName := goodIn_r _ [15, 16, 60, 61, 62, 63, 64] (by decide +kernel) (by decide +kernel)
set_option maxRecDepth 20000 in
theorem gX2_name_X2_padIsNoName : GoodIn wsX2_name (wsV RX2 50 RX2 yX2_padIsNoName wsX2_padIsNoName) := goodIn_app (goodIn_of _ (by decide +kernel)) ggX2_name_X2_padIsNoName
set_option maxRecDepth 20000 in
theorem ggX2_name_X0_yearOfLast : GoodIn wsX2_name wsX0_yearOfLast := goodIn_r _ [20, 21, 22, 65, 66, 67, 68, 69, 70, 71, 72] (by decide +kernel) (by decide +kernel)
set_option maxRecDepth 20000 in
theorem gX2_name_X0_yearOfLast : GoodIn wsX2_name (wsV RX2 54 RX0 yX0_yearOfLast wsX0_yearOfLast) := goodIn_app (goodIn_of _ (by decide +kernel)) ggX2_name_X0_yearOfLast
set_option maxRecDepth 20000 in
theorem ggX2_name_X0_sitesNow : GoodIn wsX2_name wsX0_sitesNow := goodIn_r _ [26, 21, 27, 28, 29, 5, 30, 31, 32, 33, 34, 35, 36, 37, 38, 39, 40, 65, 66, 67, 68, 69, 70, 71, 72] (by decide +kernel) (by decide +kernel)
set_option maxRecDepth 20000 in
theorem gX2_name_X0_sitesNow : GoodIn wsX2_name (wsV RX2 58 RX0 yX0_sitesNow wsX0_sitesNow) := goodIn_app (goodIn_of _ (by decide +kernel)) ggX2_name_X0_sitesNow
set_option maxRecDepth 20000 in
theorem ggX2_name_X0_isFull : GoodIn wsX2_name wsX0_isFull := goodIn_r _ [44, 21, 65, 66, 67, 68, 69, 70, 71, 72] (by decide +kernel) (by decide +kernel)
set_option maxRecDepth 20000 in
theorem gX2_name_X0_isFull : GoodIn wsX2_name (wsV RX2 62 RX0 yX0_isFull wsX0_isFull) := goodIn_app (goodIn_of _ (by decide +kernel)) ggX2_name_X0_isFull
set_option maxRecDepth 20000 in
theorem ggX2_name_X2_takePad : GoodIn wsX2_name wsX2_takePad := goodIn_r _ [48, 16, 60, 61, 62, 63, 64] (by decide +kernel) (by decide +kernel)
set_option maxRecDepth 20000 in
theorem gX2_name_X2_takePad : GoodIn wsX2_name (wsV RX2 65 RX2 yX2_takePad wsX2_takePad) := goodIn_app (goodIn_of _ (by decide +kernel)) ggX2_name_X2_takePad
set_option maxRecDepth 20000 in
theorem ggX2_name_X0_tell : GoodIn wsX2_name wsX0_tell := goodIn_r _ [52, 53, 21, 22, 38, 39, 40, 54, 7, 55, 42, 43, 5, 44, 65, 66, 67, 68, 69, 70, 71, 72] (by decide +kernel) (by decide +kernel)
set_option maxRecDepth 20000 in
theorem gX2_name_X0_tell : GoodIn wsX2_name (wsV RX2 69 RX0 yX0_tell wsX0_tell) := goodIn_app (goodIn_of _ (by decide +kernel)) ggX2_name_X0_tell
set_option maxRecDepth 20000 in
theorem ggX2_name_X0_lastEvent : GoodIn wsX2_name wsX0_lastEvent := goodIn_r _ [59, 21, 65, 66, 67, 68, 69, 70, 71, 72] (by decide +kernel) (by decide +kernel)
set_option maxRecDepth 20000 in
theorem gX2_name_X0_lastEvent : GoodIn wsX2_name (wsV RX2 73 RX0 yX0_lastEvent wsX0_lastEvent) := goodIn_app (goodIn_of _ (by decide +kernel)) ggX2_name_X0_lastEvent
theorem dX2_name_0 : decode cX2_name 0 = .ok (.aload_n 0, 1) := by decide +kernel
theorem dX2_name_1 : decode cX2_name 1 = .ok (.getfield 10, 3) := by decide +kernel
theorem dX2_name_4 : decode cX2_name 4 = .ok (.iload_n 1, 1) := by decide +kernel
theorem dX2_name_5 : decode cX2_name 5 = .ok (.invokevirtual 43, 3) := by decide +kernel
theorem dX2_name_8 : decode cX2_name 8 = .ok (.ifCond .ne 5, 3) := by decide +kernel
theorem dX2_name_11 : decode cX2_name 11 = .ok (.iconst (-1), 1) := by decide +kernel
theorem dX2_name_12 : decode cX2_name 12 = .ok (.ireturn, 1) := by decide +kernel
theorem dX2_name_13 : decode cX2_name 13 = .ok (.iload_n 2, 1) := by decide +kernel
theorem dX2_name_14 : decode cX2_name 14 = .ok (.invokestatic 47, 3) := by decide +kernel
theorem dX2_name_17 : decode cX2_name 17 = .ok (.ifCond .ne 6, 3) := by decide +kernel
theorem dX2_name_20 : decode cX2_name 20 = .ok (.bipush (-2), 2) := by decide +kernel
theorem dX2_name_22 : decode cX2_name 22 = .ok (.ireturn, 1) := by decide +kernel
theorem dX2_name_23 : decode cX2_name 23 = .ok (.aload_n 0, 1) := by decide +kernel
theorem dX2_name_24 : decode cX2_name 24 = .ok (.invokevirtual 50, 3) := by decide +kernel
theorem dX2_name_27 : decode cX2_name 27 = .ok (.ifCond .eq 6, 3) := by decide +kernel
theorem dX2_name_30 : decode cX2_name 30 = .ok (.bipush (-7), 2) := by decide +kernel
theorem dX2_name_32 : decode cX2_name 32 = .ok (.ireturn, 1) := by decide +kernel
theorem dX2_name_33 : decode cX2_name 33 = .ok (.iload_n 2, 1) := by decide +kernel
theorem dX2_name_34 : decode cX2_name 34 = .ok (.aload_n 0, 1) := by decide +kernel
theorem dX2_name_35 : decode cX2_name 35 = .ok (.getfield 10, 3) := by decide +kernel
theorem dX2_name_38 : decode cX2_name 38 = .ok (.invokevirtual 54, 3) := by decide +kernel
theorem dX2_name_41 : decode cX2_name 41 = .ok (.if_icmp .ge 6, 3) := by decide +kernel
theorem dX2_name_44 : decode cX2_name 44 = .ok (.bipush (-3), 2) := by decide +kernel
theorem dX2_name_46 : decode cX2_name 46 = .ok (.ireturn, 1) := by decide +kernel
theorem dX2_name_47 : decode cX2_name 47 = .ok (.aload_n 0, 1) := by decide +kernel
theorem dX2_name_48 : decode cX2_name 48 = .ok (.getfield 10, 3) := by decide +kernel
theorem dX2_name_51 : decode cX2_name 51 = .ok (.iload_n 1, 1) := by decide +kernel
theorem dX2_name_52 : decode cX2_name 52 = .ok (.invokevirtual 58, 3) := by decide +kernel
theorem dX2_name_55 : decode cX2_name 55 = .ok (.ifCond .ne 6, 3) := by decide +kernel
theorem dX2_name_58 : decode cX2_name 58 = .ok (.bipush (-5), 2) := by decide +kernel
theorem dX2_name_60 : decode cX2_name 60 = .ok (.ireturn, 1) := by decide +kernel
theorem dX2_name_61 : decode cX2_name 61 = .ok (.aload_n 0, 1) := by decide +kernel
theorem dX2_name_62 : decode cX2_name 62 = .ok (.getfield 10, 3) := by decide +kernel
theorem dX2_name_65 : decode cX2_name 65 = .ok (.invokevirtual 62, 3) := by decide +kernel
theorem dX2_name_68 : decode cX2_name 68 = .ok (.ifCond .eq 6, 3) := by decide +kernel
theorem dX2_name_71 : decode cX2_name 71 = .ok (.bipush (-4), 2) := by decide +kernel
theorem dX2_name_73 : decode cX2_name 73 = .ok (.ireturn, 1) := by decide +kernel
theorem dX2_name_74 : decode cX2_name 74 = .ok (.aload_n 0, 1) := by decide +kernel
theorem dX2_name_75 : decode cX2_name 75 = .ok (.getfield 10, 3) := by decide +kernel
theorem dX2_name_78 : decode cX2_name 78 = .ok (.iconst 0, 1) := by decide +kernel
theorem dX2_name_79 : decode cX2_name 79 = .ok (.iload_n 2, 1) := by decide +kernel
theorem dX2_name_80 : decode cX2_name 80 = .ok (.iload_n 1, 1) := by decide +kernel
theorem dX2_name_81 : decode cX2_name 81 = .ok (.iconst 0, 1) := by decide +kernel
theorem dX2_name_82 : decode cX2_name 82 = .ok (.bipush (-6), 2) := by decide +kernel
theorem dX2_name_84 : decode cX2_name 84 = .ok (.aload_n 0, 1) := by decide +kernel
theorem dX2_name_85 : decode cX2_name 85 = .ok (.invokevirtual 65, 3) := by decide +kernel
theorem dX2_name_88 : decode cX2_name 88 = .ok (.invokevirtual 69, 3) := by decide +kernel
theorem dX2_name_91 : decode cX2_name 91 = .ok (.aload_n 0, 1) := by decide +kernel
theorem dX2_name_92 : decode cX2_name 92 = .ok (.getfield 10, 3) := by decide +kernel
theorem dX2_name_95 : decode cX2_name 95 = .ok (.invokevirtual 73, 3) := by decide +kernel
theorem dX2_name_98 : decode cX2_name 98 = .ok (.ireturn, 1) := by decide +kernel
set_option maxRecDepth 20000 in
theorem ggX2_split_X0_knows : GoodIn wsX2_split wsX0_knows := goodIn_r _ [6, 7, 71, 72, 73, 74, 75, 76, 77, 78] (by decide +kernel) (by decide +kernel)
set_option maxRecDepth 20000 in
theorem gX2_split_X0_knows : GoodIn wsX2_split (wsV RX2 43 RX0 yX0_knows wsX0_knows) := goodIn_app (goodIn_of _ (by decide +kernel)) ggX2_split_X0_knows
set_option maxRecDepth 20000 in
theorem ggX2_split_X2_isSetOfSites : GoodIn wsX2_split wsX2_isSetOfSites := goodIn_r _ [11] (by decide +kernel) (by decide +kernel)
set_option maxRecDepth 20000 in
theorem gX2_split_X2_isSetOfSites : GoodIn wsX2_split (va_wsS RX2 76 yX2_isSetOfSites wsX2_isSetOfSites) := goodIn_app (goodIn_of _ (by decide +kernel)) ggX2_split_X2_isSetOfSites
set_option maxRecDepth 20000 in
theorem ggX2_split_X2_isYear : GoodIn wsX2_split wsX2_isYear := goodIn_r _ [14] (by decide +kernel) (by decide +kernel)
set_option maxRecDepth 20000 in
theorem gX2_split_X2_isYear : GoodIn wsX2_split (va_wsS RX2 47 yX2_isYear wsX2_isYear) := goodIn_app (goodIn_of _ (by decide +kernel)) ggX2_split_X2_isYear
set_option maxRecDepth 20000 in
theorem ggX2_split_X2_padIsNoName : GoodIn wsX2_split wsX2_padIsNoName := goodIn_r _ [18, 19, 66, 67, 68, 69, 70] (by decide +kernel) (by decide +kernel)
set_option maxRecDepth 20000 in
theorem gX2_split_X2_padIsNoName : GoodIn wsX2_split (wsV RX2 50 RX2 yX2_padIsNoName wsX2_padIsNoName) := goodIn_app (goodIn_of _ (by decide +kernel)) ggX2_split_X2_padIsNoName
set_option maxRecDepth 20000 in
theorem ggX2_split_X0_yearOfLast : GoodIn wsX2_split wsX0_yearOfLast := goodIn_r _ [23, 24, 25, 71, 72, 73, 74, 75, 76, 77, 78] (by decide +kernel) (by decide +kernel)
set_option maxRecDepth 20000 in
theorem gX2_split_X0_yearOfLast : GoodIn wsX2_split (wsV RX2 54 RX0 yX0_yearOfLast wsX0_yearOfLast) := goodIn_app (goodIn_of _ (by decide +kernel)) ggX2_split_X0_yearOfLast
set_option maxRecDepth 20000 in
theorem ggX2_split_X0_sitesNow : GoodIn wsX2_split wsX0_sitesNow := goodIn_r _ [29, 24, 30, 31, 32, 5, 33, 34, 35, 36, 37, 38, 39, 40, 41, 42, 43, 71, 72, 73, 74, 75, 76, 77, 78] (by decide +kernel) (by decide +kernel)
set_option maxRecDepth 20000 in
theorem gX2_split_X0_sitesNow : GoodIn wsX2_split (wsV RX2 58 RX0 yX0_sitesNow wsX0_sitesNow) := goodIn_app (goodIn_of _ (by decide +kernel)) ggX2_split_X0_sitesNow
set_option maxRecDepth 20000 in
theorem ggX2_split_X2_isProperPart : GoodIn wsX2_split wsX2_isProperPart := goodIn_r _ [46] (by decide +kernel) (by decide +kernel)
set_option maxRecDepth 20000 in
theorem gX2_split_X2_isProperPart : GoodIn wsX2_split (va_wsS RX2 79 yX2_isProperPart wsX2_isProperPart) := goodIn_app (goodIn_of _ (by decide +kernel)) ggX2_split_X2_isProperPart
set_option maxRecDepth 20000 in
theorem ggX2_split_X0_isFull : GoodIn wsX2_split wsX0_isFull := goodIn_r _ [50, 24, 71, 72, 73, 74, 75, 76, 77, 78] (by decide +kernel) (by decide +kernel)
set_option maxRecDepth 20000 in
theorem gX2_split_X0_isFull : GoodIn wsX2_split (wsV RX2 62 RX0 yX0_isFull wsX0_isFull) := goodIn_app (goodIn_of _ (by decide +kernel)) ggX2_split_X0_isFull
set_option maxRecDepth 20000 in
theorem ggX2_split_X0_parishCount : GoodIn wsX2_split wsX0_parishCount := goodIn_r _ [54, 7, 71, 72, 73, 74, 75, 76, 77, 78] (by decide +kernel) (by decide +kernel)
set_option maxRecDepth 20000 in
theorem gX2_split_X0_parishCount : GoodIn wsX2_split (wsV RX2 83 RX0 yX0_parishCount wsX0_parishCount) := goodIn_app (goodIn_of _ (by decide +kernel)) ggX2_split_X0_parishCount
set_option maxRecDepth 20000 in
theorem ggX2_split_X2_takePad : GoodIn wsX2_split wsX2_takePad := goodIn_r _ [58, 19, 66, 67, 68, 69, 70] (by decide +kernel) (by decide +kernel)
set_option maxRecDepth 20000 in
theorem gX2_split_X2_takePad : GoodIn wsX2_split (wsV RX2 65 RX2 yX2_takePad wsX2_takePad) := goodIn_app (goodIn_of _ (by decide +kernel)) ggX2_split_X2_takePad
set_option maxRecDepth 20000 in
theorem ggX2_split_X0_tell : GoodIn wsX2_split wsX0_tell := goodIn_r _ [62, 63, 24, 25, 41, 42, 43, 64, 7, 65, 48, 49, 5, 50, 71, 72, 73, 74, 75, 76, 77, 78] (by decide +kernel) (by decide +kernel)
set_option maxRecDepth 20000 in
theorem gX2_split_X0_tell : GoodIn wsX2_split (wsV RX2 69 RX0 yX0_tell wsX0_tell) := goodIn_app (goodIn_of _ (by decide +kernel)) ggX2_split_X0_tell
theorem dX2_split_0 : decode cX2_split 0 = .ok (.aload_n 0, 1) := by decide +kernel
theorem dX2_split_1 : decode cX2_split 1 = .ok (.getfield 10, 3) := by decide +kernel
theorem dX2_split_4 : decode cX2_split 4 = .ok (.iload_n 1, 1) := by decide +kernel
theorem dX2_split_5 : decode cX2_split 5 = .ok (.invokevirtual 43, 3) := by decide +kernel
theorem dX2_split_8 : decode cX2_split 8 = .ok (.ifCond .ne 5, 3) := by decide +kernel
theorem dX2_split_11 : decode cX2_split 11 = .ok (.iconst (-1), 1) := by decide +kernel
theorem dX2_split_12 : decode cX2_split 12 = .ok (.ireturn, 1) := by decide +kernel
theorem dX2_split_13 : decode cX2_split 13 = .ok (.iload_n 2, 1) := by decide +kernel
theorem dX2_split_14 : decode cX2_split 14 = .ok (.invokestatic 76, 3) := by decide +kernel
theorem dX2_split_17 : decode cX2_split 17 = .ok (.ifCond .eq 10, 3) := by decide +kernel
theorem dX2_split_20 : decode cX2_split 20 = .ok (.iload_n 3, 1) := by decide +kernel
theorem dX2_split_21 : decode cX2_split 21 = .ok (.invokestatic 47, 3) := by decide +kernel
theorem dX2_split_24 : decode cX2_split 24 = .ok (.ifCond .ne 6, 3) := by decide +kernel
theorem dX2_split_27 : decode cX2_split 27 = .ok (.bipush (-2), 2) := by decide +kernel
theorem dX2_split_29 : decode cX2_split 29 = .ok (.ireturn, 1) := by decide +kernel
theorem dX2_split_30 : decode cX2_split 30 = .ok (.aload_n 0, 1) := by decide +kernel
theorem dX2_split_31 : decode cX2_split 31 = .ok (.invokevirtual 50, 3) := by decide +kernel
theorem dX2_split_34 : decode cX2_split 34 = .ok (.ifCond .eq 6, 3) := by decide +kernel
theorem dX2_split_37 : decode cX2_split 37 = .ok (.bipush (-7), 2) := by decide +kernel
theorem dX2_split_39 : decode cX2_split 39 = .ok (.ireturn, 1) := by decide +kernel
theorem dX2_split_40 : decode cX2_split 40 = .ok (.iload_n 3, 1) := by decide +kernel
theorem dX2_split_41 : decode cX2_split 41 = .ok (.aload_n 0, 1) := by decide +kernel
theorem dX2_split_42 : decode cX2_split 42 = .ok (.getfield 10, 3) := by decide +kernel
theorem dX2_split_45 : decode cX2_split 45 = .ok (.invokevirtual 54, 3) := by decide +kernel
theorem dX2_split_48 : decode cX2_split 48 = .ok (.if_icmp .ge 6, 3) := by decide +kernel
theorem dX2_split_51 : decode cX2_split 51 = .ok (.bipush (-3), 2) := by decide +kernel
theorem dX2_split_53 : decode cX2_split 53 = .ok (.ireturn, 1) := by decide +kernel
theorem dX2_split_54 : decode cX2_split 54 = .ok (.iload_n 2, 1) := by decide +kernel
theorem dX2_split_55 : decode cX2_split 55 = .ok (.aload_n 0, 1) := by decide +kernel
theorem dX2_split_56 : decode cX2_split 56 = .ok (.getfield 10, 3) := by decide +kernel
theorem dX2_split_59 : decode cX2_split 59 = .ok (.iload_n 1, 1) := by decide +kernel
theorem dX2_split_60 : decode cX2_split 60 = .ok (.invokevirtual 58, 3) := by decide +kernel
theorem dX2_split_63 : decode cX2_split 63 = .ok (.invokestatic 79, 3) := by decide +kernel
theorem dX2_split_66 : decode cX2_split 66 = .ok (.ifCond .ne 6, 3) := by decide +kernel
theorem dX2_split_69 : decode cX2_split 69 = .ok (.bipush (-5), 2) := by decide +kernel
theorem dX2_split_71 : decode cX2_split 71 = .ok (.ireturn, 1) := by decide +kernel
theorem dX2_split_72 : decode cX2_split 72 = .ok (.aload_n 0, 1) := by decide +kernel
theorem dX2_split_73 : decode cX2_split 73 = .ok (.getfield 10, 3) := by decide +kernel
theorem dX2_split_76 : decode cX2_split 76 = .ok (.invokevirtual 62, 3) := by decide +kernel
theorem dX2_split_79 : decode cX2_split 79 = .ok (.ifCond .ne 15, 3) := by decide +kernel
theorem dX2_split_82 : decode cX2_split 82 = .ok (.aload_n 0, 1) := by decide +kernel
theorem dX2_split_83 : decode cX2_split 83 = .ok (.getfield 10, 3) := by decide +kernel
theorem dX2_split_86 : decode cX2_split 86 = .ok (.invokevirtual 83, 3) := by decide +kernel
theorem dX2_split_89 : decode cX2_split 89 = .ok (.bipush 16, 2) := by decide +kernel
theorem dX2_split_91 : decode cX2_split 91 = .ok (.if_icmp .lt 6, 3) := by decide +kernel
theorem dX2_split_94 : decode cX2_split 94 = .ok (.bipush (-4), 2) := by decide +kernel
theorem dX2_split_96 : decode cX2_split 96 = .ok (.ireturn, 1) := by decide +kernel
theorem dX2_split_97 : decode cX2_split 97 = .ok (.aload_n 0, 1) := by decide +kernel
theorem dX2_split_98 : decode cX2_split 98 = .ok (.getfield 10, 3) := by decide +kernel
theorem dX2_split_101 : decode cX2_split 101 = .ok (.invokevirtual 83, 3) := by decide +kernel
theorem dX2_split_104 : decode cX2_split 104 = .ok (.istore 4, 2) := by decide +kernel
theorem dX2_split_106 : decode cX2_split 106 = .ok (.aload_n 0, 1) := by decide +kernel
theorem dX2_split_107 : decode cX2_split 107 = .ok (.getfield 10, 3) := by decide +kernel
theorem dX2_split_110 : decode cX2_split 110 = .ok (.iconst 1, 1) := by decide +kernel
theorem dX2_split_111 : decode cX2_split 111 = .ok (.iload_n 3, 1) := by decide +kernel
theorem dX2_split_112 : decode cX2_split 112 = .ok (.iload_n 1, 1) := by decide +kernel
theorem dX2_split_113 : decode cX2_split 113 = .ok (.iload_n 2, 1) := by decide +kernel
theorem dX2_split_114 : decode cX2_split 114 = .ok (.iload 4, 2) := by decide +kernel
theorem dX2_split_116 : decode cX2_split 116 = .ok (.aload_n 0, 1) := by decide +kernel
theorem dX2_split_117 : decode cX2_split 117 = .ok (.invokevirtual 65, 3) := by decide +kernel
theorem dX2_split_120 : decode cX2_split 120 = .ok (.invokevirtual 69, 3) := by decide +kernel
theorem dX2_split_123 : decode cX2_split 123 = .ok (.iload 4, 2) := by decide +kernel
theorem dX2_split_125 : decode cX2_split 125 = .ok (.ireturn, 1) := by decide +kernel
set_option maxRecDepth 20000 in
theorem ggX2_merge_X0_knows : GoodIn wsX2_merge wsX0_knows := goodIn_r _ [6, 7, 56, 57, 58, 59, 60, 61, 62, 63] (by decide +kernel) (by decide +kernel)
set_option maxRecDepth 20000 in
theorem gX2_merge_X0_knows : GoodIn wsX2_merge (wsV RX2 43 RX0 yX0_knows wsX0_knows) := goodIn_app (goodIn_of _ (by decide +kernel)) ggX2_merge_X0_knows
set_option maxRecDepth 20000 in
theorem ggX2_merge_X2_isYear : GoodIn wsX2_merge wsX2_isYear := goodIn_r _ [11] (by decide +kernel) (by decide +kernel)
set_option maxRecDepth 20000 in
theorem gX2_merge_X2_isYear : GoodIn wsX2_merge (va_wsS RX2 47 yX2_isYear wsX2_isYear) := goodIn_app (goodIn_of _ (by decide +kernel)) ggX2_merge_X2_isYear
set_option maxRecDepth 20000 in
theorem ggX2_merge_X0_yearOfLast : GoodIn wsX2_merge wsX0_yearOfLast := goodIn_r _ [15, 16, 17, 56, 57, 58, 59, 60, 61, 62, 63] (by decide +kernel) (by decide +kernel)
set_option maxRecDepth 20000 in
theorem gX2_merge_X0_yearOfLast : GoodIn wsX2_merge (wsV RX2 54 RX0 yX0_yearOfLast wsX0_yearOfLast) := goodIn_app (goodIn_of _ (by decide +kernel)) ggX2_merge_X0_yearOfLast
set_option maxRecDepth 20000 in
theorem ggX2_merge_X0_sitesNow : GoodIn wsX2_merge wsX0_sitesNow := goodIn_r _ [21, 16, 22, 23, 24, 5, 25, 26, 27, 28, 29, 30, 31, 32, 33, 34, 35, 56, 57, 58, 59, 60, 61, 62, 63] (by decide +kernel) (by decide +kernel)
set_option maxRecDepth 20000 in
theorem gX2_merge_X0_sitesNow : GoodIn wsX2_merge (wsV RX2 58 RX0 yX0_sitesNow wsX0_sitesNow) := goodIn_app (goodIn_of _ (by decide +kernel)) ggX2_merge_X0_sitesNow
set_option maxRecDepth 20000 in
theorem ggX2_merge_X0_isFull : GoodIn wsX2_merge wsX0_isFull := goodIn_r _ [39, 16, 56, 57, 58, 59, 60, 61, 62, 63] (by decide +kernel) (by decide +kernel)
set_option maxRecDepth 20000 in
theorem gX2_merge_X0_isFull : GoodIn wsX2_merge (wsV RX2 62 RX0 yX0_isFull wsX0_isFull) := goodIn_app (goodIn_of _ (by decide +kernel)) ggX2_merge_X0_isFull
set_option maxRecDepth 20000 in
theorem ggX2_merge_X0_tell : GoodIn wsX2_merge wsX0_tell := goodIn_r _ [43, 44, 16, 17, 33, 34, 35, 45, 7, 46, 37, 38, 5, 39, 56, 57, 58, 59, 60, 61, 62, 63] (by decide +kernel) (by decide +kernel)
set_option maxRecDepth 20000 in
theorem gX2_merge_X0_tell : GoodIn wsX2_merge (wsV RX2 69 RX0 yX0_tell wsX0_tell) := goodIn_app (goodIn_of _ (by decide +kernel)) ggX2_merge_X0_tell
set_option maxRecDepth 20000 in
theorem ggX2_merge_X0_lastEvent : GoodIn wsX2_merge wsX0_lastEvent := goodIn_r _ [50, 16, 56, 57, 58, 59, 60, 61, 62, 63] (by decide +kernel) (by decide +kernel)
set_option maxRecDepth 20000 in
theorem gX2_merge_X0_lastEvent : GoodIn wsX2_merge (wsV RX2 73 RX0 yX0_lastEvent wsX0_lastEvent) := goodIn_app (goodIn_of _ (by decide +kernel)) ggX2_merge_X0_lastEvent
theorem dX2_merge_0 : decode cX2_merge 0 = .ok (.aload_n 0, 1) := by decide +kernel
theorem dX2_merge_1 : decode cX2_merge 1 = .ok (.getfield 10, 3) := by decide +kernel
theorem dX2_merge_4 : decode cX2_merge 4 = .ok (.iload_n 1, 1) := by decide +kernel
theorem dX2_merge_5 : decode cX2_merge 5 = .ok (.invokevirtual 43, 3) := by decide +kernel
theorem dX2_merge_8 : decode cX2_merge 8 = .ok (.ifCond .eq 14, 3) := by decide +kernel
theorem dX2_merge_11 : decode cX2_merge 11 = .ok (.aload_n 0, 1) := by decide +kernel
theorem dX2_merge_12 : decode cX2_merge 12 = .ok (.getfield 10, 3) := by decide +kernel
theorem dX2_merge_15 : decode cX2_merge 15 = .ok (.iload_n 2, 1) := by decide +kernel
theorem dX2_merge_16 : decode cX2_merge 16 = .ok (.invokevirtual 43, 3) := by decide +kernel
theorem dX2_merge_19 : decode cX2_merge 19 = .ok (.ifCond .ne 5, 3) := by decide +kernel
theorem dX2_merge_22 : decode cX2_merge 22 = .ok (.iconst (-1), 1) := by decide +kernel
theorem dX2_merge_23 : decode cX2_merge 23 = .ok (.ireturn, 1) := by decide +kernel
theorem dX2_merge_24 : decode cX2_merge 24 = .ok (.iload_n 1, 1) := by decide +kernel
theorem dX2_merge_25 : decode cX2_merge 25 = .ok (.iload_n 2, 1) := by decide +kernel
theorem dX2_merge_26 : decode cX2_merge 26 = .ok (.if_icmp .eq 10, 3) := by decide +kernel
theorem dX2_merge_29 : decode cX2_merge 29 = .ok (.iload_n 3, 1) := by decide +kernel
theorem dX2_merge_30 : decode cX2_merge 30 = .ok (.invokestatic 47, 3) := by decide +kernel
theorem dX2_merge_33 : decode cX2_merge 33 = .ok (.ifCond .ne 6, 3) := by decide +kernel
theorem dX2_merge_36 : decode cX2_merge 36 = .ok (.bipush (-2), 2) := by decide +kernel
theorem dX2_merge_38 : decode cX2_merge 38 = .ok (.ireturn, 1) := by decide +kernel
theorem dX2_merge_39 : decode cX2_merge 39 = .ok (.iload_n 3, 1) := by decide +kernel
theorem dX2_merge_40 : decode cX2_merge 40 = .ok (.aload_n 0, 1) := by decide +kernel
theorem dX2_merge_41 : decode cX2_merge 41 = .ok (.getfield 10, 3) := by decide +kernel
theorem dX2_merge_44 : decode cX2_merge 44 = .ok (.invokevirtual 54, 3) := by decide +kernel
theorem dX2_merge_47 : decode cX2_merge 47 = .ok (.if_icmp .ge 6, 3) := by decide +kernel
theorem dX2_merge_50 : decode cX2_merge 50 = .ok (.bipush (-3), 2) := by decide +kernel
theorem dX2_merge_52 : decode cX2_merge 52 = .ok (.ireturn, 1) := by decide +kernel
theorem dX2_merge_53 : decode cX2_merge 53 = .ok (.aload_n 0, 1) := by decide +kernel
theorem dX2_merge_54 : decode cX2_merge 54 = .ok (.getfield 10, 3) := by decide +kernel
theorem dX2_merge_57 : decode cX2_merge 57 = .ok (.iload_n 1, 1) := by decide +kernel
theorem dX2_merge_58 : decode cX2_merge 58 = .ok (.invokevirtual 58, 3) := by decide +kernel
theorem dX2_merge_61 : decode cX2_merge 61 = .ok (.istore 4, 2) := by decide +kernel
theorem dX2_merge_63 : decode cX2_merge 63 = .ok (.iload 4, 2) := by decide +kernel
theorem dX2_merge_65 : decode cX2_merge 65 = .ok (.ifCond .eq 14, 3) := by decide +kernel
theorem dX2_merge_68 : decode cX2_merge 68 = .ok (.aload_n 0, 1) := by decide +kernel
theorem dX2_merge_69 : decode cX2_merge 69 = .ok (.getfield 10, 3) := by decide +kernel
theorem dX2_merge_72 : decode cX2_merge 72 = .ok (.iload_n 2, 1) := by decide +kernel
theorem dX2_merge_73 : decode cX2_merge 73 = .ok (.invokevirtual 58, 3) := by decide +kernel
theorem dX2_merge_76 : decode cX2_merge 76 = .ok (.ifCond .ne 6, 3) := by decide +kernel
theorem dX2_merge_79 : decode cX2_merge 79 = .ok (.bipush (-5), 2) := by decide +kernel
theorem dX2_merge_81 : decode cX2_merge 81 = .ok (.ireturn, 1) := by decide +kernel
theorem dX2_merge_82 : decode cX2_merge 82 = .ok (.aload_n 0, 1) := by decide +kernel
theorem dX2_merge_83 : decode cX2_merge 83 = .ok (.getfield 10, 3) := by decide +kernel
theorem dX2_merge_86 : decode cX2_merge 86 = .ok (.invokevirtual 62, 3) := by decide +kernel
theorem dX2_merge_89 : decode cX2_merge 89 = .ok (.ifCond .eq 6, 3) := by decide +kernel
theorem dX2_merge_92 : decode cX2_merge 92 = .ok (.bipush (-4), 2) := by decide +kernel
theorem dX2_merge_94 : decode cX2_merge 94 = .ok (.ireturn, 1) := by decide +kernel
theorem dX2_merge_95 : decode cX2_merge 95 = .ok (.aload_n 0, 1) := by decide +kernel
theorem dX2_merge_96 : decode cX2_merge 96 = .ok (.getfield 10, 3) := by decide +kernel
theorem dX2_merge_99 : decode cX2_merge 99 = .ok (.iconst 2, 1) := by decide +kernel
theorem dX2_merge_100 : decode cX2_merge 100 = .ok (.iload_n 3, 1) := by decide +kernel
theorem dX2_merge_101 : decode cX2_merge 101 = .ok (.iload_n 1, 1) := by decide +kernel
theorem dX2_merge_102 : decode cX2_merge 102 = .ok (.iload 4, 2) := by decide +kernel
theorem dX2_merge_104 : decode cX2_merge 104 = .ok (.iload_n 2, 1) := by decide +kernel
theorem dX2_merge_105 : decode cX2_merge 105 = .ok (.lconst 0, 1) := by decide +kernel
theorem dX2_merge_106 : decode cX2_merge 106 = .ok (.invokevirtual 69, 3) := by decide +kernel
theorem dX2_merge_109 : decode cX2_merge 109 = .ok (.aload_n 0, 1) := by decide +kernel
theorem dX2_merge_110 : decode cX2_merge 110 = .ok (.getfield 10, 3) := by decide +kernel
theorem dX2_merge_113 : decode cX2_merge 113 = .ok (.invokevirtual 73, 3) := by decide +kernel
theorem dX2_merge_116 : decode cX2_merge 116 = .ok (.ireturn, 1) := by decide +kernel
set_option maxRecDepth 20000 in
theorem ggX2_shift_X0_knows : GoodIn wsX2_shift wsX0_knows := goodIn_r _ [6, 7, 62, 63, 64, 65, 66, 67, 68, 69] (by decide +kernel) (by decide +kernel)
set_option maxRecDepth 20000 in
theorem gX2_shift_X0_knows : GoodIn wsX2_shift (wsV RX2 43 RX0 yX0_knows wsX0_knows) := goodIn_app (goodIn_of _ (by decide +kernel)) ggX2_shift_X0_knows
set_option maxRecDepth 20000 in
theorem ggX2_shift_X2_isSetOfSites : GoodIn wsX2_shift wsX2_isSetOfSites := goodIn_r _ [11] (by decide +kernel) (by decide +kernel)
set_option maxRecDepth 20000 in
theorem gX2_shift_X2_isSetOfSites : GoodIn wsX2_shift (va_wsS RX2 76 yX2_isSetOfSites wsX2_isSetOfSites) := goodIn_app (goodIn_of _ (by decide +kernel)) ggX2_shift_X2_isSetOfSites
set_option maxRecDepth 20000 in
theorem ggX2_shift_X2_isYear : GoodIn wsX2_shift wsX2_isYear := goodIn_r _ [14] (by decide +kernel) (by decide +kernel)
set_option maxRecDepth 20000 in
theorem gX2_shift_X2_isYear : GoodIn wsX2_shift (va_wsS RX2 47 yX2_isYear wsX2_isYear) := goodIn_app (goodIn_of _ (by decide +kernel)) ggX2_shift_X2_isYear
set_option maxRecDepth 20000 in
theorem ggX2_shift_X0_yearOfLast : GoodIn wsX2_shift wsX0_yearOfLast := goodIn_r _ [18, 19, 20, 62, 63, 64, 65, 66, 67, 68, 69] (by decide +kernel) (by decide +kernel)
set_option maxRecDepth 20000 in
theorem gX2_shift_X0_yearOfLast : GoodIn wsX2_shift (wsV RX2 54 RX0 yX0_yearOfLast wsX0_yearOfLast) := goodIn_app (goodIn_of _ (by decide +kernel)) ggX2_shift_X0_yearOfLast
set_option maxRecDepth 20000 in
theorem ggX2_shift_X0_sitesNow : GoodIn wsX2_shift wsX0_sitesNow := goodIn_r _ [24, 19, 25, 26, 27, 5, 28, 29, 30, 31, 32, 33, 34, 35, 36, 37, 38, 62, 63, 64, 65, 66, 67, 68, 69] (by decide +kernel) (by decide +kernel)
set_option maxRecDepth 20000 in
theorem gX2_shift_X0_sitesNow : GoodIn wsX2_shift (wsV RX2 58 RX0 yX0_sitesNow wsX0_sitesNow) := goodIn_app (goodIn_of _ (by decide +kernel)) ggX2_shift_X0_sitesNow
set_option maxRecDepth 20000 in
theorem ggX2_shift_X2_isProperPart : GoodIn wsX2_shift wsX2_isProperPart := goodIn_r _ [41] (by decide +kernel) (by decide +kernel)
set_option maxRecDepth 20000 in
theorem gX2_shift_X2_isProperPart : GoodIn wsX2_shift (va_wsS RX2 79 yX2_isProperPart wsX2_isProperPart) := goodIn_app (goodIn_of _ (by decide +kernel)) ggX2_shift_X2_isProperPart
set_option maxRecDepth 20000 in
theorem ggX2_shift_X0_isFull : GoodIn wsX2_shift wsX0_isFull := goodIn_r _ [45, 19, 62, 63, 64, 65, 66, 67, 68, 69] (by decide +kernel) (by decide +kernel)
set_option maxRecDepth 20000 in
theorem gX2_shift_X0_isFull : GoodIn wsX2_shift (wsV RX2 62 RX0 yX0_isFull wsX0_isFull) := goodIn_app (goodIn_of _ (by decide +kernel)) ggX2_shift_X0_isFull
set_option maxRecDepth 20000 in
theorem ggX2_shift_X0_tell : GoodIn wsX2_shift wsX0_tell := goodIn_r _ [49, 50, 19, 20, 36, 37, 38, 51, 7, 52, 43, 44, 5, 45, 62, 63, 64, 65, 66, 67, 68, 69] (by decide +kernel) (by decide +kernel)
set_option maxRecDepth 20000 in
theorem gX2_shift_X0_tell : GoodIn wsX2_shift (wsV RX2 69 RX0 yX0_tell wsX0_tell) := goodIn_app (goodIn_of _ (by decide +kernel)) ggX2_shift_X0_tell
set_option maxRecDepth 20000 in
theorem ggX2_shift_X0_lastEvent : GoodIn wsX2_shift wsX0_lastEvent := goodIn_r _ [56, 19, 62, 63, 64, 65, 66, 67, 68, 69] (by decide +kernel) (by decide +kernel)
set_option maxRecDepth 20000 in
theorem gX2_shift_X0_lastEvent : GoodIn wsX2_shift (wsV RX2 73 RX0 yX0_lastEvent wsX0_lastEvent) := goodIn_app (goodIn_of _ (by decide +kernel)) ggX2_shift_X0_lastEvent
theorem dX2_shift_0 : decode cX2_shift 0 = .ok (.aload_n 0, 1) := by decide +kernel
theorem dX2_shift_1 : decode cX2_shift 1 = .ok (.getfield 10, 3) := by decide +kernel
theorem dX2_shift_4 : decode cX2_shift 4 = .ok (.iload_n 1, 1) := by decide +kernel
theorem dX2_shift_5 : decode cX2_shift 5 = .ok (.invokevirtual 43, 3) := by decide +kernel
theorem dX2_shift_8 : decode cX2_shift 8 = .ok (.ifCond .eq 14, 3) := by decide +kernel
theorem dX2_shift_11 : decode cX2_shift 11 = .ok (.aload_n 0, 1) := by decide +kernel
theorem dX2_shift_12 : decode cX2_shift 12 = .ok (.getfield 10, 3) := by decide +kernel
theorem dX2_shift_15 : decode cX2_shift 15 = .ok (.iload_n 3, 1) := by decide +kernel
theorem dX2_shift_16 : decode cX2_shift 16 = .ok (.invokevirtual 43, 3) := by decide +kernel
theorem dX2_shift_19 : decode cX2_shift 19 = .ok (.ifCond .ne 5, 3) := by decide +kernel
theorem dX2_shift_22 : decode cX2_shift 22 = .ok (.iconst (-1), 1) := by decide +kernel
theorem dX2_shift_23 : decode cX2_shift 23 = .ok (.ireturn, 1) := by decide +kernel
theorem dX2_shift_24 : decode cX2_shift 24 = .ok (.iload_n 1, 1) := by decide +kernel
theorem dX2_shift_25 : decode cX2_shift 25 = .ok (.iload_n 3, 1) := by decide +kernel
theorem dX2_shift_26 : decode cX2_shift 26 = .ok (.if_icmp .eq 18, 3) := by decide +kernel
theorem dX2_shift_29 : decode cX2_shift 29 = .ok (.iload_n 2, 1) := by decide +kernel
theorem dX2_shift_30 : decode cX2_shift 30 = .ok (.invokestatic 76, 3) := by decide +kernel
theorem dX2_shift_33 : decode cX2_shift 33 = .ok (.ifCond .eq 11, 3) := by decide +kernel
theorem dX2_shift_36 : decode cX2_shift 36 = .ok (.iload 4, 2) := by decide +kernel
theorem dX2_shift_38 : decode cX2_shift 38 = .ok (.invokestatic 47, 3) := by decide +kernel
theorem dX2_shift_41 : decode cX2_shift 41 = .ok (.ifCond .ne 6, 3) := by decide +kernel
theorem dX2_shift_44 : decode cX2_shift 44 = .ok (.bipush (-2), 2) := by decide +kernel
theorem dX2_shift_46 : decode cX2_shift 46 = .ok (.ireturn, 1) := by decide +kernel
theorem dX2_shift_47 : decode cX2_shift 47 = .ok (.iload 4, 2) := by decide +kernel
theorem dX2_shift_49 : decode cX2_shift 49 = .ok (.aload_n 0, 1) := by decide +kernel
theorem dX2_shift_50 : decode cX2_shift 50 = .ok (.getfield 10, 3) := by decide +kernel
theorem dX2_shift_53 : decode cX2_shift 53 = .ok (.invokevirtual 54, 3) := by decide +kernel
theorem dX2_shift_56 : decode cX2_shift 56 = .ok (.if_icmp .ge 6, 3) := by decide +kernel
theorem dX2_shift_59 : decode cX2_shift 59 = .ok (.bipush (-3), 2) := by decide +kernel
theorem dX2_shift_61 : decode cX2_shift 61 = .ok (.ireturn, 1) := by decide +kernel
theorem dX2_shift_62 : decode cX2_shift 62 = .ok (.aload_n 0, 1) := by decide +kernel
theorem dX2_shift_63 : decode cX2_shift 63 = .ok (.getfield 10, 3) := by decide +kernel
theorem dX2_shift_66 : decode cX2_shift 66 = .ok (.iload_n 3, 1) := by decide +kernel
theorem dX2_shift_67 : decode cX2_shift 67 = .ok (.invokevirtual 58, 3) := by decide +kernel
theorem dX2_shift_70 : decode cX2_shift 70 = .ok (.ifCond .eq 18, 3) := by decide +kernel
theorem dX2_shift_73 : decode cX2_shift 73 = .ok (.iload_n 2, 1) := by decide +kernel
theorem dX2_shift_74 : decode cX2_shift 74 = .ok (.aload_n 0, 1) := by decide +kernel
theorem dX2_shift_75 : decode cX2_shift 75 = .ok (.getfield 10, 3) := by decide +kernel
theorem dX2_shift_78 : decode cX2_shift 78 = .ok (.iload_n 1, 1) := by decide +kernel
theorem dX2_shift_79 : decode cX2_shift 79 = .ok (.invokevirtual 58, 3) := by decide +kernel
theorem dX2_shift_82 : decode cX2_shift 82 = .ok (.invokestatic 79, 3) := by decide +kernel
theorem dX2_shift_85 : decode cX2_shift 85 = .ok (.ifCond .ne 6, 3) := by decide +kernel
theorem dX2_shift_88 : decode cX2_shift 88 = .ok (.bipush (-5), 2) := by decide +kernel
theorem dX2_shift_90 : decode cX2_shift 90 = .ok (.ireturn, 1) := by decide +kernel
theorem dX2_shift_91 : decode cX2_shift 91 = .ok (.aload_n 0, 1) := by decide +kernel
theorem dX2_shift_92 : decode cX2_shift 92 = .ok (.getfield 10, 3) := by decide +kernel
theorem dX2_shift_95 : decode cX2_shift 95 = .ok (.invokevirtual 62, 3) := by decide +kernel
theorem dX2_shift_98 : decode cX2_shift 98 = .ok (.ifCond .eq 6, 3) := by decide +kernel
theorem dX2_shift_101 : decode cX2_shift 101 = .ok (.bipush (-4), 2) := by decide +kernel
theorem dX2_shift_103 : decode cX2_shift 103 = .ok (.ireturn, 1) := by decide +kernel
theorem dX2_shift_104 : decode cX2_shift 104 = .ok (.aload_n 0, 1) := by decide +kernel
theorem dX2_shift_105 : decode cX2_shift 105 = .ok (.getfield 10, 3) := by decide +kernel
theorem dX2_shift_108 : decode cX2_shift 108 = .ok (.iconst 3, 1) := by decide +kernel
theorem dX2_shift_109 : decode cX2_shift 109 = .ok (.iload 4, 2) := by decide +kernel
theorem dX2_shift_111 : decode cX2_shift 111 = .ok (.iload_n 1, 1) := by decide +kernel
theorem dX2_shift_112 : decode cX2_shift 112 = .ok (.iload_n 2, 1) := by decide +kernel
theorem dX2_shift_113 : decode cX2_shift 113 = .ok (.iload_n 3, 1) := by decide +kernel
theorem dX2_shift_114 : decode cX2_shift 114 = .ok (.lconst 0, 1) := by decide +kernel
theorem dX2_shift_115 : decode cX2_shift 115 = .ok (.invokevirtual 69, 3) := by decide +kernel
theorem dX2_shift_118 : decode cX2_shift 118 = .ok (.aload_n 0, 1) := by decide +kernel
theorem dX2_shift_119 : decode cX2_shift 119 = .ok (.getfield 10, 3) := by decide +kernel
theorem dX2_shift_122 : decode cX2_shift 122 = .ok (.invokevirtual 73, 3) := by decide +kernel
theorem dX2_shift_125 : decode cX2_shift 125 = .ok (.ireturn, 1) := by decide +kernel
set_option maxRecDepth 20000 in
theorem ggX2_undo_X0_eventCount : GoodIn wsX2_undo wsX0_eventCount := goodIn_r _ [6, 7, 19, 20, 21, 22, 23, 24, 25, 26] (by decide +kernel) (by decide +kernel)
set_option maxRecDepth 20000 in
theorem gX2_undo_X0_eventCount : GoodIn wsX2_undo (wsV RX2 86 RX0 yX0_eventCount wsX0_eventCount) := goodIn_app (goodIn_of _ (by decide +kernel)) ggX2_undo_X0_eventCount
set_option maxRecDepth 20000 in
theorem ggX2_undo_X0_forgetLast : GoodIn wsX2_undo wsX0_forgetLast := goodIn_r _ [11, 7, 12, 13, 19, 20, 21, 22, 23, 24, 25, 26] (by decide +kernel) (by decide +kernel)
set_option maxRecDepth 20000 in
theorem gX2_undo_X0_forgetLast : GoodIn wsX2_undo (wsV RX2 89 RX0 yX0_forgetLast wsX0_forgetLast) := goodIn_app (goodIn_of _ (by decide +kernel)) ggX2_undo_X0_forgetLast
theorem dX2_undo_0 : decode cX2_undo 0 = .ok (.aload_n 0, 1) := by decide +kernel
theorem dX2_undo_1 : decode cX2_undo 1 = .ok (.getfield 10, 3) := by decide +kernel
theorem dX2_undo_4 : decode cX2_undo 4 = .ok (.invokevirtual 86, 3) := by decide +kernel
theorem dX2_undo_7 : decode cX2_undo 7 = .ok (.ifCond .ne 6, 3) := by decide +kernel
theorem dX2_undo_10 : decode cX2_undo 10 = .ok (.bipush (-6), 2) := by decide +kernel
theorem dX2_undo_12 : decode cX2_undo 12 = .ok (.ireturn, 1) := by decide +kernel
theorem dX2_undo_13 : decode cX2_undo 13 = .ok (.aload_n 0, 1) := by decide +kernel
theorem dX2_undo_14 : decode cX2_undo 14 = .ok (.getfield 10, 3) := by decide +kernel
theorem dX2_undo_17 : decode cX2_undo 17 = .ok (.invokevirtual 89, 3) := by decide +kernel
theorem dX2_undo_20 : decode cX2_undo 20 = .ok (.aload_n 0, 1) := by decide +kernel
theorem dX2_undo_21 : decode cX2_undo 21 = .ok (.getfield 10, 3) := by decide +kernel
theorem dX2_undo_24 : decode cX2_undo 24 = .ok (.invokevirtual 86, 3) := by decide +kernel
theorem dX2_undo_27 : decode cX2_undo 27 = .ok (.ireturn, 1) := by decide +kernel
set_option maxRecDepth 20000 in
theorem ggX2_event_X0_factOf : GoodIn wsX2_event wsX0_factOf := goodIn_r _ [6, 7, 8, 9, 10, 11, 12, 18, 19, 20, 21, 22, 23, 24, 25] (by decide +kernel) (by decide +kernel)
set_option maxRecDepth 20000 in
theorem gX2_event_X0_factOf : GoodIn wsX2_event (wsV RX2 92 RX0 yX0_factOf wsX0_factOf) := goodIn_app (goodIn_of _ (by decide +kernel)) ggX2_event_X0_factOf
theorem dX2_event_0 : decode cX2_event 0 = .ok (.iload_n 2, 1) := by decide +kernel
theorem dX2_event_1 : decode cX2_event 1 = .ok (.ifCond .lt 8, 3) := by decide +kernel
theorem dX2_event_4 : decode cX2_event 4 = .ok (.iload_n 2, 1) := by decide +kernel
theorem dX2_event_5 : decode cX2_event 5 = .ok (.iconst 4, 1) := by decide +kernel
theorem dX2_event_6 : decode cX2_event 6 = .ok (.if_icmp .le 6, 3) := by decide +kernel
theorem dX2_event_9 : decode cX2_event 9 = .ok (.bipush (-2), 2) := by decide +kernel
theorem dX2_event_11 : decode cX2_event 11 = .ok (.ireturn, 1) := by decide +kernel
theorem dX2_event_12 : decode cX2_event 12 = .ok (.aload_n 0, 1) := by decide +kernel
theorem dX2_event_13 : decode cX2_event 13 = .ok (.getfield 10, 3) := by decide +kernel
theorem dX2_event_16 : decode cX2_event 16 = .ok (.iload_n 1, 1) := by decide +kernel
theorem dX2_event_17 : decode cX2_event 17 = .ok (.iload_n 2, 1) := by decide +kernel
theorem dX2_event_18 : decode cX2_event 18 = .ok (.invokevirtual 92, 3) := by decide +kernel
theorem dX2_event_21 : decode cX2_event 21 = .ok (.ireturn, 1) := by decide +kernel
set_option maxRecDepth 20000 in
theorem ggX2_at_X2_isSite : GoodIn wsX2_at wsX2_isSite := goodIn_r _ [5] (by decide +kernel) (by decide +kernel)
set_option maxRecDepth 20000 in
theorem gX2_at_X2_isSite : GoodIn wsX2_at (va_wsS RX2 96 yX2_isSite wsX2_isSite) := goodIn_app (goodIn_of _ (by decide +kernel)) ggX2_at_X2_isSite
set_option maxRecDepth 20000 in
theorem ggX2_at_X2_isYear : GoodIn wsX2_at wsX2_isYear := goodIn_r _ [8] (by decide +kernel) (by decide +kernel)
set_option maxRecDepth 20000 in
theorem gX2_at_X2_isYear : GoodIn wsX2_at (va_wsS RX2 47 yX2_isYear wsX2_isYear) := goodIn_app (goodIn_of _ (by decide +kernel)) ggX2_at_X2_isYear
set_option maxRecDepth 20000 in
theorem ggX2_at_X0_stageIn : GoodIn wsX2_at wsX0_stageIn := goodIn_r _ [13, 14, 15, 29, 30, 31, 32, 33, 34, 35, 36] (by decide +kernel) (by decide +kernel)
set_option maxRecDepth 20000 in
theorem gX2_at_X0_stageIn : GoodIn wsX2_at (wsV RX2 99 RX0 yX0_stageIn wsX0_stageIn) := goodIn_app (goodIn_of _ (by decide +kernel)) ggX2_at_X0_stageIn
set_option maxRecDepth 20000 in
theorem ggX2_at_X0_ownerBehind : GoodIn wsX2_at wsX0_ownerBehind := goodIn_r _ [19, 14, 20, 21, 22, 4, 23, 29, 30, 31, 32, 33, 34, 35, 36] (by decide +kernel) (by decide +kernel)
set_option maxRecDepth 20000 in
theorem gX2_at_X0_ownerBehind : GoodIn wsX2_at (wsV RX2 102 RX0 yX0_ownerBehind wsX0_ownerBehind) := goodIn_app (goodIn_of _ (by decide +kernel)) ggX2_at_X0_ownerBehind
theorem dX2_at_0 : decode cX2_at 0 = .ok (.iload_n 1, 1) := by decide +kernel
theorem dX2_at_1 : decode cX2_at 1 = .ok (.invokestatic 96, 3) := by decide +kernel
theorem dX2_at_4 : decode cX2_at 4 = .ok (.ifCond .ne 5, 3) := by decide +kernel
theorem dX2_at_7 : decode cX2_at 7 = .ok (.iconst (-1), 1) := by decide +kernel
end
section
theorem dX2_at_8 : decode cX2_at 8 = .ok (.ireturn, 1) := by decide +kernel
theorem dX2_at_9 : decode cX2_at 9 = .ok (.iload_n 2, 1) := by decide +kernel
theorem dX2_at_10 : decode cX2_at 10 = .ok (.invokestatic 47, 3) := by decide +kernel
theorem dX2_at_13 : decode cX2_at 13 = .ok (.ifCond .ne 6, 3) := by decide +kernel
theorem dX2_at_16 : decode cX2_at 16 = .ok (.bipush (-2), 2) := by decide +kernel
theorem dX2_at_18 : decode cX2_at 18 = .ok (.ireturn, 1) := by decide +kernel
theorem dX2_at_19 : decode cX2_at 19 = .ok (.aload_n 0, 1) := by decide +kernel
theorem dX2_at_20 : decode cX2_at 20 = .ok (.getfield 10, 3) := by decide +kernel
theorem dX2_at_23 : decode cX2_at 23 = .ok (.iload_n 1, 1) := by decide +kernel
theorem dX2_at_24 : decode cX2_at 24 = .ok (.aload_n 0, 1) := by decide +kernel
theorem dX2_at_25 : decode cX2_at 25 = .ok (.getfield 10, 3) := by decide +kernel
theorem dX2_at_28 : decode cX2_at 28 = .ok (.iload_n 2, 1) := by decide +kernel
theorem dX2_at_29 : decode cX2_at 29 = .ok (.invokevirtual 99, 3) := by decide +kernel
theorem dX2_at_32 : decode cX2_at 32 = .ok (.invokevirtual 102, 3) := by decide +kernel
theorem dX2_at_35 : decode cX2_at 35 = .ok (.ireturn, 1) := by decide +kernel
set_option maxRecDepth 20000 in
theorem ggX2_sites_X0_knows : GoodIn wsX2_sites wsX0_knows := goodIn_r _ [6, 7, 37, 38, 39, 40, 41, 42, 43, 44] (by decide +kernel) (by decide +kernel)
set_option maxRecDepth 20000 in
theorem gX2_sites_X0_knows : GoodIn wsX2_sites (wsV RX2 43 RX0 yX0_knows wsX0_knows) := goodIn_app (goodIn_of _ (by decide +kernel)) ggX2_sites_X0_knows
set_option maxRecDepth 20000 in
theorem ggX2_sites_X2_isYear : GoodIn wsX2_sites wsX2_isYear := goodIn_r _ [11] (by decide +kernel) (by decide +kernel)
set_option maxRecDepth 20000 in
theorem gX2_sites_X2_isYear : GoodIn wsX2_sites (va_wsS RX2 47 yX2_isYear wsX2_isYear) := goodIn_app (goodIn_of _ (by decide +kernel)) ggX2_sites_X2_isYear
set_option maxRecDepth 20000 in
theorem ggX2_sites_X0_stageIn : GoodIn wsX2_sites wsX0_stageIn := goodIn_r _ [15, 16, 17, 37, 38, 39, 40, 41, 42, 43, 44] (by decide +kernel) (by decide +kernel)
set_option maxRecDepth 20000 in
theorem gX2_sites_X0_stageIn : GoodIn wsX2_sites (wsV RX2 99 RX0 yX0_stageIn wsX0_stageIn) := goodIn_app (goodIn_of _ (by decide +kernel)) ggX2_sites_X0_stageIn
set_option maxRecDepth 20000 in
theorem ggX2_sites_X0_sitesBehind : GoodIn wsX2_sites wsX0_sitesBehind := goodIn_r _ [21, 16, 22, 23, 5, 24, 25, 26, 27, 28, 29, 30, 31, 37, 38, 39, 40, 41, 42, 43, 44] (by decide +kernel) (by decide +kernel)
set_option maxRecDepth 20000 in
theorem gX2_sites_X0_sitesBehind : GoodIn wsX2_sites (wsV RX2 105 RX0 yX0_sitesBehind wsX0_sitesBehind) := goodIn_app (goodIn_of _ (by decide +kernel)) ggX2_sites_X0_sitesBehind
theorem dX2_sites_0 : decode cX2_sites 0 = .ok (.aload_n 0, 1) := by decide +kernel
theorem dX2_sites_1 : decode cX2_sites 1 = .ok (.getfield 10, 3) := by decide +kernel
theorem dX2_sites_4 : decode cX2_sites 4 = .ok (.iload_n 1, 1) := by decide +kernel
theorem dX2_sites_5 : decode cX2_sites 5 = .ok (.invokevirtual 43, 3) := by decide +kernel
theorem dX2_sites_8 : decode cX2_sites 8 = .ok (.ifCond .ne 5, 3) := by decide +kernel
theorem dX2_sites_11 : decode cX2_sites 11 = .ok (.iconst (-1), 1) := by decide +kernel
theorem dX2_sites_12 : decode cX2_sites 12 = .ok (.ireturn, 1) := by decide +kernel
theorem dX2_sites_13 : decode cX2_sites 13 = .ok (.iload_n 2, 1) := by decide +kernel
theorem dX2_sites_14 : decode cX2_sites 14 = .ok (.invokestatic 47, 3) := by decide +kernel
theorem dX2_sites_17 : decode cX2_sites 17 = .ok (.ifCond .ne 6, 3) := by decide +kernel
theorem dX2_sites_20 : decode cX2_sites 20 = .ok (.bipush (-2), 2) := by decide +kernel
theorem dX2_sites_22 : decode cX2_sites 22 = .ok (.ireturn, 1) := by decide +kernel
theorem dX2_sites_23 : decode cX2_sites 23 = .ok (.aload_n 0, 1) := by decide +kernel
theorem dX2_sites_24 : decode cX2_sites 24 = .ok (.getfield 10, 3) := by decide +kernel
theorem dX2_sites_27 : decode cX2_sites 27 = .ok (.iload_n 1, 1) := by decide +kernel
theorem dX2_sites_28 : decode cX2_sites 28 = .ok (.aload_n 0, 1) := by decide +kernel
theorem dX2_sites_29 : decode cX2_sites 29 = .ok (.getfield 10, 3) := by decide +kernel
theorem dX2_sites_32 : decode cX2_sites 32 = .ok (.iload_n 2, 1) := by decide +kernel
theorem dX2_sites_33 : decode cX2_sites 33 = .ok (.invokevirtual 99, 3) := by decide +kernel
theorem dX2_sites_36 : decode cX2_sites 36 = .ok (.invokevirtual 105, 3) := by decide +kernel
theorem dX2_sites_39 : decode cX2_sites 39 = .ok (.ireturn, 1) := by decide +kernel
set_option maxRecDepth 20000 in
theorem ggX2_letter_X0_knows : GoodIn wsX2_letter wsX0_knows := goodIn_r _ [6, 7, 65, 66, 67, 68, 69, 70, 71, 72] (by decide +kernel) (by decide +kernel)
set_option maxRecDepth 20000 in
theorem gX2_letter_X0_knows : GoodIn wsX2_letter (wsV RX2 43 RX0 yX0_knows wsX0_knows) := goodIn_app (goodIn_of _ (by decide +kernel)) ggX2_letter_X0_knows
set_option maxRecDepth 20000 in
theorem ggX2_letter_X2_isYear : GoodIn wsX2_letter wsX2_isYear := goodIn_r _ [11] (by decide +kernel) (by decide +kernel)
set_option maxRecDepth 20000 in
theorem gX2_letter_X2_isYear : GoodIn wsX2_letter (va_wsS RX2 47 yX2_isYear wsX2_isYear) := goodIn_app (goodIn_of _ (by decide +kernel)) ggX2_letter_X2_isYear
set_option maxRecDepth 20000 in
theorem ggX2_letter_X0_nameIn : GoodIn wsX2_letter wsX0_nameIn := goodIn_r _ [15, 16, 17, 18, 5, 19, 20, 21, 22, 23, 24, 25, 26, 27, 28, 29, 30, 31, 32, 33, 34, 35, 36, 37, 38, 39, 40, 41, 42, 43, 44, 45, 46, 47, 48, 49, 50, 51, 52, 65, 66, 67, 68, 69, 70, 71, 72] (by decide +kernel) (by decide +kernel)
set_option maxRecDepth 20000 in
theorem gX2_letter_X0_nameIn : GoodIn wsX2_letter (wsV RX2 108 RX0 yX0_nameIn wsX0_nameIn) := goodIn_app (goodIn_of _ (by decide +kernel)) ggX2_letter_X0_nameIn
set_option maxRecDepth 20000 in
theorem ggX2_letter_X1_lengthOf : GoodIn wsX2_letter wsX1_lengthOf := goodIn_r _ [55, 56, 57, 45, 58] (by decide +kernel) (by decide +kernel)
set_option maxRecDepth 20000 in
theorem gX2_letter_X1_lengthOf : GoodIn wsX2_letter (va_wsS RX2 35 yX1_lengthOf wsX1_lengthOf) := goodIn_app (goodIn_of _ (by decide +kernel)) ggX2_letter_X1_lengthOf
set_option maxRecDepth 20000 in
theorem ggX2_letter_X1_letterOf : GoodIn wsX2_letter wsX1_letterOf := goodIn_r _ [58] (by decide +kernel) (by decide +kernel)
set_option maxRecDepth 20000 in
theorem gX2_letter_X1_letterOf : GoodIn wsX2_letter (va_wsS RX2 112 yX1_letterOf wsX1_letterOf) := goodIn_app (goodIn_of _ (by decide +kernel)) ggX2_letter_X1_letterOf
theorem dX2_letter_0 : decode cX2_letter 0 = .ok (.aload_n 0, 1) := by decide +kernel
theorem dX2_letter_1 : decode cX2_letter 1 = .ok (.getfield 10, 3) := by decide +kernel
theorem dX2_letter_4 : decode cX2_letter 4 = .ok (.iload_n 1, 1) := by decide +kernel
theorem dX2_letter_5 : decode cX2_letter 5 = .ok (.invokevirtual 43, 3) := by decide +kernel
theorem dX2_letter_8 : decode cX2_letter 8 = .ok (.ifCond .ne 5, 3) := by decide +kernel
theorem dX2_letter_11 : decode cX2_letter 11 = .ok (.iconst (-1), 1) := by decide +kernel
theorem dX2_letter_12 : decode cX2_letter 12 = .ok (.ireturn, 1) := by decide +kernel
theorem dX2_letter_13 : decode cX2_letter 13 = .ok (.iload_n 2, 1) := by decide +kernel
theorem dX2_letter_14 : decode cX2_letter 14 = .ok (.invokestatic 47, 3) := by decide +kernel
theorem dX2_letter_17 : decode cX2_letter 17 = .ok (.ifCond .eq 8, 3) := by decide +kernel
theorem dX2_letter_20 : decode cX2_letter 20 = .ok (.iload_n 3, 1) := by decide +kernel
theorem dX2_letter_21 : decode cX2_letter 21 = .ok (.iconst (-1), 1) := by decide +kernel
theorem dX2_letter_22 : decode cX2_letter 22 = .ok (.if_icmp .ge 6, 3) := by decide +kernel
theorem dX2_letter_25 : decode cX2_letter 25 = .ok (.bipush (-2), 2) := by decide +kernel
theorem dX2_letter_27 : decode cX2_letter 27 = .ok (.ireturn, 1) := by decide +kernel
theorem dX2_letter_28 : decode cX2_letter 28 = .ok (.aload_n 0, 1) := by decide +kernel
theorem dX2_letter_29 : decode cX2_letter 29 = .ok (.getfield 10, 3) := by decide +kernel
theorem dX2_letter_32 : decode cX2_letter 32 = .ok (.iload_n 1, 1) := by decide +kernel
theorem dX2_letter_33 : decode cX2_letter 33 = .ok (.iload_n 2, 1) := by decide +kernel
theorem dX2_letter_34 : decode cX2_letter 34 = .ok (.invokevirtual 108, 3) := by decide +kernel
theorem dX2_letter_37 : decode cX2_letter 37 = .ok (.lstore 4, 2) := by decide +kernel
theorem dX2_letter_39 : decode cX2_letter 39 = .ok (.lload 4, 2) := by decide +kernel
theorem dX2_letter_41 : decode cX2_letter 41 = .ok (.lconst 0, 1) := by decide +kernel
theorem dX2_letter_42 : decode cX2_letter 42 = .ok (.lcmp, 1) := by decide +kernel
theorem dX2_letter_43 : decode cX2_letter 43 = .ok (.ifCond .ne 6, 3) := by decide +kernel
theorem dX2_letter_46 : decode cX2_letter 46 = .ok (.bipush (-6), 2) := by decide +kernel
theorem dX2_letter_48 : decode cX2_letter 48 = .ok (.ireturn, 1) := by decide +kernel
theorem dX2_letter_49 : decode cX2_letter 49 = .ok (.lload 4, 2) := by decide +kernel
theorem dX2_letter_51 : decode cX2_letter 51 = .ok (.invokestatic 35, 3) := by decide +kernel
theorem dX2_letter_54 : decode cX2_letter 54 = .ok (.istore 6, 2) := by decide +kernel
theorem dX2_letter_56 : decode cX2_letter 56 = .ok (.iload_n 3, 1) := by decide +kernel
theorem dX2_letter_57 : decode cX2_letter 57 = .ok (.iconst (-1), 1) := by decide +kernel
theorem dX2_letter_58 : decode cX2_letter 58 = .ok (.if_icmp .ne 6, 3) := by decide +kernel
theorem dX2_letter_61 : decode cX2_letter 61 = .ok (.iload 6, 2) := by decide +kernel
theorem dX2_letter_63 : decode cX2_letter 63 = .ok (.ireturn, 1) := by decide +kernel
theorem dX2_letter_64 : decode cX2_letter 64 = .ok (.iload_n 3, 1) := by decide +kernel
theorem dX2_letter_65 : decode cX2_letter 65 = .ok (.iload 6, 2) := by decide +kernel
theorem dX2_letter_67 : decode cX2_letter 67 = .ok (.if_icmp .ge 12, 3) := by decide +kernel
theorem dX2_letter_70 : decode cX2_letter 70 = .ok (.lload 4, 2) := by decide +kernel
theorem dX2_letter_72 : decode cX2_letter 72 = .ok (.iload_n 3, 1) := by decide +kernel
theorem dX2_letter_73 : decode cX2_letter 73 = .ok (.invokestatic 112, 3) := by decide +kernel
theorem dX2_letter_76 : decode cX2_letter 76 = .ok (.goto 5, 3) := by decide +kernel
theorem dX2_letter_79 : decode cX2_letter 79 = .ok (.bipush (-6), 2) := by decide +kernel
theorem dX2_letter_81 : decode cX2_letter 81 = .ok (.ireturn, 1) := by decide +kernel
set_option maxRecDepth 20000 in
theorem ggX2_sound_X0_knows : GoodIn wsX2_sound wsX0_knows := goodIn_r _ [6, 7, 77, 78, 79, 80, 81, 82, 83, 84] (by decide +kernel) (by decide +kernel)
set_option maxRecDepth 20000 in
theorem gX2_sound_X0_knows : GoodIn wsX2_sound (wsV RX2 43 RX0 yX0_knows wsX0_knows) := goodIn_app (goodIn_of _ (by decide +kernel)) ggX2_sound_X0_knows
set_option maxRecDepth 20000 in
theorem ggX2_sound_X2_isYear : GoodIn wsX2_sound wsX2_isYear := goodIn_r _ [11] (by decide +kernel) (by decide +kernel)
set_option maxRecDepth 20000 in
theorem gX2_sound_X2_isYear : GoodIn wsX2_sound (va_wsS RX2 47 yX2_isYear wsX2_isYear) := goodIn_app (goodIn_of _ (by decide +kernel)) ggX2_sound_X2_isYear
set_option maxRecDepth 20000 in
theorem ggX2_sound_X0_nameIn : GoodIn wsX2_sound wsX0_nameIn := goodIn_r _ [15, 16, 17, 18, 5, 19, 20, 21, 22, 23, 24, 25, 26, 27, 28, 29, 30, 31, 32, 33, 34, 35, 36, 37, 38, 39, 40, 41, 42, 43, 44, 45, 46, 47, 48, 49, 50, 51, 52, 77, 78, 79, 80, 81, 82, 83, 84] (by decide +kernel) (by decide +kernel)
set_option maxRecDepth 20000 in
theorem gX2_sound_X0_nameIn : GoodIn wsX2_sound (wsV RX2 108 RX0 yX0_nameIn wsX0_nameIn) := goodIn_app (goodIn_of _ (by decide +kernel)) ggX2_sound_X0_nameIn
set_option maxRecDepth 20000 in
theorem ggX2_sound_X1_soundOf : GoodIn wsX2_sound wsX1_soundOf := goodIn_r _ [55, 56, 57, 45, 58, 59, 60, 61, 62, 63, 64] (by decide +kernel) (by decide +kernel)
set_option maxRecDepth 20000 in
theorem gX2_sound_X1_soundOf : GoodIn wsX2_sound (va_wsS RX2 116 yX1_soundOf wsX1_soundOf) := goodIn_app (goodIn_of _ (by decide +kernel)) ggX2_sound_X1_soundOf
set_option maxRecDepth 20000 in
theorem ggX2_sound_X1_lengthOfSound : GoodIn wsX2_sound wsX1_lengthOfSound := goodIn_r _ [67, 68, 69, 45, 70] (by decide +kernel) (by decide +kernel)
set_option maxRecDepth 20000 in
theorem gX2_sound_X1_lengthOfSound : GoodIn wsX2_sound (va_wsS RX2 119 yX1_lengthOfSound wsX1_lengthOfSound) := goodIn_app (goodIn_of _ (by decide +kernel)) ggX2_sound_X1_lengthOfSound
set_option maxRecDepth 20000 in
theorem ggX2_sound_X1_classOfSound : GoodIn wsX2_sound wsX1_classOfSound := goodIn_r _ [70] (by decide +kernel) (by decide +kernel)
set_option maxRecDepth 20000 in
theorem gX2_sound_X1_classOfSound : GoodIn wsX2_sound (va_wsS RX2 122 yX1_classOfSound wsX1_classOfSound) := goodIn_app (goodIn_of _ (by decide +kernel)) ggX2_sound_X1_classOfSound
theorem dX2_sound_0 : decode cX2_sound 0 = .ok (.aload_n 0, 1) := by decide +kernel
theorem dX2_sound_1 : decode cX2_sound 1 = .ok (.getfield 10, 3) := by decide +kernel
theorem dX2_sound_4 : decode cX2_sound 4 = .ok (.iload_n 1, 1) := by decide +kernel
theorem dX2_sound_5 : decode cX2_sound 5 = .ok (.invokevirtual 43, 3) := by decide +kernel
theorem dX2_sound_8 : decode cX2_sound 8 = .ok (.ifCond .ne 5, 3) := by decide +kernel
theorem dX2_sound_11 : decode cX2_sound 11 = .ok (.iconst (-1), 1) := by decide +kernel
theorem dX2_sound_12 : decode cX2_sound 12 = .ok (.ireturn, 1) := by decide +kernel
theorem dX2_sound_13 : decode cX2_sound 13 = .ok (.iload_n 2, 1) := by decide +kernel
theorem dX2_sound_14 : decode cX2_sound 14 = .ok (.invokestatic 47, 3) := by decide +kernel
theorem dX2_sound_17 : decode cX2_sound 17 = .ok (.ifCond .eq 8, 3) := by decide +kernel
theorem dX2_sound_20 : decode cX2_sound 20 = .ok (.iload_n 3, 1) := by decide +kernel
theorem dX2_sound_21 : decode cX2_sound 21 = .ok (.iconst (-1), 1) := by decide +kernel
theorem dX2_sound_22 : decode cX2_sound 22 = .ok (.if_icmp .ge 6, 3) := by decide +kernel
theorem dX2_sound_25 : decode cX2_sound 25 = .ok (.bipush (-2), 2) := by decide +kernel
theorem dX2_sound_27 : decode cX2_sound 27 = .ok (.ireturn, 1) := by decide +kernel
theorem dX2_sound_28 : decode cX2_sound 28 = .ok (.aload_n 0, 1) := by decide +kernel
theorem dX2_sound_29 : decode cX2_sound 29 = .ok (.getfield 10, 3) := by decide +kernel
theorem dX2_sound_32 : decode cX2_sound 32 = .ok (.iload_n 1, 1) := by decide +kernel
theorem dX2_sound_33 : decode cX2_sound 33 = .ok (.iload_n 2, 1) := by decide +kernel
theorem dX2_sound_34 : decode cX2_sound 34 = .ok (.invokevirtual 108, 3) := by decide +kernel
theorem dX2_sound_37 : decode cX2_sound 37 = .ok (.lstore 4, 2) := by decide +kernel
theorem dX2_sound_39 : decode cX2_sound 39 = .ok (.lload 4, 2) := by decide +kernel
theorem dX2_sound_41 : decode cX2_sound 41 = .ok (.lconst 0, 1) := by decide +kernel
theorem dX2_sound_42 : decode cX2_sound 42 = .ok (.lcmp, 1) := by decide +kernel
theorem dX2_sound_43 : decode cX2_sound 43 = .ok (.ifCond .ne 6, 3) := by decide +kernel
theorem dX2_sound_46 : decode cX2_sound 46 = .ok (.bipush (-6), 2) := by decide +kernel
theorem dX2_sound_48 : decode cX2_sound 48 = .ok (.ireturn, 1) := by decide +kernel
theorem dX2_sound_49 : decode cX2_sound 49 = .ok (.lload 4, 2) := by decide +kernel
theorem dX2_sound_51 : decode cX2_sound 51 = .ok (.invokestatic 116, 3) := by decide +kernel
theorem dX2_sound_54 : decode cX2_sound 54 = .ok (.istore 6, 2) := by decide +kernel
theorem dX2_sound_56 : decode cX2_sound 56 = .ok (.iload 6, 2) := by decide +kernel
theorem dX2_sound_58 : decode cX2_sound 58 = .ok (.invokestatic 119, 3) := by decide +kernel
theorem dX2_sound_61 : decode cX2_sound 61 = .ok (.istore 7, 2) := by decide +kernel
theorem dX2_sound_63 : decode cX2_sound 63 = .ok (.iload_n 3, 1) := by decide +kernel
theorem dX2_sound_64 : decode cX2_sound 64 = .ok (.iconst (-1), 1) := by decide +kernel
theorem dX2_sound_65 : decode cX2_sound 65 = .ok (.if_icmp .ne 6, 3) := by decide +kernel
theorem dX2_sound_68 : decode cX2_sound 68 = .ok (.iload 7, 2) := by decide +kernel
theorem dX2_sound_70 : decode cX2_sound 70 = .ok (.ireturn, 1) := by decide +kernel
theorem dX2_sound_71 : decode cX2_sound 71 = .ok (.iload_n 3, 1) := by decide +kernel
theorem dX2_sound_72 : decode cX2_sound 72 = .ok (.iload 7, 2) := by decide +kernel
theorem dX2_sound_74 : decode cX2_sound 74 = .ok (.if_icmp .ge 12, 3) := by decide +kernel
theorem dX2_sound_77 : decode cX2_sound 77 = .ok (.iload 6, 2) := by decide +kernel
theorem dX2_sound_79 : decode cX2_sound 79 = .ok (.iload_n 3, 1) := by decide +kernel
theorem dX2_sound_80 : decode cX2_sound 80 = .ok (.invokestatic 122, 3) := by decide +kernel
theorem dX2_sound_83 : decode cX2_sound 83 = .ok (.goto 5, 3) := by decide +kernel
theorem dX2_sound_86 : decode cX2_sound 86 = .ok (.bipush (-6), 2) := by decide +kernel
theorem dX2_sound_88 : decode cX2_sound 88 = .ok (.ireturn, 1) := by decide +kernel
set_option maxRecDepth 20000 in
theorem ggX2_parish_X0_knows : GoodIn wsX2_parish wsX0_knows := goodIn_r _ [6, 7, 52, 53, 54, 55, 56, 57, 58, 59] (by decide +kernel) (by decide +kernel)
set_option maxRecDepth 20000 in
theorem gX2_parish_X0_knows : GoodIn wsX2_parish (wsV RX2 43 RX0 yX0_knows wsX0_knows) := goodIn_app (goodIn_of _ (by decide +kernel)) ggX2_parish_X0_knows
set_option maxRecDepth 20000 in
theorem ggX2_parish_X0_eventsOf : GoodIn wsX2_parish wsX0_eventsOf := goodIn_r _ [11, 12, 13, 14, 52, 53, 54, 55, 56, 57, 58, 59] (by decide +kernel) (by decide +kernel)
set_option maxRecDepth 20000 in
theorem gX2_parish_X0_eventsOf : GoodIn wsX2_parish (wsV RX2 125 RX0 yX0_eventsOf wsX0_eventsOf) := goodIn_app (goodIn_of _ (by decide +kernel)) ggX2_parish_X0_eventsOf
set_option maxRecDepth 20000 in
theorem ggX2_parish_X0_lifeOf : GoodIn wsX2_parish wsX0_lifeOf := goodIn_r _ [18, 12, 19, 20, 5, 21, 22, 23, 24, 25, 13, 26, 14, 27, 28, 29, 30, 31, 32, 33, 34, 35, 36, 37, 38, 39, 40, 41, 42, 43, 44, 45, 46, 52, 53, 54, 55, 56, 57, 58, 59] (by decide +kernel) (by decide +kernel)
set_option maxRecDepth 20000 in
theorem gX2_parish_X0_lifeOf : GoodIn wsX2_parish (wsV RX2 128 RX0 yX0_lifeOf wsX0_lifeOf) := goodIn_app (goodIn_of _ (by decide +kernel)) ggX2_parish_X0_lifeOf
theorem dX2_parish_0 : decode cX2_parish 0 = .ok (.aload_n 0, 1) := by decide +kernel
theorem dX2_parish_1 : decode cX2_parish 1 = .ok (.getfield 10, 3) := by decide +kernel
theorem dX2_parish_4 : decode cX2_parish 4 = .ok (.iload_n 1, 1) := by decide +kernel
theorem dX2_parish_5 : decode cX2_parish 5 = .ok (.invokevirtual 43, 3) := by decide +kernel
theorem dX2_parish_8 : decode cX2_parish 8 = .ok (.ifCond .ne 5, 3) := by decide +kernel
theorem dX2_parish_11 : decode cX2_parish 11 = .ok (.iconst (-1), 1) := by decide +kernel
theorem dX2_parish_12 : decode cX2_parish 12 = .ok (.ireturn, 1) := by decide +kernel
theorem dX2_parish_13 : decode cX2_parish 13 = .ok (.iload_n 2, 1) := by decide +kernel
theorem dX2_parish_14 : decode cX2_parish 14 = .ok (.ifCond .lt 8, 3) := by decide +kernel
theorem dX2_parish_17 : decode cX2_parish 17 = .ok (.iload_n 2, 1) := by decide +kernel
theorem dX2_parish_18 : decode cX2_parish 18 = .ok (.iconst 4, 1) := by decide +kernel
theorem dX2_parish_19 : decode cX2_parish 19 = .ok (.if_icmp .le 6, 3) := by decide +kernel
theorem dX2_parish_22 : decode cX2_parish 22 = .ok (.bipush (-2), 2) := by decide +kernel
theorem dX2_parish_24 : decode cX2_parish 24 = .ok (.ireturn, 1) := by decide +kernel
theorem dX2_parish_25 : decode cX2_parish 25 = .ok (.iload_n 2, 1) := by decide +kernel
theorem dX2_parish_26 : decode cX2_parish 26 = .ok (.iconst 3, 1) := by decide +kernel
theorem dX2_parish_27 : decode cX2_parish 27 = .ok (.if_icmp .ne 14, 3) := by decide +kernel
theorem dX2_parish_30 : decode cX2_parish 30 = .ok (.aload_n 0, 1) := by decide +kernel
theorem dX2_parish_31 : decode cX2_parish 31 = .ok (.getfield 10, 3) := by decide +kernel
theorem dX2_parish_34 : decode cX2_parish 34 = .ok (.iload_n 1, 1) := by decide +kernel
theorem dX2_parish_35 : decode cX2_parish 35 = .ok (.invokevirtual 125, 3) := by decide +kernel
theorem dX2_parish_38 : decode cX2_parish 38 = .ok (.goto 12, 3) := by decide +kernel
theorem dX2_parish_41 : decode cX2_parish 41 = .ok (.aload_n 0, 1) := by decide +kernel
theorem dX2_parish_42 : decode cX2_parish 42 = .ok (.getfield 10, 3) := by decide +kernel
theorem dX2_parish_45 : decode cX2_parish 45 = .ok (.iload_n 1, 1) := by decide +kernel
theorem dX2_parish_46 : decode cX2_parish 46 = .ok (.iload_n 2, 1) := by decide +kernel
theorem dX2_parish_47 : decode cX2_parish 47 = .ok (.invokevirtual 128, 3) := by decide +kernel
theorem dX2_parish_50 : decode cX2_parish 50 = .ok (.ireturn, 1) := by decide +kernel
set_option maxRecDepth 20000 in
theorem ggX2_find_X2_areYears : GoodIn wsX2_find wsX2_areYears := goodIn_r _ [5, 6, 7, 4, 8] (by decide +kernel) (by decide +kernel)
set_option maxRecDepth 20000 in
theorem gX2_find_X2_areYears : GoodIn wsX2_find (va_wsS RX2 131 yX2_areYears wsX2_areYears) := goodIn_app (goodIn_of _ (by decide +kernel)) ggX2_find_X2_areYears
set_option maxRecDepth 20000 in
theorem ggX2_find_X2_isHow : GoodIn wsX2_find wsX2_isHow := goodIn_r _ [11] (by decide +kernel) (by decide +kernel)
set_option maxRecDepth 20000 in
theorem gX2_find_X2_isHow : GoodIn wsX2_find (va_wsS RX2 134 yX2_isHow wsX2_isHow) := goodIn_app (goodIn_of _ (by decide +kernel)) ggX2_find_X2_isHow
set_option maxRecDepth 20000 in
theorem ggX2_find_X2_padIsNoName : GoodIn wsX2_find wsX2_padIsNoName := goodIn_r _ [15, 16, 94, 95, 96, 97, 98] (by decide +kernel) (by decide +kernel)
set_option maxRecDepth 20000 in
theorem gX2_find_X2_padIsNoName : GoodIn wsX2_find (wsV RX2 50 RX2 yX2_padIsNoName wsX2_padIsNoName) := goodIn_app (goodIn_of _ (by decide +kernel)) ggX2_find_X2_padIsNoName
set_option maxRecDepth 20000 in
theorem ggX2_find_X0_parishCount : GoodIn wsX2_find wsX0_parishCount := goodIn_r _ [21, 22, 99, 100, 101, 102, 103, 104, 105, 106] (by decide +kernel) (by decide +kernel)
set_option maxRecDepth 20000 in
theorem gX2_find_X0_parishCount : GoodIn wsX2_find (wsV RX2 83 RX0 yX0_parishCount wsX0_parishCount) := goodIn_app (goodIn_of _ (by decide +kernel)) ggX2_find_X0_parishCount
set_option maxRecDepth 20000 in
theorem ggX2_find_X2_wasCalled : GoodIn wsX2_find wsX2_wasCalled := goodIn_r _ [26, 1, 27, 28, 29, 30, 31, 32, 33, 34, 16, 35, 36, 20, 37, 38, 39, 40, 41, 42, 43, 44, 45, 46, 47, 48, 49, 50, 51, 52, 53, 54, 55, 56, 57, 58, 59, 60, 61, 62, 63, 64, 65, 66, 67, 68, 69, 70, 71, 72, 73, 74, 75, 76, 77, 78, 79, 80, 81, 82, 83, 84, 85, 86, 87, 88, 89, 90, 91, 92, 93, 94, 95, 96, 97, 98, 99, 100, 101, 102, 103, 104, 105, 106, 107] (by decide +kernel) (by decide +kernel)
set_option maxRecDepth 20000 in
theorem gX2_find_X2_wasCalled : GoodIn wsX2_find (wsV RX2 137 RX2 yX2_wasCalled wsX2_wasCalled) := goodIn_app (goodIn_of _ (by decide +kernel)) ggX2_find_X2_wasCalled
theorem dX2_find_0 : decode cX2_find 0 = .ok (.iload_n 1, 1) := by decide +kernel
theorem dX2_find_1 : decode cX2_find 1 = .ok (.iload_n 2, 1) := by decide +kernel
theorem dX2_find_2 : decode cX2_find 2 = .ok (.invokestatic 131, 3) := by decide +kernel
theorem dX2_find_5 : decode cX2_find 5 = .ok (.ifCond .eq 16, 3) := by decide +kernel
theorem dX2_find_8 : decode cX2_find 8 = .ok (.iload_n 3, 1) := by decide +kernel
theorem dX2_find_9 : decode cX2_find 9 = .ok (.invokestatic 134, 3) := by decide +kernel
theorem dX2_find_12 : decode cX2_find 12 = .ok (.ifCond .eq 9, 3) := by decide +kernel
theorem dX2_find_15 : decode cX2_find 15 = .ok (.iload 4, 2) := by decide +kernel
theorem dX2_find_17 : decode cX2_find 17 = .ok (.iconst (-1), 1) := by decide +kernel
theorem dX2_find_18 : decode cX2_find 18 = .ok (.if_icmp .ge 6, 3) := by decide +kernel
theorem dX2_find_21 : decode cX2_find 21 = .ok (.bipush (-2), 2) := by decide +kernel
theorem dX2_find_23 : decode cX2_find 23 = .ok (.ireturn, 1) := by decide +kernel
theorem dX2_find_24 : decode cX2_find 24 = .ok (.aload_n 0, 1) := by decide +kernel
theorem dX2_find_25 : decode cX2_find 25 = .ok (.invokevirtual 50, 3) := by decide +kernel
theorem dX2_find_28 : decode cX2_find 28 = .ok (.ifCond .eq 6, 3) := by decide +kernel
theorem dX2_find_31 : decode cX2_find 31 = .ok (.bipush (-7), 2) := by decide +kernel
theorem dX2_find_33 : decode cX2_find 33 = .ok (.ireturn, 1) := by decide +kernel
theorem dX2_find_34 : decode cX2_find 34 = .ok (.iconst 0, 1) := by decide +kernel
theorem dX2_find_35 : decode cX2_find 35 = .ok (.istore 5, 2) := by decide +kernel
theorem dX2_find_37 : decode cX2_find 37 = .ok (.iconst 0, 1) := by decide +kernel
theorem dX2_find_38 : decode cX2_find 38 = .ok (.istore 6, 2) := by decide +kernel
theorem dX2_find_40 : decode cX2_find 40 = .ok (.iload 6, 2) := by decide +kernel
theorem dX2_find_42 : decode cX2_find 42 = .ok (.aload_n 0, 1) := by decide +kernel
theorem dX2_find_43 : decode cX2_find 43 = .ok (.getfield 10, 3) := by decide +kernel
theorem dX2_find_46 : decode cX2_find 46 = .ok (.invokevirtual 83, 3) := by decide +kernel
theorem dX2_find_49 : decode cX2_find 49 = .ok (.if_icmp .ge 37, 3) := by decide +kernel
theorem dX2_find_52 : decode cX2_find 52 = .ok (.aload_n 0, 1) := by decide +kernel
theorem dX2_find_53 : decode cX2_find 53 = .ok (.iload 6, 2) := by decide +kernel
theorem dX2_find_55 : decode cX2_find 55 = .ok (.iload_n 1, 1) := by decide +kernel
theorem dX2_find_56 : decode cX2_find 56 = .ok (.iload_n 2, 1) := by decide +kernel
theorem dX2_find_57 : decode cX2_find 57 = .ok (.iload_n 3, 1) := by decide +kernel
theorem dX2_find_58 : decode cX2_find 58 = .ok (.invokevirtual 137, 3) := by decide +kernel
theorem dX2_find_61 : decode cX2_find 61 = .ok (.ifCond .ne 6, 3) := by decide +kernel
theorem dX2_find_64 : decode cX2_find 64 = .ok (.goto 16, 3) := by decide +kernel
theorem dX2_find_67 : decode cX2_find 67 = .ok (.iload 5, 2) := by decide +kernel
theorem dX2_find_69 : decode cX2_find 69 = .ok (.iload 4, 2) := by decide +kernel
theorem dX2_find_71 : decode cX2_find 71 = .ok (.if_icmp .ne 6, 3) := by decide +kernel
theorem dX2_find_74 : decode cX2_find 74 = .ok (.iload 6, 2) := by decide +kernel
theorem dX2_find_76 : decode cX2_find 76 = .ok (.ireturn, 1) := by decide +kernel
theorem dX2_find_77 : decode cX2_find 77 = .ok (.iinc 5 1, 3) := by decide +kernel
theorem dX2_find_80 : decode cX2_find 80 = .ok (.iinc 6 1, 3) := by decide +kernel
theorem dX2_find_83 : decode cX2_find 83 = .ok (.goto (-43), 3) := by decide +kernel
theorem dX2_find_86 : decode cX2_find 86 = .ok (.iload 4, 2) := by decide +kernel
theorem dX2_find_88 : decode cX2_find 88 = .ok (.iconst (-1), 1) := by decide +kernel
theorem dX2_find_89 : decode cX2_find 89 = .ok (.if_icmp .ne 8, 3) := by decide +kernel
theorem dX2_find_92 : decode cX2_find 92 = .ok (.iload 5, 2) := by decide +kernel
theorem dX2_find_94 : decode cX2_find 94 = .ok (.goto 5, 3) := by decide +kernel
theorem dX2_find_97 : decode cX2_find 97 = .ok (.bipush (-6), 2) := by decide +kernel
theorem dX2_find_99 : decode cX2_find 99 = .ok (.ireturn, 1) := by decide +kernel
set_option maxRecDepth 20000 in
theorem ggX2_called_X2_isSite : GoodIn wsX2_called wsX2_isSite := goodIn_r _ [14] (by decide +kernel) (by decide +kernel)
set_option maxRecDepth 20000 in
theorem gX2_called_X2_isSite : GoodIn wsX2_called (va_wsS RX2 96 yX2_isSite wsX2_isSite) := goodIn_app (goodIn_of _ (by decide +kernel)) ggX2_called_X2_isSite
set_option maxRecDepth 20000 in
theorem ggX2_called_X2_areYears : GoodIn wsX2_called wsX2_areYears := goodIn_r _ [17, 18, 19, 13, 20] (by decide +kernel) (by decide +kernel)
set_option maxRecDepth 20000 in
theorem gX2_called_X2_areYears : GoodIn wsX2_called (va_wsS RX2 131 yX2_areYears wsX2_areYears) := goodIn_app (goodIn_of _ (by decide +kernel)) ggX2_called_X2_areYears
set_option maxRecDepth 20000 in
theorem ggX2_called_X2_isHow : GoodIn wsX2_called wsX2_isHow := goodIn_r _ [23] (by decide +kernel) (by decide +kernel)
set_option maxRecDepth 20000 in
theorem gX2_called_X2_isHow : GoodIn wsX2_called (va_wsS RX2 134 yX2_isHow wsX2_isHow) := goodIn_app (goodIn_of _ (by decide +kernel)) ggX2_called_X2_isHow
set_option maxRecDepth 20000 in
theorem ggX2_called_X2_padIsNoName : GoodIn wsX2_called wsX2_padIsNoName := goodIn_r _ [27, 10, 95, 96, 97, 98, 99] (by decide +kernel) (by decide +kernel)
set_option maxRecDepth 20000 in
theorem gX2_called_X2_padIsNoName : GoodIn wsX2_called (wsV RX2 50 RX2 yX2_padIsNoName wsX2_padIsNoName) := goodIn_app (goodIn_of _ (by decide +kernel)) ggX2_called_X2_padIsNoName
set_option maxRecDepth 20000 in
theorem ggX2_called_X0_eventCount : GoodIn wsX2_called wsX0_eventCount := goodIn_r _ [32, 33, 100, 101, 102, 103, 104, 105, 106, 107] (by decide +kernel) (by decide +kernel)
set_option maxRecDepth 20000 in
theorem gX2_called_X0_eventCount : GoodIn wsX2_called (wsV RX2 86 RX0 yX0_eventCount wsX0_eventCount) := goodIn_app (goodIn_of _ (by decide +kernel)) ggX2_called_X0_eventCount
set_option maxRecDepth 20000 in
theorem ggX2_called_X0_firstYear : GoodIn wsX2_called wsX0_firstYear := goodIn_r _ [37, 33, 38, 100, 101, 102, 103, 104, 105, 106, 107] (by decide +kernel) (by decide +kernel)
set_option maxRecDepth 20000 in
theorem gX2_called_X0_firstYear : GoodIn wsX2_called (wsV RX2 141 RX0 yX0_firstYear wsX0_firstYear) := goodIn_app (goodIn_of _ (by decide +kernel)) ggX2_called_X0_firstYear
set_option maxRecDepth 20000 in
theorem ggX2_called_X0_lastYear : GoodIn wsX2_called wsX0_lastYear := goodIn_r _ [42, 33, 38, 100, 101, 102, 103, 104, 105, 106, 107] (by decide +kernel) (by decide +kernel)
set_option maxRecDepth 20000 in
theorem gX2_called_X0_lastYear : GoodIn wsX2_called (wsV RX2 149 RX0 yX0_lastYear wsX0_lastYear) := goodIn_app (goodIn_of _ (by decide +kernel)) ggX2_called_X0_lastYear
set_option maxRecDepth 20000 in
theorem ggX2_called_X0_nameAt : GoodIn wsX2_called wsX0_nameAt := goodIn_r _ [46, 47, 48, 49, 31, 50, 33, 51, 52, 53, 13, 54, 55, 56, 57, 58, 59, 60, 61, 62, 63, 64, 65, 66, 67, 68, 69, 70, 71, 72, 100, 101, 102, 103, 104, 105, 106, 107] (by decide +kernel) (by decide +kernel)
set_option maxRecDepth 20000 in
theorem gX2_called_X0_nameAt : GoodIn wsX2_called (wsV RX2 155 RX0 yX0_nameAt wsX0_nameAt) := goodIn_app (goodIn_of _ (by decide +kernel)) ggX2_called_X0_nameAt
set_option maxRecDepth 20000 in
theorem ggX2_called_X1_areAlike : GoodIn wsX2_called wsX1_areAlike := goodIn_r _ [76, 77, 78, 64, 79, 80, 81, 82, 83, 84, 85, 86, 87, 88, 89, 90, 91, 92, 93, 94, 7, 4, 8, 108] (by decide +kernel) (by decide +kernel)
set_option maxRecDepth 20000 in
theorem gX2_called_X1_areAlike : GoodIn wsX2_called (wsV RX2 158 RX1 yX1_areAlike wsX1_areAlike) := goodIn_app (goodIn_of _ (by decide +kernel)) ggX2_called_X1_areAlike
theorem dX2_called_0 : decode cX2_called 0 = .ok (.iload_n 1, 1) := by decide +kernel
theorem dX2_called_1 : decode cX2_called 1 = .ok (.invokestatic 96, 3) := by decide +kernel
theorem dX2_called_4 : decode cX2_called 4 = .ok (.ifCond .ne 5, 3) := by decide +kernel
theorem dX2_called_7 : decode cX2_called 7 = .ok (.iconst (-1), 1) := by decide +kernel
theorem dX2_called_8 : decode cX2_called 8 = .ok (.ireturn, 1) := by decide +kernel
theorem dX2_called_9 : decode cX2_called 9 = .ok (.iload_n 2, 1) := by decide +kernel
theorem dX2_called_10 : decode cX2_called 10 = .ok (.iload_n 3, 1) := by decide +kernel
theorem dX2_called_11 : decode cX2_called 11 = .ok (.invokestatic 131, 3) := by decide +kernel
theorem dX2_called_14 : decode cX2_called 14 = .ok (.ifCond .eq 22, 3) := by decide +kernel
theorem dX2_called_17 : decode cX2_called 17 = .ok (.iload 4, 2) := by decide +kernel
theorem dX2_called_19 : decode cX2_called 19 = .ok (.invokestatic 134, 3) := by decide +kernel
theorem dX2_called_22 : decode cX2_called 22 = .ok (.ifCond .eq 14, 3) := by decide +kernel
theorem dX2_called_25 : decode cX2_called 25 = .ok (.iload 5, 2) := by decide +kernel
theorem dX2_called_27 : decode cX2_called 27 = .ok (.ifCond .lt 9, 3) := by decide +kernel
theorem dX2_called_30 : decode cX2_called 30 = .ok (.iload 5, 2) := by decide +kernel
theorem dX2_called_32 : decode cX2_called 32 = .ok (.iconst 2, 1) := by decide +kernel
theorem dX2_called_33 : decode cX2_called 33 = .ok (.if_icmp .le 6, 3) := by decide +kernel
theorem dX2_called_36 : decode cX2_called 36 = .ok (.bipush (-2), 2) := by decide +kernel
theorem dX2_called_38 : decode cX2_called 38 = .ok (.ireturn, 1) := by decide +kernel
theorem dX2_called_39 : decode cX2_called 39 = .ok (.aload_n 0, 1) := by decide +kernel
theorem dX2_called_40 : decode cX2_called 40 = .ok (.invokevirtual 50, 3) := by decide +kernel
theorem dX2_called_43 : decode cX2_called 43 = .ok (.ifCond .eq 6, 3) := by decide +kernel
theorem dX2_called_46 : decode cX2_called 46 = .ok (.bipush (-7), 2) := by decide +kernel
theorem dX2_called_48 : decode cX2_called 48 = .ok (.ireturn, 1) := by decide +kernel
theorem dX2_called_49 : decode cX2_called 49 = .ok (.iconst 0, 1) := by decide +kernel
theorem dX2_called_50 : decode cX2_called 50 = .ok (.istore 6, 2) := by decide +kernel
theorem dX2_called_52 : decode cX2_called 52 = .ok (.bipush (-6), 2) := by decide +kernel
theorem dX2_called_54 : decode cX2_called 54 = .ok (.istore 7, 2) := by decide +kernel
theorem dX2_called_56 : decode cX2_called 56 = .ok (.bipush (-6), 2) := by decide +kernel
theorem dX2_called_58 : decode cX2_called 58 = .ok (.istore 8, 2) := by decide +kernel
theorem dX2_called_60 : decode cX2_called 60 = .ok (.iconst 0, 1) := by decide +kernel
theorem dX2_called_61 : decode cX2_called 61 = .ok (.istore 9, 2) := by decide +kernel
theorem dX2_called_63 : decode cX2_called 63 = .ok (.iload 9, 2) := by decide +kernel
theorem dX2_called_65 : decode cX2_called 65 = .ok (.aload_n 0, 1) := by decide +kernel
theorem dX2_called_66 : decode cX2_called 66 = .ok (.getfield 10, 3) := by decide +kernel
theorem dX2_called_69 : decode cX2_called 69 = .ok (.invokevirtual 86, 3) := by decide +kernel
theorem dX2_called_72 : decode cX2_called 72 = .ok (.if_icmp .gt 100, 3) := by decide +kernel
theorem dX2_called_75 : decode cX2_called 75 = .ok (.iload_n 2, 1) := by decide +kernel
theorem dX2_called_76 : decode cX2_called 76 = .ok (.aload_n 0, 1) := by decide +kernel
theorem dX2_called_77 : decode cX2_called 77 = .ok (.getfield 10, 3) := by decide +kernel
theorem dX2_called_80 : decode cX2_called 80 = .ok (.iload 9, 2) := by decide +kernel
theorem dX2_called_82 : decode cX2_called 82 = .ok (.invokevirtual 141, 3) := by decide +kernel
theorem dX2_called_85 : decode cX2_called 85 = .ok (.invokestatic 144, 3) := by decide +kernel
theorem dX2_called_88 : decode cX2_called 88 = .ok (.istore 10, 2) := by decide +kernel
theorem dX2_called_90 : decode cX2_called 90 = .ok (.iload_n 3, 1) := by decide +kernel
theorem dX2_called_91 : decode cX2_called 91 = .ok (.aload_n 0, 1) := by decide +kernel
theorem dX2_called_92 : decode cX2_called 92 = .ok (.getfield 10, 3) := by decide +kernel
theorem dX2_called_95 : decode cX2_called 95 = .ok (.iload 9, 2) := by decide +kernel
theorem dX2_called_97 : decode cX2_called 97 = .ok (.invokevirtual 149, 3) := by decide +kernel
theorem dX2_called_100 : decode cX2_called 100 = .ok (.invokestatic 152, 3) := by decide +kernel
theorem dX2_called_103 : decode cX2_called 103 = .ok (.istore 11, 2) := by decide +kernel
theorem dX2_called_105 : decode cX2_called 105 = .ok (.iload 10, 2) := by decide +kernel
theorem dX2_called_107 : decode cX2_called 107 = .ok (.iload 11, 2) := by decide +kernel
theorem dX2_called_109 : decode cX2_called 109 = .ok (.if_icmp .gt 57, 3) := by decide +kernel
theorem dX2_called_112 : decode cX2_called 112 = .ok (.aload_n 0, 1) := by decide +kernel
theorem dX2_called_113 : decode cX2_called 113 = .ok (.getfield 23, 3) := by decide +kernel
theorem dX2_called_116 : decode cX2_called 116 = .ok (.aload_n 0, 1) := by decide +kernel
theorem dX2_called_117 : decode cX2_called 117 = .ok (.getfield 10, 3) := by decide +kernel
theorem dX2_called_120 : decode cX2_called 120 = .ok (.iload_n 1, 1) := by decide +kernel
theorem dX2_called_121 : decode cX2_called 121 = .ok (.iload 9, 2) := by decide +kernel
theorem dX2_called_123 : decode cX2_called 123 = .ok (.invokevirtual 155, 3) := by decide +kernel
theorem dX2_called_126 : decode cX2_called 126 = .ok (.aload_n 0, 1) := by decide +kernel
theorem dX2_called_127 : decode cX2_called 127 = .ok (.getfield 31, 3) := by decide +kernel
theorem dX2_called_130 : decode cX2_called 130 = .ok (.iload 4, 2) := by decide +kernel
theorem dX2_called_132 : decode cX2_called 132 = .ok (.invokevirtual 158, 3) := by decide +kernel
theorem dX2_called_135 : decode cX2_called 135 = .ok (.ifCond .ne 6, 3) := by decide +kernel
theorem dX2_called_138 : decode cX2_called 138 = .ok (.goto 28, 3) := by decide +kernel
theorem dX2_called_141 : decode cX2_called 141 = .ok (.iload 6, 2) := by decide +kernel
theorem dX2_called_143 : decode cX2_called 143 = .ok (.ifCond .ne 7, 3) := by decide +kernel
theorem dX2_called_146 : decode cX2_called 146 = .ok (.iload 10, 2) := by decide +kernel
theorem dX2_called_148 : decode cX2_called 148 = .ok (.istore 7, 2) := by decide +kernel
theorem dX2_called_150 : decode cX2_called 150 = .ok (.iload 11, 2) := by decide +kernel
theorem dX2_called_152 : decode cX2_called 152 = .ok (.istore 8, 2) := by decide +kernel
theorem dX2_called_154 : decode cX2_called 154 = .ok (.iload 6, 2) := by decide +kernel
theorem dX2_called_156 : decode cX2_called 156 = .ok (.iload 11, 2) := by decide +kernel
theorem dX2_called_158 : decode cX2_called 158 = .ok (.iload 10, 2) := by decide +kernel
theorem dX2_called_160 : decode cX2_called 160 = .ok (.isub, 1) := by decide +kernel
theorem dX2_called_161 : decode cX2_called 161 = .ok (.iconst 1, 1) := by decide +kernel
theorem dX2_called_162 : decode cX2_called 162 = .ok (.iadd, 1) := by decide +kernel
theorem dX2_called_163 : decode cX2_called 163 = .ok (.iadd, 1) := by decide +kernel
theorem dX2_called_164 : decode cX2_called 164 = .ok (.istore 6, 2) := by decide +kernel
theorem dX2_called_166 : decode cX2_called 166 = .ok (.iinc 9 1, 3) := by decide +kernel
theorem dX2_called_169 : decode cX2_called 169 = .ok (.goto (-106), 3) := by decide +kernel
theorem dX2_called_172 : decode cX2_called 172 = .ok (.iload 5, 2) := by decide +kernel
theorem dX2_called_174 : decode cX2_called 174 = .ok (.ifCond .ne 6, 3) := by decide +kernel
theorem dX2_called_177 : decode cX2_called 177 = .ok (.iload 6, 2) := by decide +kernel
theorem dX2_called_179 : decode cX2_called 179 = .ok (.ireturn, 1) := by decide +kernel
theorem dX2_called_180 : decode cX2_called 180 = .ok (.iload 5, 2) := by decide +kernel
theorem dX2_called_182 : decode cX2_called 182 = .ok (.iconst 1, 1) := by decide +kernel
theorem dX2_called_183 : decode cX2_called 183 = .ok (.if_icmp .ne 8, 3) := by decide +kernel
theorem dX2_called_186 : decode cX2_called 186 = .ok (.iload 7, 2) := by decide +kernel
theorem dX2_called_188 : decode cX2_called 188 = .ok (.goto 5, 3) := by decide +kernel
theorem dX2_called_191 : decode cX2_called 191 = .ok (.iload 8, 2) := by decide +kernel
theorem dX2_called_193 : decode cX2_called 193 = .ok (.ireturn, 1) := by decide +kernel
set_option maxRecDepth 20000 in
theorem ggX2_off_X0_knows : GoodIn wsX2_off wsX0_knows := goodIn_r _ [8, 9, 79, 80, 81, 82, 83, 84, 85, 86] (by decide +kernel) (by decide +kernel)
set_option maxRecDepth 20000 in
theorem gX2_off_X0_knows : GoodIn wsX2_off (wsV RX2 43 RX0 yX0_knows wsX0_knows) := goodIn_app (goodIn_of _ (by decide +kernel)) ggX2_off_X0_knows
set_option maxRecDepth 20000 in
theorem ggX2_off_X2_isYear : GoodIn wsX2_off wsX2_isYear := goodIn_r _ [13] (by decide +kernel) (by decide +kernel)
set_option maxRecDepth 20000 in
theorem gX2_off_X2_isYear : GoodIn wsX2_off (va_wsS RX2 47 yX2_isYear wsX2_isYear) := goodIn_app (goodIn_of _ (by decide +kernel)) ggX2_off_X2_isYear
set_option maxRecDepth 20000 in
theorem ggX2_off_X2_padIsNoName : GoodIn wsX2_off wsX2_padIsNoName := goodIn_r _ [17, 3, 74, 75, 76, 77, 78] (by decide +kernel) (by decide +kernel)
set_option maxRecDepth 20000 in
theorem gX2_off_X2_padIsNoName : GoodIn wsX2_off (wsV RX2 50 RX2 yX2_padIsNoName wsX2_padIsNoName) := goodIn_app (goodIn_of _ (by decide +kernel)) ggX2_off_X2_padIsNoName
set_option maxRecDepth 20000 in
theorem ggX2_off_X0_nameIn : GoodIn wsX2_off wsX0_nameIn := goodIn_r _ [21, 22, 23, 24, 7, 25, 26, 27, 28, 29, 30, 31, 32, 33, 34, 35, 36, 37, 38, 39, 40, 41, 42, 43, 44, 45, 46, 47, 48, 49, 50, 51, 52, 53, 54, 55, 56, 57, 58, 79, 80, 81, 82, 83, 84, 85, 86] (by decide +kernel) (by decide +kernel)
set_option maxRecDepth 20000 in
theorem gX2_off_X0_nameIn : GoodIn wsX2_off (wsV RX2 108 RX0 yX0_nameIn wsX0_nameIn) := goodIn_app (goodIn_of _ (by decide +kernel)) ggX2_off_X0_nameIn
set_option maxRecDepth 20000 in
theorem ggX2_off_X1_distance : GoodIn wsX2_off wsX1_distance := goodIn_r _ [62, 63, 64, 65, 66, 67, 68, 69, 51, 70, 71, 72, 73, 87] (by decide +kernel) (by decide +kernel)
set_option maxRecDepth 20000 in
theorem gX2_off_X1_distance : GoodIn wsX2_off (wsV RX2 162 RX1 yX1_distance wsX1_distance) := goodIn_app (goodIn_of _ (by decide +kernel)) ggX2_off_X1_distance
theorem dX2_off_0 : decode cX2_off 0 = .ok (.aload_n 0, 1) := by decide +kernel
theorem dX2_off_1 : decode cX2_off 1 = .ok (.getfield 10, 3) := by decide +kernel
theorem dX2_off_4 : decode cX2_off 4 = .ok (.iload_n 1, 1) := by decide +kernel
theorem dX2_off_5 : decode cX2_off 5 = .ok (.invokevirtual 43, 3) := by decide +kernel
theorem dX2_off_8 : decode cX2_off 8 = .ok (.ifCond .ne 5, 3) := by decide +kernel
theorem dX2_off_11 : decode cX2_off 11 = .ok (.iconst (-1), 1) := by decide +kernel
theorem dX2_off_12 : decode cX2_off 12 = .ok (.ireturn, 1) := by decide +kernel
theorem dX2_off_13 : decode cX2_off 13 = .ok (.iload_n 2, 1) := by decide +kernel
theorem dX2_off_14 : decode cX2_off 14 = .ok (.invokestatic 47, 3) := by decide +kernel
theorem dX2_off_17 : decode cX2_off 17 = .ok (.ifCond .ne 6, 3) := by decide +kernel
theorem dX2_off_20 : decode cX2_off 20 = .ok (.bipush (-2), 2) := by decide +kernel
theorem dX2_off_22 : decode cX2_off 22 = .ok (.ireturn, 1) := by decide +kernel
theorem dX2_off_23 : decode cX2_off 23 = .ok (.aload_n 0, 1) := by decide +kernel
theorem dX2_off_24 : decode cX2_off 24 = .ok (.invokevirtual 50, 3) := by decide +kernel
theorem dX2_off_27 : decode cX2_off 27 = .ok (.ifCond .eq 6, 3) := by decide +kernel
theorem dX2_off_30 : decode cX2_off 30 = .ok (.bipush (-7), 2) := by decide +kernel
theorem dX2_off_32 : decode cX2_off 32 = .ok (.ireturn, 1) := by decide +kernel
theorem dX2_off_33 : decode cX2_off 33 = .ok (.aload_n 0, 1) := by decide +kernel
theorem dX2_off_34 : decode cX2_off 34 = .ok (.getfield 10, 3) := by decide +kernel
theorem dX2_off_37 : decode cX2_off 37 = .ok (.iload_n 1, 1) := by decide +kernel
theorem dX2_off_38 : decode cX2_off 38 = .ok (.iload_n 2, 1) := by decide +kernel
theorem dX2_off_39 : decode cX2_off 39 = .ok (.invokevirtual 108, 3) := by decide +kernel
theorem dX2_off_42 : decode cX2_off 42 = .ok (.lstore_n 3, 1) := by decide +kernel
theorem dX2_off_43 : decode cX2_off 43 = .ok (.lload_n 3, 1) := by decide +kernel
theorem dX2_off_44 : decode cX2_off 44 = .ok (.lconst 0, 1) := by decide +kernel
theorem dX2_off_45 : decode cX2_off 45 = .ok (.lcmp, 1) := by decide +kernel
theorem dX2_off_46 : decode cX2_off 46 = .ok (.ifCond .ne 8, 3) := by decide +kernel
theorem dX2_off_49 : decode cX2_off 49 = .ok (.bipush (-6), 2) := by decide +kernel
theorem dX2_off_51 : decode cX2_off 51 = .ok (.goto 15, 3) := by decide +kernel
theorem dX2_off_54 : decode cX2_off 54 = .ok (.aload_n 0, 1) := by decide +kernel
theorem dX2_off_55 : decode cX2_off 55 = .ok (.getfield 23, 3) := by decide +kernel
theorem dX2_off_58 : decode cX2_off 58 = .ok (.aload_n 0, 1) := by decide +kernel
theorem dX2_off_59 : decode cX2_off 59 = .ok (.getfield 31, 3) := by decide +kernel
theorem dX2_off_62 : decode cX2_off 62 = .ok (.lload_n 3, 1) := by decide +kernel
theorem dX2_off_63 : decode cX2_off 63 = .ok (.invokevirtual 162, 3) := by decide +kernel
theorem dX2_off_66 : decode cX2_off 66 = .ok (.ireturn, 1) := by decide +kernel
set_option maxRecDepth 20000 in
theorem ggX2_span_X2_isSite : GoodIn wsX2_span wsX2_isSite := goodIn_r _ [5] (by decide +kernel) (by decide +kernel)
set_option maxRecDepth 20000 in
theorem gX2_span_X2_isSite : GoodIn wsX2_span (va_wsS RX2 96 yX2_isSite wsX2_isSite) := goodIn_app (goodIn_of _ (by decide +kernel)) ggX2_span_X2_isSite
set_option maxRecDepth 20000 in
theorem ggX2_span_X0_stageIn : GoodIn wsX2_span wsX0_stageIn := goodIn_r _ [10, 11, 12, 70, 71, 72, 73, 74, 75, 76, 77] (by decide +kernel) (by decide +kernel)
set_option maxRecDepth 20000 in
theorem gX2_span_X0_stageIn : GoodIn wsX2_span (wsV RX2 99 RX0 yX0_stageIn wsX0_stageIn) := goodIn_app (goodIn_of _ (by decide +kernel)) ggX2_span_X0_stageIn
set_option maxRecDepth 20000 in
theorem ggX2_span_X0_eventCount : GoodIn wsX2_span wsX0_eventCount := goodIn_r _ [16, 11, 70, 71, 72, 73, 74, 75, 76, 77] (by decide +kernel) (by decide +kernel)
set_option maxRecDepth 20000 in
theorem gX2_span_X0_eventCount : GoodIn wsX2_span (wsV RX2 86 RX0 yX0_eventCount wsX0_eventCount) := goodIn_app (goodIn_of _ (by decide +kernel)) ggX2_span_X0_eventCount
set_option maxRecDepth 20000 in
theorem ggX2_span_X0_nextSpan : GoodIn wsX2_span wsX0_nextSpan := goodIn_r _ [20, 11, 21, 22, 23, 9, 24, 25, 26, 27, 4, 28, 29, 30, 31, 32, 33, 34, 35, 36, 37, 38, 39, 40, 41, 42, 43, 44, 45, 46, 47, 48, 49, 50, 51, 52, 53, 54, 12, 55, 56, 57, 58, 70, 71, 72, 73, 74, 75, 76, 77] (by decide +kernel) (by decide +kernel)
set_option maxRecDepth 20000 in
theorem gX2_span_X0_nextSpan : GoodIn wsX2_span (wsV RX2 166 RX0 yX0_nextSpan wsX0_nextSpan) := goodIn_app (goodIn_of _ (by decide +kernel)) ggX2_span_X0_nextSpan
set_option maxRecDepth 20000 in
theorem ggX2_span_X2_spanFact : GoodIn wsX2_span wsX2_spanFact := goodIn_r _ [62, 1, 63, 52, 53, 9, 54, 11, 12, 64, 22, 23, 24, 25, 26, 27, 4, 28, 13, 14, 15, 16, 65, 66, 67, 68, 69, 70, 71, 72, 73, 74, 75, 76, 77] (by decide +kernel) (by decide +kernel)
set_option maxRecDepth 20000 in
theorem gX2_span_X2_spanFact : GoodIn wsX2_span (wsV RX2 169 RX2 yX2_spanFact wsX2_spanFact) := goodIn_app (goodIn_of _ (by decide +kernel)) ggX2_span_X2_spanFact
theorem dX2_span_0 : decode cX2_span 0 = .ok (.iload_n 1, 1) := by decide +kernel
theorem dX2_span_1 : decode cX2_span 1 = .ok (.invokestatic 96, 3) := by decide +kernel
theorem dX2_span_4 : decode cX2_span 4 = .ok (.ifCond .ne 5, 3) := by decide +kernel
theorem dX2_span_7 : decode cX2_span 7 = .ok (.iconst (-1), 1) := by decide +kernel
theorem dX2_span_8 : decode cX2_span 8 = .ok (.ireturn, 1) := by decide +kernel
theorem dX2_span_9 : decode cX2_span 9 = .ok (.iload_n 2, 1) := by decide +kernel
theorem dX2_span_10 : decode cX2_span 10 = .ok (.iconst (-1), 1) := by decide +kernel
theorem dX2_span_11 : decode cX2_span 11 = .ok (.if_icmp .lt 12, 3) := by decide +kernel
theorem dX2_span_14 : decode cX2_span 14 = .ok (.iload_n 3, 1) := by decide +kernel
theorem dX2_span_15 : decode cX2_span 15 = .ok (.ifCond .lt 8, 3) := by decide +kernel
theorem dX2_span_18 : decode cX2_span 18 = .ok (.iload_n 3, 1) := by decide +kernel
theorem dX2_span_19 : decode cX2_span 19 = .ok (.iconst 2, 1) := by decide +kernel
theorem dX2_span_20 : decode cX2_span 20 = .ok (.if_icmp .le 6, 3) := by decide +kernel
theorem dX2_span_23 : decode cX2_span 23 = .ok (.bipush (-2), 2) := by decide +kernel
theorem dX2_span_25 : decode cX2_span 25 = .ok (.ireturn, 1) := by decide +kernel
theorem dX2_span_26 : decode cX2_span 26 = .ok (.iconst 0, 1) := by decide +kernel
theorem dX2_span_27 : decode cX2_span 27 = .ok (.istore 4, 2) := by decide +kernel
end
section
theorem dX2_span_29 : decode cX2_span 29 = .ok (.aload_n 0, 1) := by decide +kernel
theorem dX2_span_30 : decode cX2_span 30 = .ok (.getfield 10, 3) := by decide +kernel
theorem dX2_span_33 : decode cX2_span 33 = .ok (.iconst 0, 1) := by decide +kernel
theorem dX2_span_34 : decode cX2_span 34 = .ok (.invokevirtual 99, 3) := by decide +kernel
theorem dX2_span_37 : decode cX2_span 37 = .ok (.istore 5, 2) := by decide +kernel
theorem dX2_span_39 : decode cX2_span 39 = .ok (.iconst 0, 1) := by decide +kernel
theorem dX2_span_40 : decode cX2_span 40 = .ok (.istore 6, 2) := by decide +kernel
theorem dX2_span_42 : decode cX2_span 42 = .ok (.iload 6, 2) := by decide +kernel
theorem dX2_span_44 : decode cX2_span 44 = .ok (.bipush 30, 2) := by decide +kernel
theorem dX2_span_46 : decode cX2_span 46 = .ok (.if_icmp .gt 57, 3) := by decide +kernel
theorem dX2_span_49 : decode cX2_span 49 = .ok (.iload 5, 2) := by decide +kernel
theorem dX2_span_51 : decode cX2_span 51 = .ok (.aload_n 0, 1) := by decide +kernel
theorem dX2_span_52 : decode cX2_span 52 = .ok (.getfield 10, 3) := by decide +kernel
theorem dX2_span_55 : decode cX2_span 55 = .ok (.invokevirtual 86, 3) := by decide +kernel
theorem dX2_span_58 : decode cX2_span 58 = .ok (.if_icmp .gt 45, 3) := by decide +kernel
theorem dX2_span_61 : decode cX2_span 61 = .ok (.aload_n 0, 1) := by decide +kernel
theorem dX2_span_62 : decode cX2_span 62 = .ok (.getfield 10, 3) := by decide +kernel
theorem dX2_span_65 : decode cX2_span 65 = .ok (.iload_n 1, 1) := by decide +kernel
theorem dX2_span_66 : decode cX2_span 66 = .ok (.iload 5, 2) := by decide +kernel
theorem dX2_span_68 : decode cX2_span 68 = .ok (.invokevirtual 166, 3) := by decide +kernel
theorem dX2_span_71 : decode cX2_span 71 = .ok (.istore 7, 2) := by decide +kernel
theorem dX2_span_73 : decode cX2_span 73 = .ok (.iload 4, 2) := by decide +kernel
theorem dX2_span_75 : decode cX2_span 75 = .ok (.iload_n 2, 1) := by decide +kernel
theorem dX2_span_76 : decode cX2_span 76 = .ok (.if_icmp .ne 14, 3) := by decide +kernel
theorem dX2_span_79 : decode cX2_span 79 = .ok (.aload_n 0, 1) := by decide +kernel
theorem dX2_span_80 : decode cX2_span 80 = .ok (.iload_n 1, 1) := by decide +kernel
theorem dX2_span_81 : decode cX2_span 81 = .ok (.iload 5, 2) := by decide +kernel
theorem dX2_span_83 : decode cX2_span 83 = .ok (.iload 7, 2) := by decide +kernel
theorem dX2_span_85 : decode cX2_span 85 = .ok (.iload_n 3, 1) := by decide +kernel
theorem dX2_span_86 : decode cX2_span 86 = .ok (.invokevirtual 169, 3) := by decide +kernel
theorem dX2_span_89 : decode cX2_span 89 = .ok (.ireturn, 1) := by decide +kernel
theorem dX2_span_90 : decode cX2_span 90 = .ok (.iinc 4 1, 3) := by decide +kernel
theorem dX2_span_93 : decode cX2_span 93 = .ok (.iload 7, 2) := by decide +kernel
theorem dX2_span_95 : decode cX2_span 95 = .ok (.istore 5, 2) := by decide +kernel
theorem dX2_span_97 : decode cX2_span 97 = .ok (.iinc 6 1, 3) := by decide +kernel
theorem dX2_span_100 : decode cX2_span 100 = .ok (.goto (-58), 3) := by decide +kernel
theorem dX2_span_103 : decode cX2_span 103 = .ok (.iload_n 2, 1) := by decide +kernel
theorem dX2_span_104 : decode cX2_span 104 = .ok (.iconst (-1), 1) := by decide +kernel
theorem dX2_span_105 : decode cX2_span 105 = .ok (.if_icmp .ne 8, 3) := by decide +kernel
theorem dX2_span_108 : decode cX2_span 108 = .ok (.iload 4, 2) := by decide +kernel
theorem dX2_span_110 : decode cX2_span 110 = .ok (.goto 5, 3) := by decide +kernel
theorem dX2_span_113 : decode cX2_span 113 = .ok (.bipush (-6), 2) := by decide +kernel
theorem dX2_span_115 : decode cX2_span 115 = .ok (.ireturn, 1) := by decide +kernel
set_option maxRecDepth 20000 in
theorem ggX2_heirs_X0_knows : GoodIn wsX2_heirs wsX0_knows := goodIn_r _ [6, 7, 44, 45, 46, 47, 48, 49, 50, 51] (by decide +kernel) (by decide +kernel)
set_option maxRecDepth 20000 in
theorem gX2_heirs_X0_knows : GoodIn wsX2_heirs (wsV RX2 43 RX0 yX0_knows wsX0_knows) := goodIn_app (goodIn_of _ (by decide +kernel)) ggX2_heirs_X0_knows
set_option maxRecDepth 20000 in
theorem ggX2_heirs_X2_isYear : GoodIn wsX2_heirs wsX2_isYear := goodIn_r _ [11] (by decide +kernel) (by decide +kernel)
set_option maxRecDepth 20000 in
theorem gX2_heirs_X2_isYear : GoodIn wsX2_heirs (va_wsS RX2 47 yX2_isYear wsX2_isYear) := goodIn_app (goodIn_of _ (by decide +kernel)) ggX2_heirs_X2_isYear
set_option maxRecDepth 20000 in
theorem ggX2_heirs_X0_stageIn : GoodIn wsX2_heirs wsX0_stageIn := goodIn_r _ [15, 16, 17, 44, 45, 46, 47, 48, 49, 50, 51] (by decide +kernel) (by decide +kernel)
set_option maxRecDepth 20000 in
theorem gX2_heirs_X0_stageIn : GoodIn wsX2_heirs (wsV RX2 99 RX0 yX0_stageIn wsX0_stageIn) := goodIn_app (goodIn_of _ (by decide +kernel)) ggX2_heirs_X0_stageIn
set_option maxRecDepth 20000 in
theorem ggX2_heirs_X0_sitesBehind : GoodIn wsX2_heirs wsX0_sitesBehind := goodIn_r _ [21, 16, 22, 23, 5, 24, 25, 26, 27, 28, 29, 30, 31, 44, 45, 46, 47, 48, 49, 50, 51] (by decide +kernel) (by decide +kernel)
set_option maxRecDepth 20000 in
theorem gX2_heirs_X0_sitesBehind : GoodIn wsX2_heirs (wsV RX2 105 RX0 yX0_sitesBehind wsX0_sitesBehind) := goodIn_app (goodIn_of _ (by decide +kernel)) ggX2_heirs_X0_sitesBehind
set_option maxRecDepth 20000 in
theorem ggX2_heirs_X2_has : GoodIn wsX2_heirs wsX2_has := goodIn_r _ [34] (by decide +kernel) (by decide +kernel)
set_option maxRecDepth 20000 in
theorem gX2_heirs_X2_has : GoodIn wsX2_heirs (va_wsS RX2 173 yX2_has wsX2_has) := goodIn_app (goodIn_of _ (by decide +kernel)) ggX2_heirs_X2_has
set_option maxRecDepth 20000 in
theorem ggX2_heirs_X0_ownerBehind : GoodIn wsX2_heirs wsX0_ownerBehind := goodIn_r _ [38, 16, 30, 31, 33, 10, 34, 44, 45, 46, 47, 48, 49, 50, 51] (by decide +kernel) (by decide +kernel)
set_option maxRecDepth 20000 in
theorem gX2_heirs_X0_ownerBehind : GoodIn wsX2_heirs (wsV RX2 102 RX0 yX0_ownerBehind wsX0_ownerBehind) := goodIn_app (goodIn_of _ (by decide +kernel)) ggX2_heirs_X0_ownerBehind
theorem dX2_heirs_0 : decode cX2_heirs 0 = .ok (.aload_n 0, 1) := by decide +kernel
theorem dX2_heirs_1 : decode cX2_heirs 1 = .ok (.getfield 10, 3) := by decide +kernel
theorem dX2_heirs_4 : decode cX2_heirs 4 = .ok (.iload_n 1, 1) := by decide +kernel
theorem dX2_heirs_5 : decode cX2_heirs 5 = .ok (.invokevirtual 43, 3) := by decide +kernel
theorem dX2_heirs_8 : decode cX2_heirs 8 = .ok (.ifCond .ne 5, 3) := by decide +kernel
theorem dX2_heirs_11 : decode cX2_heirs 11 = .ok (.iconst (-1), 1) := by decide +kernel
theorem dX2_heirs_12 : decode cX2_heirs 12 = .ok (.ireturn, 1) := by decide +kernel
theorem dX2_heirs_13 : decode cX2_heirs 13 = .ok (.iload_n 2, 1) := by decide +kernel
theorem dX2_heirs_14 : decode cX2_heirs 14 = .ok (.invokestatic 47, 3) := by decide +kernel
theorem dX2_heirs_17 : decode cX2_heirs 17 = .ok (.ifCond .eq 10, 3) := by decide +kernel
theorem dX2_heirs_20 : decode cX2_heirs 20 = .ok (.iload_n 3, 1) := by decide +kernel
theorem dX2_heirs_21 : decode cX2_heirs 21 = .ok (.invokestatic 47, 3) := by decide +kernel
theorem dX2_heirs_24 : decode cX2_heirs 24 = .ok (.ifCond .ne 6, 3) := by decide +kernel
theorem dX2_heirs_27 : decode cX2_heirs 27 = .ok (.bipush (-2), 2) := by decide +kernel
theorem dX2_heirs_29 : decode cX2_heirs 29 = .ok (.ireturn, 1) := by decide +kernel
theorem dX2_heirs_30 : decode cX2_heirs 30 = .ok (.aload_n 0, 1) := by decide +kernel
theorem dX2_heirs_31 : decode cX2_heirs 31 = .ok (.getfield 10, 3) := by decide +kernel
theorem dX2_heirs_34 : decode cX2_heirs 34 = .ok (.iload_n 1, 1) := by decide +kernel
theorem dX2_heirs_35 : decode cX2_heirs 35 = .ok (.aload_n 0, 1) := by decide +kernel
theorem dX2_heirs_36 : decode cX2_heirs 36 = .ok (.getfield 10, 3) := by decide +kernel
theorem dX2_heirs_39 : decode cX2_heirs 39 = .ok (.iload_n 2, 1) := by decide +kernel
theorem dX2_heirs_40 : decode cX2_heirs 40 = .ok (.invokevirtual 99, 3) := by decide +kernel
theorem dX2_heirs_43 : decode cX2_heirs 43 = .ok (.invokevirtual 105, 3) := by decide +kernel
theorem dX2_heirs_46 : decode cX2_heirs 46 = .ok (.istore 4, 2) := by decide +kernel
theorem dX2_heirs_48 : decode cX2_heirs 48 = .ok (.aload_n 0, 1) := by decide +kernel
theorem dX2_heirs_49 : decode cX2_heirs 49 = .ok (.getfield 10, 3) := by decide +kernel
theorem dX2_heirs_52 : decode cX2_heirs 52 = .ok (.iload_n 3, 1) := by decide +kernel
theorem dX2_heirs_53 : decode cX2_heirs 53 = .ok (.invokevirtual 99, 3) := by decide +kernel
theorem dX2_heirs_56 : decode cX2_heirs 56 = .ok (.istore 5, 2) := by decide +kernel
theorem dX2_heirs_58 : decode cX2_heirs 58 = .ok (.iconst 0, 1) := by decide +kernel
theorem dX2_heirs_59 : decode cX2_heirs 59 = .ok (.istore 6, 2) := by decide +kernel
theorem dX2_heirs_61 : decode cX2_heirs 61 = .ok (.iconst 0, 1) := by decide +kernel
theorem dX2_heirs_62 : decode cX2_heirs 62 = .ok (.istore 7, 2) := by decide +kernel
theorem dX2_heirs_64 : decode cX2_heirs 64 = .ok (.iload 7, 2) := by decide +kernel
theorem dX2_heirs_66 : decode cX2_heirs 66 = .ok (.bipush 12, 2) := by decide +kernel
theorem dX2_heirs_68 : decode cX2_heirs 68 = .ok (.if_icmp .ge 37, 3) := by decide +kernel
theorem dX2_heirs_71 : decode cX2_heirs 71 = .ok (.iload 4, 2) := by decide +kernel
theorem dX2_heirs_73 : decode cX2_heirs 73 = .ok (.iload 7, 2) := by decide +kernel
theorem dX2_heirs_75 : decode cX2_heirs 75 = .ok (.invokestatic 173, 3) := by decide +kernel
theorem dX2_heirs_78 : decode cX2_heirs 78 = .ok (.ifCond .eq 21, 3) := by decide +kernel
theorem dX2_heirs_81 : decode cX2_heirs 81 = .ok (.iload 6, 2) := by decide +kernel
theorem dX2_heirs_83 : decode cX2_heirs 83 = .ok (.iconst 1, 1) := by decide +kernel
theorem dX2_heirs_84 : decode cX2_heirs 84 = .ok (.aload_n 0, 1) := by decide +kernel
theorem dX2_heirs_85 : decode cX2_heirs 85 = .ok (.getfield 10, 3) := by decide +kernel
theorem dX2_heirs_88 : decode cX2_heirs 88 = .ok (.iload 7, 2) := by decide +kernel
theorem dX2_heirs_90 : decode cX2_heirs 90 = .ok (.iload 5, 2) := by decide +kernel
theorem dX2_heirs_92 : decode cX2_heirs 92 = .ok (.invokevirtual 102, 3) := by decide +kernel
theorem dX2_heirs_95 : decode cX2_heirs 95 = .ok (.ishl, 1) := by decide +kernel
theorem dX2_heirs_96 : decode cX2_heirs 96 = .ok (.ior, 1) := by decide +kernel
theorem dX2_heirs_97 : decode cX2_heirs 97 = .ok (.istore 6, 2) := by decide +kernel
theorem dX2_heirs_99 : decode cX2_heirs 99 = .ok (.iinc 7 1, 3) := by decide +kernel
theorem dX2_heirs_102 : decode cX2_heirs 102 = .ok (.goto (-38), 3) := by decide +kernel
theorem dX2_heirs_105 : decode cX2_heirs 105 = .ok (.iload 6, 2) := by decide +kernel
theorem dX2_heirs_107 : decode cX2_heirs 107 = .ok (.ireturn, 1) := by decide +kernel
set_option maxRecDepth 20000 in
theorem ggX2_image_X0_becomeLike : GoodIn wsX2_image wsX0_becomeLike := goodIn_r _ [8, 9, 10, 11, 12, 13, 14, 15, 16, 17, 18, 19, 20, 26, 27, 28, 29, 30, 31, 32, 33] (by decide +kernel) (by decide +kernel)
set_option maxRecDepth 20000 in
theorem gX2_image_X0_becomeLike : GoodIn wsX2_image (wsV RX2 176 RX0 yX0_becomeLike wsX0_becomeLike) := goodIn_app (goodIn_of _ (by decide +kernel)) ggX2_image_X0_becomeLike
theorem dX2_image_0 : decode cX2_image 0 = .ok (.iload_n 1, 1) := by decide +kernel
theorem dX2_image_1 : decode cX2_image 1 = .ok (.ifCond .lt 8, 3) := by decide +kernel
theorem dX2_image_4 : decode cX2_image 4 = .ok (.iload_n 1, 1) := by decide +kernel
theorem dX2_image_5 : decode cX2_image 5 = .ok (.iconst 2, 1) := by decide +kernel
theorem dX2_image_6 : decode cX2_image 6 = .ok (.if_icmp .lt 6, 3) := by decide +kernel
theorem dX2_image_9 : decode cX2_image 9 = .ok (.bipush (-2), 2) := by decide +kernel
theorem dX2_image_11 : decode cX2_image 11 = .ok (.ireturn, 1) := by decide +kernel
theorem dX2_image_12 : decode cX2_image 12 = .ok (.aload_n 0, 1) := by decide +kernel
theorem dX2_image_13 : decode cX2_image 13 = .ok (.getfield 16, 3) := by decide +kernel
theorem dX2_image_16 : decode cX2_image 16 = .ok (.iload_n 1, 1) := by decide +kernel
theorem dX2_image_17 : decode cX2_image 17 = .ok (.aaload, 1) := by decide +kernel
theorem dX2_image_18 : decode cX2_image 18 = .ok (.aload_n 0, 1) := by decide +kernel
theorem dX2_image_19 : decode cX2_image 19 = .ok (.getfield 10, 3) := by decide +kernel
theorem dX2_image_22 : decode cX2_image 22 = .ok (.invokevirtual 176, 3) := by decide +kernel
theorem dX2_image_25 : decode cX2_image 25 = .ok (.aload_n 0, 1) := by decide +kernel
theorem dX2_image_26 : decode cX2_image 26 = .ok (.dup, 1) := by decide +kernel
theorem dX2_image_27 : decode cX2_image 27 = .ok (.getfield 27, 3) := by decide +kernel
theorem dX2_image_30 : decode cX2_image 30 = .ok (.iconst 1, 1) := by decide +kernel
theorem dX2_image_31 : decode cX2_image 31 = .ok (.iload_n 1, 1) := by decide +kernel
theorem dX2_image_32 : decode cX2_image 32 = .ok (.ishl, 1) := by decide +kernel
theorem dX2_image_33 : decode cX2_image 33 = .ok (.ior, 1) := by decide +kernel
theorem dX2_image_34 : decode cX2_image 34 = .ok (.putfield 27, 3) := by decide +kernel
theorem dX2_image_37 : decode cX2_image 37 = .ok (.iconst 1, 1) := by decide +kernel
theorem dX2_image_38 : decode cX2_image 38 = .ok (.ireturn, 1) := by decide +kernel
set_option maxRecDepth 20000 in
theorem ggX2_restore_X2_has : GoodIn wsX2_restore wsX2_has := goodIn_r _ [7] (by decide +kernel) (by decide +kernel)
set_option maxRecDepth 20000 in
theorem gX2_restore_X2_has : GoodIn wsX2_restore (va_wsS RX2 173 yX2_has wsX2_has) := goodIn_app (goodIn_of _ (by decide +kernel)) ggX2_restore_X2_has
set_option maxRecDepth 20000 in
theorem ggX2_restore_X0_becomeLike : GoodIn wsX2_restore wsX0_becomeLike := goodIn_r _ [12, 13, 14, 15, 16, 17, 18, 19, 20, 21, 22, 23, 24, 30, 31, 32, 33, 34, 35, 36, 37] (by decide +kernel) (by decide +kernel)
set_option maxRecDepth 20000 in
theorem gX2_restore_X0_becomeLike : GoodIn wsX2_restore (wsV RX2 176 RX0 yX0_becomeLike wsX0_becomeLike) := goodIn_app (goodIn_of _ (by decide +kernel)) ggX2_restore_X0_becomeLike
theorem dX2_restore_0 : decode cX2_restore 0 = .ok (.iload_n 1, 1) := by decide +kernel
theorem dX2_restore_1 : decode cX2_restore 1 = .ok (.ifCond .lt 8, 3) := by decide +kernel
theorem dX2_restore_4 : decode cX2_restore 4 = .ok (.iload_n 1, 1) := by decide +kernel
theorem dX2_restore_5 : decode cX2_restore 5 = .ok (.iconst 2, 1) := by decide +kernel
theorem dX2_restore_6 : decode cX2_restore 6 = .ok (.if_icmp .lt 6, 3) := by decide +kernel
theorem dX2_restore_9 : decode cX2_restore 9 = .ok (.bipush (-2), 2) := by decide +kernel
theorem dX2_restore_11 : decode cX2_restore 11 = .ok (.ireturn, 1) := by decide +kernel
theorem dX2_restore_12 : decode cX2_restore 12 = .ok (.aload_n 0, 1) := by decide +kernel
theorem dX2_restore_13 : decode cX2_restore 13 = .ok (.getfield 27, 3) := by decide +kernel
theorem dX2_restore_16 : decode cX2_restore 16 = .ok (.iload_n 1, 1) := by decide +kernel
theorem dX2_restore_17 : decode cX2_restore 17 = .ok (.invokestatic 173, 3) := by decide +kernel
theorem dX2_restore_20 : decode cX2_restore 20 = .ok (.ifCond .ne 6, 3) := by decide +kernel
theorem dX2_restore_23 : decode cX2_restore 23 = .ok (.bipush (-3), 2) := by decide +kernel
theorem dX2_restore_25 : decode cX2_restore 25 = .ok (.ireturn, 1) := by decide +kernel
theorem dX2_restore_26 : decode cX2_restore 26 = .ok (.aload_n 0, 1) := by decide +kernel
theorem dX2_restore_27 : decode cX2_restore 27 = .ok (.getfield 10, 3) := by decide +kernel
theorem dX2_restore_30 : decode cX2_restore 30 = .ok (.aload_n 0, 1) := by decide +kernel
theorem dX2_restore_31 : decode cX2_restore 31 = .ok (.getfield 16, 3) := by decide +kernel
theorem dX2_restore_34 : decode cX2_restore 34 = .ok (.iload_n 1, 1) := by decide +kernel
theorem dX2_restore_35 : decode cX2_restore 35 = .ok (.aaload, 1) := by decide +kernel
theorem dX2_restore_36 : decode cX2_restore 36 = .ok (.invokevirtual 176, 3) := by decide +kernel
theorem dX2_restore_39 : decode cX2_restore 39 = .ok (.iconst 1, 1) := by decide +kernel
theorem dX2_restore_40 : decode cX2_restore 40 = .ok (.ireturn, 1) := by decide +kernel
set_option maxRecDepth 20000 in
theorem ggX2_count_X0_eventCount : GoodIn wsX2_count wsX0_eventCount := goodIn_r _ [8, 9, 82, 83, 84, 85, 86, 87, 88, 89] (by decide +kernel) (by decide +kernel)
set_option maxRecDepth 20000 in
theorem gX2_count_X0_eventCount : GoodIn wsX2_count (wsV RX2 86 RX0 yX0_eventCount wsX0_eventCount) := goodIn_app (goodIn_of _ (by decide +kernel)) ggX2_count_X0_eventCount
set_option maxRecDepth 20000 in
theorem ggX2_count_X0_parishCount : GoodIn wsX2_count wsX0_parishCount := goodIn_r _ [13, 14, 82, 83, 84, 85, 86, 87, 88, 89] (by decide +kernel) (by decide +kernel)
set_option maxRecDepth 20000 in
theorem gX2_count_X0_parishCount : GoodIn wsX2_count (wsV RX2 83 RX0 yX0_parishCount wsX0_parishCount) := goodIn_app (goodIn_of _ (by decide +kernel)) ggX2_count_X0_parishCount
set_option maxRecDepth 20000 in
theorem ggX2_count_X1_lengthOf : GoodIn wsX2_count wsX1_lengthOf := goodIn_r _ [18, 19, 20, 17, 21] (by decide +kernel) (by decide +kernel)
set_option maxRecDepth 20000 in
theorem gX2_count_X1_lengthOf : GoodIn wsX2_count (va_wsS RX2 35 yX1_lengthOf wsX1_lengthOf) := goodIn_app (goodIn_of _ (by decide +kernel)) ggX2_count_X1_lengthOf
set_option maxRecDepth 20000 in
theorem ggX2_count_X0_yearOfLast : GoodIn wsX2_count wsX0_yearOfLast := goodIn_r _ [25, 9, 26, 82, 83, 84, 85, 86, 87, 88, 89] (by decide +kernel) (by decide +kernel)
set_option maxRecDepth 20000 in
theorem gX2_count_X0_yearOfLast : GoodIn wsX2_count (wsV RX2 54 RX0 yX0_yearOfLast wsX0_yearOfLast) := goodIn_app (goodIn_of _ (by decide +kernel)) ggX2_count_X0_yearOfLast
set_option maxRecDepth 20000 in
theorem ggX2_count_X0_parishesNow : GoodIn wsX2_count wsX0_parishesNow := goodIn_r _ [30, 14, 31, 32, 33, 7, 34, 9, 35, 36, 37, 38, 39, 40, 41, 42, 43, 44, 45, 46, 47, 48, 82, 83, 84, 85, 86, 87, 88, 89] (by decide +kernel) (by decide +kernel)
set_option maxRecDepth 20000 in
theorem gX2_count_X0_parishesNow : GoodIn wsX2_count (wsV RX2 180 RX0 yX0_parishesNow wsX0_parishesNow) := goodIn_app (goodIn_of _ (by decide +kernel)) ggX2_count_X0_parishesNow
set_option maxRecDepth 20000 in
theorem ggX2_count_X0_unlikeNamesNow : GoodIn wsX2_count wsX0_unlikeNamesNow := goodIn_r _ [52, 14, 31, 32, 33, 7, 34, 9, 35, 36, 37, 38, 39, 40, 41, 42, 43, 44, 45, 46, 47, 48, 53, 54, 55, 56, 57, 58, 59, 60, 61, 62, 63, 64, 65, 17, 66, 67, 68, 69, 70, 71, 72, 82, 83, 84, 85, 86, 87, 88, 89] (by decide +kernel) (by decide +kernel)
set_option maxRecDepth 20000 in
theorem gX2_count_X0_unlikeNamesNow : GoodIn wsX2_count (wsV RX2 183 RX0 yX0_unlikeNamesNow wsX0_unlikeNamesNow) := goodIn_app (goodIn_of _ (by decide +kernel)) ggX2_count_X0_unlikeNamesNow
set_option maxRecDepth 20000 in
theorem ggX2_count_X0_eventsOfKind : GoodIn wsX2_count wsX0_eventsOfKind := goodIn_r _ [76, 9, 71, 82, 83, 84, 85, 86, 87, 88, 89] (by decide +kernel) (by decide +kernel)
set_option maxRecDepth 20000 in
theorem gX2_count_X0_eventsOfKind : GoodIn wsX2_count (wsV RX2 186 RX0 yX0_eventsOfKind wsX0_eventsOfKind) := goodIn_app (goodIn_of _ (by decide +kernel)) ggX2_count_X0_eventsOfKind
theorem dX2_count_0 : decode cX2_count 0 = .ok (.iload_n 1, 1) := by decide +kernel
theorem dX2_count_1 : decode cX2_count 1 = .ok (.tableswitch 136 0 13 #[71, 79, 87, 95, 103, 111, 119, 136, 136, 136, 124, 124, 124, 124], 71) := by decide +kernel
theorem dX2_count_72 : decode cX2_count 72 = .ok (.aload_n 0, 1) := by decide +kernel
theorem dX2_count_73 : decode cX2_count 73 = .ok (.getfield 10, 3) := by decide +kernel
theorem dX2_count_76 : decode cX2_count 76 = .ok (.invokevirtual 86, 3) := by decide +kernel
theorem dX2_count_79 : decode cX2_count 79 = .ok (.ireturn, 1) := by decide +kernel
theorem dX2_count_80 : decode cX2_count 80 = .ok (.aload_n 0, 1) := by decide +kernel
theorem dX2_count_81 : decode cX2_count 81 = .ok (.getfield 10, 3) := by decide +kernel
theorem dX2_count_84 : decode cX2_count 84 = .ok (.invokevirtual 83, 3) := by decide +kernel
theorem dX2_count_87 : decode cX2_count 87 = .ok (.ireturn, 1) := by decide +kernel
theorem dX2_count_88 : decode cX2_count 88 = .ok (.aload_n 0, 1) := by decide +kernel
theorem dX2_count_89 : decode cX2_count 89 = .ok (.getfield 31, 3) := by decide +kernel
theorem dX2_count_92 : decode cX2_count 92 = .ok (.invokestatic 35, 3) := by decide +kernel
theorem dX2_count_95 : decode cX2_count 95 = .ok (.ireturn, 1) := by decide +kernel
theorem dX2_count_96 : decode cX2_count 96 = .ok (.aload_n 0, 1) := by decide +kernel
theorem dX2_count_97 : decode cX2_count 97 = .ok (.getfield 10, 3) := by decide +kernel
theorem dX2_count_100 : decode cX2_count 100 = .ok (.invokevirtual 54, 3) := by decide +kernel
theorem dX2_count_103 : decode cX2_count 103 = .ok (.ireturn, 1) := by decide +kernel
theorem dX2_count_104 : decode cX2_count 104 = .ok (.aload_n 0, 1) := by decide +kernel
theorem dX2_count_105 : decode cX2_count 105 = .ok (.getfield 10, 3) := by decide +kernel
theorem dX2_count_108 : decode cX2_count 108 = .ok (.invokevirtual 180, 3) := by decide +kernel
theorem dX2_count_111 : decode cX2_count 111 = .ok (.ireturn, 1) := by decide +kernel
theorem dX2_count_112 : decode cX2_count 112 = .ok (.aload_n 0, 1) := by decide +kernel
theorem dX2_count_113 : decode cX2_count 113 = .ok (.getfield 10, 3) := by decide +kernel
theorem dX2_count_116 : decode cX2_count 116 = .ok (.invokevirtual 183, 3) := by decide +kernel
theorem dX2_count_119 : decode cX2_count 119 = .ok (.ireturn, 1) := by decide +kernel
theorem dX2_count_120 : decode cX2_count 120 = .ok (.aload_n 0, 1) := by decide +kernel
theorem dX2_count_121 : decode cX2_count 121 = .ok (.getfield 27, 3) := by decide +kernel
theorem dX2_count_124 : decode cX2_count 124 = .ok (.ireturn, 1) := by decide +kernel
theorem dX2_count_125 : decode cX2_count 125 = .ok (.aload_n 0, 1) := by decide +kernel
theorem dX2_count_126 : decode cX2_count 126 = .ok (.getfield 10, 3) := by decide +kernel
theorem dX2_count_129 : decode cX2_count 129 = .ok (.iload_n 1, 1) := by decide +kernel
theorem dX2_count_130 : decode cX2_count 130 = .ok (.bipush 10, 2) := by decide +kernel
theorem dX2_count_132 : decode cX2_count 132 = .ok (.isub, 1) := by decide +kernel
theorem dX2_count_133 : decode cX2_count 133 = .ok (.invokevirtual 186, 3) := by decide +kernel
theorem dX2_count_136 : decode cX2_count 136 = .ok (.ireturn, 1) := by decide +kernel
theorem dX2_count_137 : decode cX2_count 137 = .ok (.bipush (-2), 2) := by decide +kernel
theorem dX2_count_139 : decode cX2_count 139 = .ok (.ireturn, 1) := by decide +kernel
theorem dX2_isYear_0 : decode cX2_isYear 0 = .ok (.iload_n 0, 1) := by decide +kernel
theorem dX2_isYear_1 : decode cX2_isYear 1 = .ok (.ifCond .lt 14, 3) := by decide +kernel
theorem dX2_isYear_4 : decode cX2_isYear 4 = .ok (.iload_n 0, 1) := by decide +kernel
theorem dX2_isYear_5 : decode cX2_isYear 5 = .ok (.sipush 999, 3) := by decide +kernel
theorem dX2_isYear_8 : decode cX2_isYear 8 = .ok (.if_icmp .gt 7, 3) := by decide +kernel
theorem dX2_isYear_11 : decode cX2_isYear 11 = .ok (.iconst 1, 1) := by decide +kernel
theorem dX2_isYear_12 : decode cX2_isYear 12 = .ok (.goto 4, 3) := by decide +kernel
theorem dX2_isYear_15 : decode cX2_isYear 15 = .ok (.iconst 0, 1) := by decide +kernel
theorem dX2_isYear_16 : decode cX2_isYear 16 = .ok (.ireturn, 1) := by decide +kernel
set_option maxRecDepth 20000 in
theorem ggX2_areYears_X2_isYear : GoodIn wsX2_areYears wsX2_isYear := goodIn_r _ [4] (by decide +kernel) (by decide +kernel)
set_option maxRecDepth 20000 in
theorem gX2_areYears_X2_isYear : GoodIn wsX2_areYears (va_wsS RX2 47 yX2_isYear wsX2_isYear) := goodIn_app (goodIn_of _ (by decide +kernel)) ggX2_areYears_X2_isYear
theorem dX2_areYears_0 : decode cX2_areYears 0 = .ok (.iload_n 0, 1) := by decide +kernel
theorem dX2_areYears_1 : decode cX2_areYears 1 = .ok (.invokestatic 47, 3) := by decide +kernel
theorem dX2_areYears_4 : decode cX2_areYears 4 = .ok (.ifCond .eq 19, 3) := by decide +kernel
theorem dX2_areYears_7 : decode cX2_areYears 7 = .ok (.iload_n 1, 1) := by decide +kernel
theorem dX2_areYears_8 : decode cX2_areYears 8 = .ok (.invokestatic 47, 3) := by decide +kernel
theorem dX2_areYears_11 : decode cX2_areYears 11 = .ok (.ifCond .eq 12, 3) := by decide +kernel
theorem dX2_areYears_14 : decode cX2_areYears 14 = .ok (.iload_n 0, 1) := by decide +kernel
theorem dX2_areYears_15 : decode cX2_areYears 15 = .ok (.iload_n 1, 1) := by decide +kernel
theorem dX2_areYears_16 : decode cX2_areYears 16 = .ok (.if_icmp .gt 7, 3) := by decide +kernel
theorem dX2_areYears_19 : decode cX2_areYears 19 = .ok (.iconst 1, 1) := by decide +kernel
theorem dX2_areYears_20 : decode cX2_areYears 20 = .ok (.goto 4, 3) := by decide +kernel
theorem dX2_areYears_23 : decode cX2_areYears 23 = .ok (.iconst 0, 1) := by decide +kernel
theorem dX2_areYears_24 : decode cX2_areYears 24 = .ok (.ireturn, 1) := by decide +kernel
theorem dX2_isSite_0 : decode cX2_isSite 0 = .ok (.iload_n 0, 1) := by decide +kernel
theorem dX2_isSite_1 : decode cX2_isSite 1 = .ok (.ifCond .lt 13, 3) := by decide +kernel
theorem dX2_isSite_4 : decode cX2_isSite 4 = .ok (.iload_n 0, 1) := by decide +kernel
theorem dX2_isSite_5 : decode cX2_isSite 5 = .ok (.bipush 12, 2) := by decide +kernel
theorem dX2_isSite_7 : decode cX2_isSite 7 = .ok (.if_icmp .ge 7, 3) := by decide +kernel
theorem dX2_isSite_10 : decode cX2_isSite 10 = .ok (.iconst 1, 1) := by decide +kernel
theorem dX2_isSite_11 : decode cX2_isSite 11 = .ok (.goto 4, 3) := by decide +kernel
theorem dX2_isSite_14 : decode cX2_isSite 14 = .ok (.iconst 0, 1) := by decide +kernel
theorem dX2_isSite_15 : decode cX2_isSite 15 = .ok (.ireturn, 1) := by decide +kernel
theorem dX2_isSetOfSites_0 : decode cX2_isSetOfSites 0 = .ok (.iload_n 0, 1) := by decide +kernel
theorem dX2_isSetOfSites_1 : decode cX2_isSetOfSites 1 = .ok (.ifCond .lt 14, 3) := by decide +kernel
theorem dX2_isSetOfSites_4 : decode cX2_isSetOfSites 4 = .ok (.iload_n 0, 1) := by decide +kernel
theorem dX2_isSetOfSites_5 : decode cX2_isSetOfSites 5 = .ok (.sipush 4095, 3) := by decide +kernel
theorem dX2_isSetOfSites_8 : decode cX2_isSetOfSites 8 = .ok (.if_icmp .gt 7, 3) := by decide +kernel
theorem dX2_isSetOfSites_11 : decode cX2_isSetOfSites 11 = .ok (.iconst 1, 1) := by decide +kernel
theorem dX2_isSetOfSites_12 : decode cX2_isSetOfSites 12 = .ok (.goto 4, 3) := by decide +kernel
theorem dX2_isSetOfSites_15 : decode cX2_isSetOfSites 15 = .ok (.iconst 0, 1) := by decide +kernel
theorem dX2_isSetOfSites_16 : decode cX2_isSetOfSites 16 = .ok (.ireturn, 1) := by decide +kernel
theorem dX2_isHow_0 : decode cX2_isHow 0 = .ok (.iload_n 0, 1) := by decide +kernel
theorem dX2_isHow_1 : decode cX2_isHow 1 = .ok (.ifCond .lt 12, 3) := by decide +kernel
theorem dX2_isHow_4 : decode cX2_isHow 4 = .ok (.iload_n 0, 1) := by decide +kernel
theorem dX2_isHow_5 : decode cX2_isHow 5 = .ok (.iconst 2, 1) := by decide +kernel
theorem dX2_isHow_6 : decode cX2_isHow 6 = .ok (.if_icmp .gt 7, 3) := by decide +kernel
theorem dX2_isHow_9 : decode cX2_isHow 9 = .ok (.iconst 1, 1) := by decide +kernel
theorem dX2_isHow_10 : decode cX2_isHow 10 = .ok (.goto 4, 3) := by decide +kernel
theorem dX2_isHow_13 : decode cX2_isHow 13 = .ok (.iconst 0, 1) := by decide +kernel
theorem dX2_isHow_14 : decode cX2_isHow 14 = .ok (.ireturn, 1) := by decide +kernel
theorem dX2_has_0 : decode cX2_has 0 = .ok (.iload_n 0, 1) := by decide +kernel
theorem dX2_has_1 : decode cX2_has 1 = .ok (.iload_n 1, 1) := by decide +kernel
theorem dX2_has_2 : decode cX2_has 2 = .ok (.iushr, 1) := by decide +kernel
theorem dX2_has_3 : decode cX2_has 3 = .ok (.iconst 1, 1) := by decide +kernel
theorem dX2_has_4 : decode cX2_has 4 = .ok (.iand, 1) := by decide +kernel
theorem dX2_has_5 : decode cX2_has 5 = .ok (.ifCond .eq 7, 3) := by decide +kernel
theorem dX2_has_8 : decode cX2_has 8 = .ok (.iconst 1, 1) := by decide +kernel
theorem dX2_has_9 : decode cX2_has 9 = .ok (.goto 4, 3) := by decide +kernel
theorem dX2_has_12 : decode cX2_has 12 = .ok (.iconst 0, 1) := by decide +kernel
theorem dX2_has_13 : decode cX2_has 13 = .ok (.ireturn, 1) := by decide +kernel
theorem dX2_isProperPart_0 : decode cX2_isProperPart 0 = .ok (.iload_n 0, 1) := by decide +kernel
theorem dX2_isProperPart_1 : decode cX2_isProperPart 1 = .ok (.ifCond .eq 20, 3) := by decide +kernel
theorem dX2_isProperPart_4 : decode cX2_isProperPart 4 = .ok (.iload_n 0, 1) := by decide +kernel
theorem dX2_isProperPart_5 : decode cX2_isProperPart 5 = .ok (.iload_n 1, 1) := by decide +kernel
theorem dX2_isProperPart_6 : decode cX2_isProperPart 6 = .ok (.iconst (-1), 1) := by decide +kernel
theorem dX2_isProperPart_7 : decode cX2_isProperPart 7 = .ok (.ixor, 1) := by decide +kernel
theorem dX2_isProperPart_8 : decode cX2_isProperPart 8 = .ok (.iand, 1) := by decide +kernel
theorem dX2_isProperPart_9 : decode cX2_isProperPart 9 = .ok (.ifCond .ne 12, 3) := by decide +kernel
theorem dX2_isProperPart_12 : decode cX2_isProperPart 12 = .ok (.iload_n 0, 1) := by decide +kernel
theorem dX2_isProperPart_13 : decode cX2_isProperPart 13 = .ok (.iload_n 1, 1) := by decide +kernel
theorem dX2_isProperPart_14 : decode cX2_isProperPart 14 = .ok (.if_icmp .eq 7, 3) := by decide +kernel
theorem dX2_isProperPart_17 : decode cX2_isProperPart 17 = .ok (.iconst 1, 1) := by decide +kernel
theorem dX2_isProperPart_18 : decode cX2_isProperPart 18 = .ok (.goto 4, 3) := by decide +kernel
theorem dX2_isProperPart_21 : decode cX2_isProperPart 21 = .ok (.iconst 0, 1) := by decide +kernel
theorem dX2_isProperPart_22 : decode cX2_isProperPart 22 = .ok (.ireturn, 1) := by decide +kernel
theorem dX2_padIsNoName_0 : decode cX2_padIsNoName 0 = .ok (.aload_n 0, 1) := by decide +kernel
theorem dX2_padIsNoName_1 : decode cX2_padIsNoName 1 = .ok (.getfield 31, 3) := by decide +kernel
theorem dX2_padIsNoName_4 : decode cX2_padIsNoName 4 = .ok (.lconst 0, 1) := by decide +kernel
theorem dX2_padIsNoName_5 : decode cX2_padIsNoName 5 = .ok (.lcmp, 1) := by decide +kernel
theorem dX2_padIsNoName_6 : decode cX2_padIsNoName 6 = .ok (.ifCond .ne 7, 3) := by decide +kernel
theorem dX2_padIsNoName_9 : decode cX2_padIsNoName 9 = .ok (.iconst 1, 1) := by decide +kernel
theorem dX2_padIsNoName_10 : decode cX2_padIsNoName 10 = .ok (.goto 4, 3) := by decide +kernel
theorem dX2_padIsNoName_13 : decode cX2_padIsNoName 13 = .ok (.iconst 0, 1) := by decide +kernel
theorem dX2_padIsNoName_14 : decode cX2_padIsNoName 14 = .ok (.ireturn, 1) := by decide +kernel
theorem dX2_takePad_0 : decode cX2_takePad 0 = .ok (.aload_n 0, 1) := by decide +kernel
theorem dX2_takePad_1 : decode cX2_takePad 1 = .ok (.getfield 31, 3) := by decide +kernel
theorem dX2_takePad_4 : decode cX2_takePad 4 = .ok (.lstore_n 1, 1) := by decide +kernel
theorem dX2_takePad_5 : decode cX2_takePad 5 = .ok (.aload_n 0, 1) := by decide +kernel
theorem dX2_takePad_6 : decode cX2_takePad 6 = .ok (.lconst 0, 1) := by decide +kernel
theorem dX2_takePad_7 : decode cX2_takePad 7 = .ok (.putfield 31, 3) := by decide +kernel
theorem dX2_takePad_10 : decode cX2_takePad 10 = .ok (.lload_n 1, 1) := by decide +kernel
theorem dX2_takePad_11 : decode cX2_takePad 11 = .ok (.lreturn, 1) := by decide +kernel
set_option maxRecDepth 20000 in
theorem ggX2_wasCalled_X0_sitesAtFirst : GoodIn wsX2_wasCalled wsX0_sitesAtFirst := goodIn_r _ [14] (by decide +kernel) (by decide +kernel)
set_option maxRecDepth 20000 in
theorem gX2_wasCalled_X0_sitesAtFirst : GoodIn wsX2_wasCalled (va_wsS RX2 189 yX0_sitesAtFirst wsX0_sitesAtFirst) := goodIn_app (goodIn_of _ (by decide +kernel)) ggX2_wasCalled_X0_sitesAtFirst
set_option maxRecDepth 20000 in
theorem ggX2_wasCalled_X0_nameAtFirst : GoodIn wsX2_wasCalled wsX0_nameAtFirst := goodIn_r _ [17, 18, 19, 20, 21] (by decide +kernel) (by decide +kernel)
set_option maxRecDepth 20000 in
theorem gX2_wasCalled_X0_nameAtFirst : GoodIn wsX2_wasCalled (va_wsS RX2 192 yX0_nameAtFirst wsX0_nameAtFirst) := goodIn_app (goodIn_of _ (by decide +kernel)) ggX2_wasCalled_X0_nameAtFirst
set_option maxRecDepth 20000 in
theorem ggX2_wasCalled_X0_eventCount : GoodIn wsX2_wasCalled wsX0_eventCount := goodIn_r _ [25, 26, 76, 77, 78, 79, 80, 81, 82, 83] (by decide +kernel) (by decide +kernel)
set_option maxRecDepth 20000 in
theorem gX2_wasCalled_X0_eventCount : GoodIn wsX2_wasCalled (wsV RX2 86 RX0 yX0_eventCount wsX0_eventCount) := goodIn_app (goodIn_of _ (by decide +kernel)) ggX2_wasCalled_X0_eventCount
set_option maxRecDepth 20000 in
theorem ggX2_wasCalled_X0_sitesThrough : GoodIn wsX2_wasCalled wsX0_sitesThrough := goodIn_r _ [30, 26, 31, 32, 33, 76, 77, 78, 79, 80, 81, 82, 83] (by decide +kernel) (by decide +kernel)
set_option maxRecDepth 20000 in
theorem gX2_wasCalled_X0_sitesThrough : GoodIn wsX2_wasCalled (wsV RX2 196 RX0 yX0_sitesThrough wsX0_sitesThrough) := goodIn_app (goodIn_of _ (by decide +kernel)) ggX2_wasCalled_X0_sitesThrough
set_option maxRecDepth 20000 in
theorem ggX2_wasCalled_X0_nameThrough : GoodIn wsX2_wasCalled wsX0_nameThrough := goodIn_r _ [37, 26, 38, 31, 39, 33, 76, 77, 78, 79, 80, 81, 82, 83] (by decide +kernel) (by decide +kernel)
set_option maxRecDepth 20000 in
theorem gX2_wasCalled_X0_nameThrough : GoodIn wsX2_wasCalled (wsV RX2 200 RX0 yX0_nameThrough wsX0_nameThrough) := goodIn_app (goodIn_of _ (by decide +kernel)) ggX2_wasCalled_X0_nameThrough
set_option maxRecDepth 20000 in
theorem ggX2_wasCalled_X0_firstYear : GoodIn wsX2_wasCalled wsX0_firstYear := goodIn_r _ [43, 26, 44, 76, 77, 78, 79, 80, 81, 82, 83] (by decide +kernel) (by decide +kernel)
set_option maxRecDepth 20000 in
theorem gX2_wasCalled_X0_firstYear : GoodIn wsX2_wasCalled (wsV RX2 141 RX0 yX0_firstYear wsX0_firstYear) := goodIn_app (goodIn_of _ (by decide +kernel)) ggX2_wasCalled_X0_firstYear
set_option maxRecDepth 20000 in
theorem ggX2_wasCalled_X0_lastYear : GoodIn wsX2_wasCalled wsX0_lastYear := goodIn_r _ [48, 26, 44, 76, 77, 78, 79, 80, 81, 82, 83] (by decide +kernel) (by decide +kernel)
set_option maxRecDepth 20000 in
theorem gX2_wasCalled_X0_lastYear : GoodIn wsX2_wasCalled (wsV RX2 149 RX0 yX0_lastYear wsX0_lastYear) := goodIn_app (goodIn_of _ (by decide +kernel)) ggX2_wasCalled_X0_lastYear
set_option maxRecDepth 20000 in
theorem ggX2_wasCalled_X1_areAlike : GoodIn wsX2_wasCalled wsX1_areAlike := goodIn_r _ [52, 53, 54, 20, 55, 56, 57, 58, 59, 60, 61, 62, 63, 64, 65, 66, 67, 68, 69, 70, 7, 4, 8, 84] (by decide +kernel) (by decide +kernel)
set_option maxRecDepth 20000 in
theorem gX2_wasCalled_X1_areAlike : GoodIn wsX2_wasCalled (wsV RX2 158 RX1 yX1_areAlike wsX1_areAlike) := goodIn_app (goodIn_of _ (by decide +kernel)) ggX2_wasCalled_X1_areAlike
theorem dX2_wasCalled_0 : decode cX2_wasCalled 0 = .ok (.iload_n 1, 1) := by decide +kernel
theorem dX2_wasCalled_1 : decode cX2_wasCalled 1 = .ok (.invokestatic 189, 3) := by decide +kernel
theorem dX2_wasCalled_4 : decode cX2_wasCalled 4 = .ok (.istore 5, 2) := by decide +kernel
theorem dX2_wasCalled_6 : decode cX2_wasCalled 6 = .ok (.iload_n 1, 1) := by decide +kernel
theorem dX2_wasCalled_7 : decode cX2_wasCalled 7 = .ok (.invokestatic 192, 3) := by decide +kernel
theorem dX2_wasCalled_10 : decode cX2_wasCalled 10 = .ok (.lstore 6, 2) := by decide +kernel
theorem dX2_wasCalled_12 : decode cX2_wasCalled 12 = .ok (.lconst 0, 1) := by decide +kernel
theorem dX2_wasCalled_13 : decode cX2_wasCalled 13 = .ok (.lstore 8, 2) := by decide +kernel
theorem dX2_wasCalled_15 : decode cX2_wasCalled 15 = .ok (.iconst 0, 1) := by decide +kernel
theorem dX2_wasCalled_16 : decode cX2_wasCalled 16 = .ok (.istore 10, 2) := by decide +kernel
theorem dX2_wasCalled_18 : decode cX2_wasCalled 18 = .ok (.iload 10, 2) := by decide +kernel
theorem dX2_wasCalled_20 : decode cX2_wasCalled 20 = .ok (.aload_n 0, 1) := by decide +kernel
theorem dX2_wasCalled_21 : decode cX2_wasCalled 21 = .ok (.getfield 10, 3) := by decide +kernel
theorem dX2_wasCalled_24 : decode cX2_wasCalled 24 = .ok (.invokevirtual 86, 3) := by decide +kernel
theorem dX2_wasCalled_27 : decode cX2_wasCalled 27 = .ok (.if_icmp .gt 127, 3) := by decide +kernel
theorem dX2_wasCalled_30 : decode cX2_wasCalled 30 = .ok (.iload 10, 2) := by decide +kernel
theorem dX2_wasCalled_32 : decode cX2_wasCalled 32 = .ok (.ifCond .le 35, 3) := by decide +kernel
theorem dX2_wasCalled_35 : decode cX2_wasCalled 35 = .ok (.aload_n 0, 1) := by decide +kernel
theorem dX2_wasCalled_36 : decode cX2_wasCalled 36 = .ok (.getfield 10, 3) := by decide +kernel
theorem dX2_wasCalled_39 : decode cX2_wasCalled 39 = .ok (.iload 10, 2) := by decide +kernel
theorem dX2_wasCalled_41 : decode cX2_wasCalled 41 = .ok (.iconst 1, 1) := by decide +kernel
theorem dX2_wasCalled_42 : decode cX2_wasCalled 42 = .ok (.isub, 1) := by decide +kernel
theorem dX2_wasCalled_43 : decode cX2_wasCalled 43 = .ok (.iload_n 1, 1) := by decide +kernel
theorem dX2_wasCalled_44 : decode cX2_wasCalled 44 = .ok (.iload 5, 2) := by decide +kernel
theorem dX2_wasCalled_46 : decode cX2_wasCalled 46 = .ok (.invokevirtual 196, 3) := by decide +kernel
theorem dX2_wasCalled_49 : decode cX2_wasCalled 49 = .ok (.istore 5, 2) := by decide +kernel
theorem dX2_wasCalled_51 : decode cX2_wasCalled 51 = .ok (.aload_n 0, 1) := by decide +kernel
theorem dX2_wasCalled_52 : decode cX2_wasCalled 52 = .ok (.getfield 10, 3) := by decide +kernel
theorem dX2_wasCalled_55 : decode cX2_wasCalled 55 = .ok (.iload 10, 2) := by decide +kernel
theorem dX2_wasCalled_57 : decode cX2_wasCalled 57 = .ok (.iconst 1, 1) := by decide +kernel
theorem dX2_wasCalled_58 : decode cX2_wasCalled 58 = .ok (.isub, 1) := by decide +kernel
theorem dX2_wasCalled_59 : decode cX2_wasCalled 59 = .ok (.iload_n 1, 1) := by decide +kernel
theorem dX2_wasCalled_60 : decode cX2_wasCalled 60 = .ok (.lload 6, 2) := by decide +kernel
theorem dX2_wasCalled_62 : decode cX2_wasCalled 62 = .ok (.invokevirtual 200, 3) := by decide +kernel
theorem dX2_wasCalled_65 : decode cX2_wasCalled 65 = .ok (.lstore 6, 2) := by decide +kernel
theorem dX2_wasCalled_67 : decode cX2_wasCalled 67 = .ok (.iload_n 2, 1) := by decide +kernel
theorem dX2_wasCalled_68 : decode cX2_wasCalled 68 = .ok (.aload_n 0, 1) := by decide +kernel
theorem dX2_wasCalled_69 : decode cX2_wasCalled 69 = .ok (.getfield 10, 3) := by decide +kernel
theorem dX2_wasCalled_72 : decode cX2_wasCalled 72 = .ok (.iload 10, 2) := by decide +kernel
theorem dX2_wasCalled_74 : decode cX2_wasCalled 74 = .ok (.invokevirtual 141, 3) := by decide +kernel
theorem dX2_wasCalled_77 : decode cX2_wasCalled 77 = .ok (.invokestatic 144, 3) := by decide +kernel
theorem dX2_wasCalled_80 : decode cX2_wasCalled 80 = .ok (.iload_n 3, 1) := by decide +kernel
theorem dX2_wasCalled_81 : decode cX2_wasCalled 81 = .ok (.aload_n 0, 1) := by decide +kernel
theorem dX2_wasCalled_82 : decode cX2_wasCalled 82 = .ok (.getfield 10, 3) := by decide +kernel
theorem dX2_wasCalled_85 : decode cX2_wasCalled 85 = .ok (.iload 10, 2) := by decide +kernel
theorem dX2_wasCalled_87 : decode cX2_wasCalled 87 = .ok (.invokevirtual 149, 3) := by decide +kernel
theorem dX2_wasCalled_90 : decode cX2_wasCalled 90 = .ok (.invokestatic 152, 3) := by decide +kernel
theorem dX2_wasCalled_93 : decode cX2_wasCalled 93 = .ok (.if_icmp .gt 7, 3) := by decide +kernel
theorem dX2_wasCalled_96 : decode cX2_wasCalled 96 = .ok (.iconst 1, 1) := by decide +kernel
theorem dX2_wasCalled_97 : decode cX2_wasCalled 97 = .ok (.goto 4, 3) := by decide +kernel
theorem dX2_wasCalled_100 : decode cX2_wasCalled 100 = .ok (.iconst 0, 1) := by decide +kernel
theorem dX2_wasCalled_101 : decode cX2_wasCalled 101 = .ok (.istore 11, 2) := by decide +kernel
theorem dX2_wasCalled_103 : decode cX2_wasCalled 103 = .ok (.iload 11, 2) := by decide +kernel
theorem dX2_wasCalled_105 : decode cX2_wasCalled 105 = .ok (.ifCond .eq 43, 3) := by decide +kernel
theorem dX2_wasCalled_108 : decode cX2_wasCalled 108 = .ok (.iload 5, 2) := by decide +kernel
theorem dX2_wasCalled_110 : decode cX2_wasCalled 110 = .ok (.ifCond .eq 38, 3) := by decide +kernel
theorem dX2_wasCalled_113 : decode cX2_wasCalled 113 = .ok (.lload 6, 2) := by decide +kernel
theorem dX2_wasCalled_115 : decode cX2_wasCalled 115 = .ok (.lload 8, 2) := by decide +kernel
theorem dX2_wasCalled_117 : decode cX2_wasCalled 117 = .ok (.lcmp, 1) := by decide +kernel
theorem dX2_wasCalled_118 : decode cX2_wasCalled 118 = .ok (.ifCond .ne 6, 3) := by decide +kernel
theorem dX2_wasCalled_121 : decode cX2_wasCalled 121 = .ok (.goto 27, 3) := by decide +kernel
theorem dX2_wasCalled_124 : decode cX2_wasCalled 124 = .ok (.aload_n 0, 1) := by decide +kernel
theorem dX2_wasCalled_125 : decode cX2_wasCalled 125 = .ok (.getfield 23, 3) := by decide +kernel
theorem dX2_wasCalled_128 : decode cX2_wasCalled 128 = .ok (.lload 6, 2) := by decide +kernel
theorem dX2_wasCalled_130 : decode cX2_wasCalled 130 = .ok (.aload_n 0, 1) := by decide +kernel
theorem dX2_wasCalled_131 : decode cX2_wasCalled 131 = .ok (.getfield 31, 3) := by decide +kernel
theorem dX2_wasCalled_134 : decode cX2_wasCalled 134 = .ok (.iload 4, 2) := by decide +kernel
theorem dX2_wasCalled_136 : decode cX2_wasCalled 136 = .ok (.invokevirtual 158, 3) := by decide +kernel
theorem dX2_wasCalled_139 : decode cX2_wasCalled 139 = .ok (.ifCond .eq 5, 3) := by decide +kernel
theorem dX2_wasCalled_142 : decode cX2_wasCalled 142 = .ok (.iconst 1, 1) := by decide +kernel
theorem dX2_wasCalled_143 : decode cX2_wasCalled 143 = .ok (.ireturn, 1) := by decide +kernel
theorem dX2_wasCalled_144 : decode cX2_wasCalled 144 = .ok (.lload 6, 2) := by decide +kernel
theorem dX2_wasCalled_146 : decode cX2_wasCalled 146 = .ok (.lstore 8, 2) := by decide +kernel
theorem dX2_wasCalled_148 : decode cX2_wasCalled 148 = .ok (.iinc 10 1, 3) := by decide +kernel
theorem dX2_wasCalled_151 : decode cX2_wasCalled 151 = .ok (.goto (-133), 3) := by decide +kernel
theorem dX2_wasCalled_154 : decode cX2_wasCalled 154 = .ok (.iconst 0, 1) := by decide +kernel
theorem dX2_wasCalled_155 : decode cX2_wasCalled 155 = .ok (.ireturn, 1) := by decide +kernel
set_option maxRecDepth 20000 in
theorem ggX2_spanFact_X0_firstYear : GoodIn wsX2_spanFact wsX0_firstYear := goodIn_r _ [6, 7, 8, 27, 28, 29, 30, 31, 32, 33, 34] (by decide +kernel) (by decide +kernel)
set_option maxRecDepth 20000 in
theorem gX2_spanFact_X0_firstYear : GoodIn wsX2_spanFact (wsV RX2 141 RX0 yX0_firstYear wsX0_firstYear) := goodIn_app (goodIn_of _ (by decide +kernel)) ggX2_spanFact_X0_firstYear
set_option maxRecDepth 20000 in
theorem ggX2_spanFact_X0_ownerBehind : GoodIn wsX2_spanFact wsX0_ownerBehind := goodIn_r _ [12, 7, 13, 14, 15, 16, 17, 27, 28, 29, 30, 31, 32, 33, 34] (by decide +kernel) (by decide +kernel)
set_option maxRecDepth 20000 in
theorem gX2_spanFact_X0_ownerBehind : GoodIn wsX2_spanFact (wsV RX2 102 RX0 yX0_ownerBehind wsX0_ownerBehind) := goodIn_app (goodIn_of _ (by decide +kernel)) ggX2_spanFact_X0_ownerBehind
set_option maxRecDepth 20000 in
theorem ggX2_spanFact_X0_eventCount : GoodIn wsX2_spanFact wsX0_eventCount := goodIn_r _ [21, 7, 27, 28, 29, 30, 31, 32, 33, 34] (by decide +kernel) (by decide +kernel)
set_option maxRecDepth 20000 in
theorem gX2_spanFact_X0_eventCount : GoodIn wsX2_spanFact (wsV RX2 86 RX0 yX0_eventCount wsX0_eventCount) := goodIn_app (goodIn_of _ (by decide +kernel)) ggX2_spanFact_X0_eventCount
theorem dX2_spanFact_0 : decode cX2_spanFact 0 = .ok (.iload 4, 2) := by decide +kernel
theorem dX2_spanFact_2 : decode cX2_spanFact 2 = .ok (.ifCond .ne 12, 3) := by decide +kernel
theorem dX2_spanFact_5 : decode cX2_spanFact 5 = .ok (.aload_n 0, 1) := by decide +kernel
theorem dX2_spanFact_6 : decode cX2_spanFact 6 = .ok (.getfield 10, 3) := by decide +kernel
theorem dX2_spanFact_9 : decode cX2_spanFact 9 = .ok (.iload_n 2, 1) := by decide +kernel
theorem dX2_spanFact_10 : decode cX2_spanFact 10 = .ok (.invokevirtual 141, 3) := by decide +kernel
theorem dX2_spanFact_13 : decode cX2_spanFact 13 = .ok (.ireturn, 1) := by decide +kernel
theorem dX2_spanFact_14 : decode cX2_spanFact 14 = .ok (.iload 4, 2) := by decide +kernel
theorem dX2_spanFact_16 : decode cX2_spanFact 16 = .ok (.iconst 2, 1) := by decide +kernel
theorem dX2_spanFact_17 : decode cX2_spanFact 17 = .ok (.if_icmp .ne 13, 3) := by decide +kernel
theorem dX2_spanFact_20 : decode cX2_spanFact 20 = .ok (.aload_n 0, 1) := by decide +kernel
theorem dX2_spanFact_21 : decode cX2_spanFact 21 = .ok (.getfield 10, 3) := by decide +kernel
theorem dX2_spanFact_24 : decode cX2_spanFact 24 = .ok (.iload_n 1, 1) := by decide +kernel
theorem dX2_spanFact_25 : decode cX2_spanFact 25 = .ok (.iload_n 2, 1) := by decide +kernel
theorem dX2_spanFact_26 : decode cX2_spanFact 26 = .ok (.invokevirtual 102, 3) := by decide +kernel
theorem dX2_spanFact_29 : decode cX2_spanFact 29 = .ok (.ireturn, 1) := by decide +kernel
theorem dX2_spanFact_30 : decode cX2_spanFact 30 = .ok (.iload_n 3, 1) := by decide +kernel
theorem dX2_spanFact_31 : decode cX2_spanFact 31 = .ok (.aload_n 0, 1) := by decide +kernel
theorem dX2_spanFact_32 : decode cX2_spanFact 32 = .ok (.getfield 10, 3) := by decide +kernel
theorem dX2_spanFact_35 : decode cX2_spanFact 35 = .ok (.invokevirtual 86, 3) := by decide +kernel
theorem dX2_spanFact_38 : decode cX2_spanFact 38 = .ok (.if_icmp .le 9, 3) := by decide +kernel
theorem dX2_spanFact_41 : decode cX2_spanFact 41 = .ok (.sipush 999, 3) := by decide +kernel
theorem dX2_spanFact_44 : decode cX2_spanFact 44 = .ok (.goto 13, 3) := by decide +kernel
theorem dX2_spanFact_47 : decode cX2_spanFact 47 = .ok (.aload_n 0, 1) := by decide +kernel
theorem dX2_spanFact_48 : decode cX2_spanFact 48 = .ok (.getfield 10, 3) := by decide +kernel
theorem dX2_spanFact_51 : decode cX2_spanFact 51 = .ok (.iload_n 3, 1) := by decide +kernel
theorem dX2_spanFact_52 : decode cX2_spanFact 52 = .ok (.invokevirtual 141, 3) := by decide +kernel
theorem dX2_spanFact_55 : decode cX2_spanFact 55 = .ok (.iconst 1, 1) := by decide +kernel
theorem dX2_spanFact_56 : decode cX2_spanFact 56 = .ok (.isub, 1) := by decide +kernel
theorem dX2_spanFact_57 : decode cX2_spanFact 57 = .ok (.ireturn, 1) := by decide +kernel
end
section
theorem dX3_init_0 : decode cX3_init 0 = .ok (.aload_n 0, 1) := by decide +kernel
theorem dX3_init_1 : decode cX3_init 1 = .ok (.invokespecial 1, 3) := by decide +kernel
theorem dX3_init_4 : decode cX3_init 4 = .ok (.aload_n 0, 1) := by decide +kernel
theorem dX3_init_5 : decode cX3_init 5 = .ok (.sipush 422, 3) := by decide +kernel
theorem dX3_init_8 : decode cX3_init 8 = .ok (.newarray .int, 2) := by decide +kernel
theorem dX3_init_10 : decode cX3_init 10 = .ok (.putfield 7, 3) := by decide +kernel
theorem dX3_init_13 : decode cX3_init 13 = .ok (.aload_n 0, 1) := by decide +kernel
theorem dX3_init_14 : decode cX3_init 14 = .ok (.sipush 844, 3) := by decide +kernel
theorem dX3_init_17 : decode cX3_init 17 = .ok (.newarray .int, 2) := by decide +kernel
theorem dX3_init_19 : decode cX3_init 19 = .ok (.putfield 13, 3) := by decide +kernel
theorem dX3_init_22 : decode cX3_init 22 = .ok (.aload_n 0, 1) := by decide +kernel
theorem dX3_init_23 : decode cX3_init 23 = .ok (.iconst 2, 1) := by decide +kernel
theorem dX3_init_24 : decode cX3_init 24 = .ok (.newarray .boolean, 2) := by decide +kernel
theorem dX3_init_26 : decode cX3_init 26 = .ok (.putfield 16, 3) := by decide +kernel
theorem dX3_init_29 : decode cX3_init 29 = .ok (.aload_n 0, 1) := by decide +kernel
theorem dX3_init_30 : decode cX3_init 30 = .ok (.bipush 8, 2) := by decide +kernel
theorem dX3_init_32 : decode cX3_init 32 = .ok (.newarray .int, 2) := by decide +kernel
theorem dX3_init_34 : decode cX3_init 34 = .ok (.putfield 20, 3) := by decide +kernel
theorem dX3_init_37 : decode cX3_init 37 = .ok (.aload_n 0, 1) := by decide +kernel
theorem dX3_init_38 : decode cX3_init 38 = .ok (.bipush 12, 2) := by decide +kernel
theorem dX3_init_40 : decode cX3_init 40 = .ok (.newarray .int, 2) := by decide +kernel
theorem dX3_init_42 : decode cX3_init 42 = .ok (.putfield 23, 3) := by decide +kernel
theorem dX3_init_45 : decode cX3_init 45 = .ok (.aload_n 0, 1) := by decide +kernel
theorem dX3_init_46 : decode cX3_init 46 = .ok (.bipush 16, 2) := by decide +kernel
theorem dX3_init_48 : decode cX3_init 48 = .ok (.newarray .int, 2) := by decide +kernel
theorem dX3_init_50 : decode cX3_init 50 = .ok (.putfield 26, 3) := by decide +kernel
theorem dX3_init_53 : decode cX3_init 53 = .ok (.aload_n 0, 1) := by decide +kernel
theorem dX3_init_54 : decode cX3_init 54 = .ok (.bipush 8, 2) := by decide +kernel
theorem dX3_init_56 : decode cX3_init 56 = .ok (.newarray .int, 2) := by decide +kernel
theorem dX3_init_58 : decode cX3_init 58 = .ok (.putfield 29, 3) := by decide +kernel
theorem dX3_init_61 : decode cX3_init 61 = .ok (.aload_n 0, 1) := by decide +kernel
theorem dX3_init_62 : decode cX3_init 62 = .ok (.bipush 8, 2) := by decide +kernel
theorem dX3_init_64 : decode cX3_init 64 = .ok (.newarray .int, 2) := by decide +kernel
theorem dX3_init_66 : decode cX3_init 66 = .ok (.putfield 32, 3) := by decide +kernel
theorem dX3_init_69 : decode cX3_init 69 = .ok (.aload_n 0, 1) := by decide +kernel
theorem dX3_init_70 : decode cX3_init 70 = .ok (.iconst 4, 1) := by decide +kernel
theorem dX3_init_71 : decode cX3_init 71 = .ok (.newarray .int, 2) := by decide +kernel
theorem dX3_init_73 : decode cX3_init 73 = .ok (.putfield 35, 3) := by decide +kernel
theorem dX3_init_76 : decode cX3_init 76 = .ok (.aload_n 0, 1) := by decide +kernel
theorem dX3_init_77 : decode cX3_init 77 = .ok (.iconst 4, 1) := by decide +kernel
theorem dX3_init_78 : decode cX3_init 78 = .ok (.newarray .int, 2) := by decide +kernel
theorem dX3_init_80 : decode cX3_init 80 = .ok (.putfield 38, 3) := by decide +kernel
theorem dX3_init_83 : decode cX3_init 83 = .ok (.aload_n 0, 1) := by decide +kernel
theorem dX3_init_84 : decode cX3_init 84 = .ok (.bipush 81, 2) := by decide +kernel
theorem dX3_init_86 : decode cX3_init 86 = .ok (.newarray .int, 2) := by decide +kernel
theorem dX3_init_88 : decode cX3_init 88 = .ok (.putfield 41, 3) := by decide +kernel
theorem dX3_init_91 : decode cX3_init 91 = .ok (.aload_n 0, 1) := by decide +kernel
theorem dX3_init_92 : decode cX3_init 92 = .ok (.getfield 7, 3) := by decide +kernel
theorem dX3_init_95 : decode cX3_init 95 = .ok (.sipush 421, 3) := by decide +kernel
theorem dX3_init_98 : decode cX3_init 98 = .ok (.iconst 1, 1) := by decide +kernel
theorem dX3_init_99 : decode cX3_init 99 = .ok (.iastore, 1) := by decide +kernel
theorem dX3_init_100 : decode cX3_init 100 = .ok (.return_, 1) := by decide +kernel
theorem dX3_in_0 : decode cX3_in 0 = .ok (.iload_n 0, 1) := by decide +kernel
theorem dX3_in_1 : decode cX3_in 1 = .ok (.iload_n 1, 1) := by decide +kernel
theorem dX3_in_2 : decode cX3_in 2 = .ok (.if_icmp .lt 12, 3) := by decide +kernel
theorem dX3_in_5 : decode cX3_in 5 = .ok (.iload_n 0, 1) := by decide +kernel
theorem dX3_in_6 : decode cX3_in 6 = .ok (.iload_n 2, 1) := by decide +kernel
theorem dX3_in_7 : decode cX3_in 7 = .ok (.if_icmp .gt 7, 3) := by decide +kernel
theorem dX3_in_10 : decode cX3_in 10 = .ok (.iconst 1, 1) := by decide +kernel
theorem dX3_in_11 : decode cX3_in 11 = .ok (.goto 4, 3) := by decide +kernel
theorem dX3_in_14 : decode cX3_in 14 = .ok (.iconst 0, 1) := by decide +kernel
theorem dX3_in_15 : decode cX3_in 15 = .ok (.ireturn, 1) := by decide +kernel
set_option maxRecDepth 20000 in
theorem ggX3_isParish_X3_in : GoodIn wsX3_isParish wsX3_in := goodIn_r _ [5] (by decide +kernel) (by decide +kernel)
set_option maxRecDepth 20000 in
theorem gX3_isParish_X3_in : GoodIn wsX3_isParish (va_wsS RX3 44 yX3_in wsX3_in) := goodIn_app (goodIn_of _ (by decide +kernel)) ggX3_isParish_X3_in
theorem dX3_isParish_0 : decode cX3_isParish 0 = .ok (.iload_n 1, 1) := by decide +kernel
theorem dX3_isParish_1 : decode cX3_isParish 1 = .ok (.iconst 0, 1) := by decide +kernel
theorem dX3_isParish_2 : decode cX3_isParish 2 = .ok (.aload_n 0, 1) := by decide +kernel
theorem dX3_isParish_3 : decode cX3_isParish 3 = .ok (.getfield 7, 3) := by decide +kernel
theorem dX3_isParish_6 : decode cX3_isParish 6 = .ok (.sipush 421, 3) := by decide +kernel
theorem dX3_isParish_9 : decode cX3_isParish 9 = .ok (.iaload, 1) := by decide +kernel
theorem dX3_isParish_10 : decode cX3_isParish 10 = .ok (.iconst 1, 1) := by decide +kernel
theorem dX3_isParish_11 : decode cX3_isParish 11 = .ok (.isub, 1) := by decide +kernel
theorem dX3_isParish_12 : decode cX3_isParish 12 = .ok (.invokestatic 44, 3) := by decide +kernel
theorem dX3_isParish_15 : decode cX3_isParish 15 = .ok (.ireturn, 1) := by decide +kernel
set_option maxRecDepth 20000 in
theorem ggX3_isSite_X3_in : GoodIn wsX3_isSite wsX3_in := goodIn_r _ [4] (by decide +kernel) (by decide +kernel)
set_option maxRecDepth 20000 in
theorem gX3_isSite_X3_in : GoodIn wsX3_isSite (va_wsS RX3 44 yX3_in wsX3_in) := goodIn_app (goodIn_of _ (by decide +kernel)) ggX3_isSite_X3_in
theorem dX3_isSite_0 : decode cX3_isSite 0 = .ok (.iload_n 0, 1) := by decide +kernel
theorem dX3_isSite_1 : decode cX3_isSite 1 = .ok (.iconst 0, 1) := by decide +kernel
theorem dX3_isSite_2 : decode cX3_isSite 2 = .ok (.bipush 11, 2) := by decide +kernel
theorem dX3_isSite_4 : decode cX3_isSite 4 = .ok (.invokestatic 44, 3) := by decide +kernel
theorem dX3_isSite_7 : decode cX3_isSite 7 = .ok (.ireturn, 1) := by decide +kernel
set_option maxRecDepth 20000 in
theorem ggX3_isYear_X3_in : GoodIn wsX3_isYear wsX3_in := goodIn_r _ [4] (by decide +kernel) (by decide +kernel)
set_option maxRecDepth 20000 in
theorem gX3_isYear_X3_in : GoodIn wsX3_isYear (va_wsS RX3 44 yX3_in wsX3_in) := goodIn_app (goodIn_of _ (by decide +kernel)) ggX3_isYear_X3_in
theorem dX3_isYear_0 : decode cX3_isYear 0 = .ok (.iload_n 0, 1) := by decide +kernel
theorem dX3_isYear_1 : decode cX3_isYear 1 = .ok (.iconst 0, 1) := by decide +kernel
theorem dX3_isYear_2 : decode cX3_isYear 2 = .ok (.sipush 999, 3) := by decide +kernel
theorem dX3_isYear_5 : decode cX3_isYear 5 = .ok (.invokestatic 44, 3) := by decide +kernel
theorem dX3_isYear_8 : decode cX3_isYear 8 = .ok (.ireturn, 1) := by decide +kernel
theorem dX3_bits_0 : decode cX3_bits 0 = .ok (.iconst 0, 1) := by decide +kernel
theorem dX3_bits_1 : decode cX3_bits 1 = .ok (.istore_n 1, 1) := by decide +kernel
theorem dX3_bits_2 : decode cX3_bits 2 = .ok (.iconst 0, 1) := by decide +kernel
theorem dX3_bits_3 : decode cX3_bits 3 = .ok (.istore_n 2, 1) := by decide +kernel
theorem dX3_bits_4 : decode cX3_bits 4 = .ok (.iload_n 2, 1) := by decide +kernel
theorem dX3_bits_5 : decode cX3_bits 5 = .ok (.bipush 16, 2) := by decide +kernel
theorem dX3_bits_7 : decode cX3_bits 7 = .ok (.if_icmp .ge 17, 3) := by decide +kernel
theorem dX3_bits_10 : decode cX3_bits 10 = .ok (.iload_n 1, 1) := by decide +kernel
theorem dX3_bits_11 : decode cX3_bits 11 = .ok (.iload_n 0, 1) := by decide +kernel
theorem dX3_bits_12 : decode cX3_bits 12 = .ok (.iload_n 2, 1) := by decide +kernel
theorem dX3_bits_13 : decode cX3_bits 13 = .ok (.ishr, 1) := by decide +kernel
theorem dX3_bits_14 : decode cX3_bits 14 = .ok (.iconst 1, 1) := by decide +kernel
theorem dX3_bits_15 : decode cX3_bits 15 = .ok (.iand, 1) := by decide +kernel
theorem dX3_bits_16 : decode cX3_bits 16 = .ok (.iadd, 1) := by decide +kernel
theorem dX3_bits_17 : decode cX3_bits 17 = .ok (.istore_n 1, 1) := by decide +kernel
theorem dX3_bits_18 : decode cX3_bits 18 = .ok (.iinc 2 1, 3) := by decide +kernel
theorem dX3_bits_21 : decode cX3_bits 21 = .ok (.goto (-17), 3) := by decide +kernel
theorem dX3_bits_24 : decode cX3_bits 24 = .ok (.iload_n 1, 1) := by decide +kernel
theorem dX3_bits_25 : decode cX3_bits 25 = .ok (.ireturn, 1) := by decide +kernel
set_option maxRecDepth 20000 in
theorem ggX3_say_X3_in : GoodIn wsX3_say wsX3_in := goodIn_r _ [6] (by decide +kernel) (by decide +kernel)
set_option maxRecDepth 20000 in
theorem gX3_say_X3_in : GoodIn wsX3_say (va_wsS RX3 44 yX3_in wsX3_in) := goodIn_app (goodIn_of _ (by decide +kernel)) ggX3_say_X3_in
theorem dX3_say_0 : decode cX3_say 0 = .ok (.iload_n 1, 1) := by decide +kernel
theorem dX3_say_1 : decode cX3_say 1 = .ok (.bipush 97, 2) := by decide +kernel
theorem dX3_say_3 : decode cX3_say 3 = .ok (.bipush 122, 2) := by decide +kernel
theorem dX3_say_5 : decode cX3_say 5 = .ok (.invokestatic 44, 3) := by decide +kernel
theorem dX3_say_8 : decode cX3_say 8 = .ok (.ifCond .ne 6, 3) := by decide +kernel
theorem dX3_say_11 : decode cX3_say 11 = .ok (.bipush (-2), 2) := by decide +kernel
theorem dX3_say_13 : decode cX3_say 13 = .ok (.ireturn, 1) := by decide +kernel
theorem dX3_say_14 : decode cX3_say 14 = .ok (.aload_n 0, 1) := by decide +kernel
theorem dX3_say_15 : decode cX3_say 15 = .ok (.getfield 48, 3) := by decide +kernel
theorem dX3_say_18 : decode cX3_say 18 = .ok (.bipush 8, 2) := by decide +kernel
theorem dX3_say_20 : decode cX3_say 20 = .ok (.if_icmp .ne 6, 3) := by decide +kernel
theorem dX3_say_23 : decode cX3_say 23 = .ok (.bipush (-4), 2) := by decide +kernel
theorem dX3_say_25 : decode cX3_say 25 = .ok (.ireturn, 1) := by decide +kernel
theorem dX3_say_26 : decode cX3_say 26 = .ok (.aload_n 0, 1) := by decide +kernel
theorem dX3_say_27 : decode cX3_say 27 = .ok (.getfield 20, 3) := by decide +kernel
theorem dX3_say_30 : decode cX3_say 30 = .ok (.aload_n 0, 1) := by decide +kernel
theorem dX3_say_31 : decode cX3_say 31 = .ok (.getfield 48, 3) := by decide +kernel
theorem dX3_say_34 : decode cX3_say 34 = .ok (.iload_n 1, 1) := by decide +kernel
theorem dX3_say_35 : decode cX3_say 35 = .ok (.iastore, 1) := by decide +kernel
theorem dX3_say_36 : decode cX3_say 36 = .ok (.aload_n 0, 1) := by decide +kernel
theorem dX3_say_37 : decode cX3_say 37 = .ok (.dup, 1) := by decide +kernel
theorem dX3_say_38 : decode cX3_say 38 = .ok (.getfield 48, 3) := by decide +kernel
theorem dX3_say_41 : decode cX3_say 41 = .ok (.iconst 1, 1) := by decide +kernel
theorem dX3_say_42 : decode cX3_say 42 = .ok (.iadd, 1) := by decide +kernel
theorem dX3_say_43 : decode cX3_say 43 = .ok (.putfield 48, 3) := by decide +kernel
theorem dX3_say_46 : decode cX3_say 46 = .ok (.aload_n 0, 1) := by decide +kernel
theorem dX3_say_47 : decode cX3_say 47 = .ok (.getfield 48, 3) := by decide +kernel
theorem dX3_say_50 : decode cX3_say 50 = .ok (.ireturn, 1) := by decide +kernel
theorem dX3_wipe_0 : decode cX3_wipe 0 = .ok (.aload_n 0, 1) := by decide +kernel
theorem dX3_wipe_1 : decode cX3_wipe 1 = .ok (.getfield 48, 3) := by decide +kernel
theorem dX3_wipe_4 : decode cX3_wipe 4 = .ok (.istore_n 1, 1) := by decide +kernel
theorem dX3_wipe_5 : decode cX3_wipe 5 = .ok (.aload_n 0, 1) := by decide +kernel
theorem dX3_wipe_6 : decode cX3_wipe 6 = .ok (.iconst 0, 1) := by decide +kernel
theorem dX3_wipe_7 : decode cX3_wipe 7 = .ok (.putfield 48, 3) := by decide +kernel
theorem dX3_wipe_10 : decode cX3_wipe 10 = .ok (.iload_n 1, 1) := by decide +kernel
theorem dX3_wipe_11 : decode cX3_wipe 11 = .ok (.ireturn, 1) := by decide +kernel
theorem dX3_goThrough_0 : decode cX3_goThrough 0 = .ok (.iconst 0, 1) := by decide +kernel
theorem dX3_goThrough_1 : decode cX3_goThrough 1 = .ok (.istore_n 2, 1) := by decide +kernel
theorem dX3_goThrough_2 : decode cX3_goThrough 2 = .ok (.iload_n 2, 1) := by decide +kernel
theorem dX3_goThrough_3 : decode cX3_goThrough 3 = .ok (.bipush 12, 2) := by decide +kernel
theorem dX3_goThrough_5 : decode cX3_goThrough 5 = .ok (.if_icmp .ge 16, 3) := by decide +kernel
theorem dX3_goThrough_8 : decode cX3_goThrough 8 = .ok (.aload_n 0, 1) := by decide +kernel
theorem dX3_goThrough_9 : decode cX3_goThrough 9 = .ok (.getfield 23, 3) := by decide +kernel
theorem dX3_goThrough_12 : decode cX3_goThrough 12 = .ok (.iload_n 2, 1) := by decide +kernel
theorem dX3_goThrough_13 : decode cX3_goThrough 13 = .ok (.iconst 0, 1) := by decide +kernel
theorem dX3_goThrough_14 : decode cX3_goThrough 14 = .ok (.iastore, 1) := by decide +kernel
theorem dX3_goThrough_15 : decode cX3_goThrough 15 = .ok (.iinc 2 1, 3) := by decide +kernel
theorem dX3_goThrough_18 : decode cX3_goThrough 18 = .ok (.goto (-16), 3) := by decide +kernel
theorem dX3_goThrough_21 : decode cX3_goThrough 21 = .ok (.iconst 0, 1) := by decide +kernel
theorem dX3_goThrough_22 : decode cX3_goThrough 22 = .ok (.istore_n 2, 1) := by decide +kernel
theorem dX3_goThrough_23 : decode cX3_goThrough 23 = .ok (.iload_n 2, 1) := by decide +kernel
theorem dX3_goThrough_24 : decode cX3_goThrough 24 = .ok (.bipush 16, 2) := by decide +kernel
theorem dX3_goThrough_26 : decode cX3_goThrough 26 = .ok (.if_icmp .ge 17, 3) := by decide +kernel
theorem dX3_goThrough_29 : decode cX3_goThrough 29 = .ok (.aload_n 0, 1) := by decide +kernel
theorem dX3_goThrough_30 : decode cX3_goThrough 30 = .ok (.getfield 26, 3) := by decide +kernel
theorem dX3_goThrough_33 : decode cX3_goThrough 33 = .ok (.iload_n 2, 1) := by decide +kernel
theorem dX3_goThrough_34 : decode cX3_goThrough 34 = .ok (.bipush (-6), 2) := by decide +kernel
theorem dX3_goThrough_36 : decode cX3_goThrough 36 = .ok (.iastore, 1) := by decide +kernel
theorem dX3_goThrough_37 : decode cX3_goThrough 37 = .ok (.iinc 2 1, 3) := by decide +kernel
theorem dX3_goThrough_40 : decode cX3_goThrough 40 = .ok (.goto (-17), 3) := by decide +kernel
theorem dX3_goThrough_43 : decode cX3_goThrough 43 = .ok (.iconst 0, 1) := by decide +kernel
theorem dX3_goThrough_44 : decode cX3_goThrough 44 = .ok (.istore_n 2, 1) := by decide +kernel
theorem dX3_goThrough_45 : decode cX3_goThrough 45 = .ok (.iload_n 2, 1) := by decide +kernel
theorem dX3_goThrough_46 : decode cX3_goThrough 46 = .ok (.iload_n 1, 1) := by decide +kernel
theorem dX3_goThrough_47 : decode cX3_goThrough 47 = .ok (.if_icmp .ge 120, 3) := by decide +kernel
theorem dX3_goThrough_50 : decode cX3_goThrough 50 = .ok (.aload_n 0, 1) := by decide +kernel
theorem dX3_goThrough_51 : decode cX3_goThrough 51 = .ok (.getfield 7, 3) := by decide +kernel
theorem dX3_goThrough_54 : decode cX3_goThrough 54 = .ok (.iconst 0, 1) := by decide +kernel
theorem dX3_goThrough_55 : decode cX3_goThrough 55 = .ok (.iload_n 2, 1) := by decide +kernel
theorem dX3_goThrough_56 : decode cX3_goThrough 56 = .ok (.iadd, 1) := by decide +kernel
theorem dX3_goThrough_57 : decode cX3_goThrough 57 = .ok (.iaload, 1) := by decide +kernel
theorem dX3_goThrough_58 : decode cX3_goThrough 58 = .ok (.ifCond .ne 21, 3) := by decide +kernel
theorem dX3_goThrough_61 : decode cX3_goThrough 61 = .ok (.aload_n 0, 1) := by decide +kernel
theorem dX3_goThrough_62 : decode cX3_goThrough 62 = .ok (.getfield 26, 3) := by decide +kernel
theorem dX3_goThrough_65 : decode cX3_goThrough 65 = .ok (.aload_n 0, 1) := by decide +kernel
theorem dX3_goThrough_66 : decode cX3_goThrough 66 = .ok (.getfield 7, 3) := by decide +kernel
theorem dX3_goThrough_69 : decode cX3_goThrough 69 = .ok (.bipush 60, 2) := by decide +kernel
theorem dX3_goThrough_71 : decode cX3_goThrough 71 = .ok (.iload_n 2, 1) := by decide +kernel
theorem dX3_goThrough_72 : decode cX3_goThrough 72 = .ok (.iadd, 1) := by decide +kernel
theorem dX3_goThrough_73 : decode cX3_goThrough 73 = .ok (.iaload, 1) := by decide +kernel
theorem dX3_goThrough_74 : decode cX3_goThrough 74 = .ok (.iload_n 2, 1) := by decide +kernel
theorem dX3_goThrough_75 : decode cX3_goThrough 75 = .ok (.iastore, 1) := by decide +kernel
theorem dX3_goThrough_76 : decode cX3_goThrough 76 = .ok (.goto 85, 3) := by decide +kernel
theorem dX3_goThrough_79 : decode cX3_goThrough 79 = .ok (.iconst 0, 1) := by decide +kernel
theorem dX3_goThrough_80 : decode cX3_goThrough 80 = .ok (.istore_n 3, 1) := by decide +kernel
theorem dX3_goThrough_81 : decode cX3_goThrough 81 = .ok (.iload_n 3, 1) := by decide +kernel
theorem dX3_goThrough_82 : decode cX3_goThrough 82 = .ok (.bipush 12, 2) := by decide +kernel
theorem dX3_goThrough_84 : decode cX3_goThrough 84 = .ok (.if_icmp .ge 50, 3) := by decide +kernel
theorem dX3_goThrough_87 : decode cX3_goThrough 87 = .ok (.aload_n 0, 1) := by decide +kernel
theorem dX3_goThrough_88 : decode cX3_goThrough 88 = .ok (.getfield 23, 3) := by decide +kernel
theorem dX3_goThrough_91 : decode cX3_goThrough 91 = .ok (.iload_n 3, 1) := by decide +kernel
theorem dX3_goThrough_92 : decode cX3_goThrough 92 = .ok (.aload_n 0, 1) := by decide +kernel
theorem dX3_goThrough_93 : decode cX3_goThrough 93 = .ok (.getfield 7, 3) := by decide +kernel
theorem dX3_goThrough_96 : decode cX3_goThrough 96 = .ok (.bipush 90, 2) := by decide +kernel
theorem dX3_goThrough_98 : decode cX3_goThrough 98 = .ok (.iload_n 2, 1) := by decide +kernel
theorem dX3_goThrough_99 : decode cX3_goThrough 99 = .ok (.iadd, 1) := by decide +kernel
theorem dX3_goThrough_100 : decode cX3_goThrough 100 = .ok (.iaload, 1) := by decide +kernel
theorem dX3_goThrough_101 : decode cX3_goThrough 101 = .ok (.iload_n 3, 1) := by decide +kernel
theorem dX3_goThrough_102 : decode cX3_goThrough 102 = .ok (.ishr, 1) := by decide +kernel
theorem dX3_goThrough_103 : decode cX3_goThrough 103 = .ok (.iconst 1, 1) := by decide +kernel
theorem dX3_goThrough_104 : decode cX3_goThrough 104 = .ok (.iand, 1) := by decide +kernel
theorem dX3_goThrough_105 : decode cX3_goThrough 105 = .ok (.iconst 1, 1) := by decide +kernel
theorem dX3_goThrough_106 : decode cX3_goThrough 106 = .ok (.if_icmp .ne 15, 3) := by decide +kernel
theorem dX3_goThrough_109 : decode cX3_goThrough 109 = .ok (.aload_n 0, 1) := by decide +kernel
theorem dX3_goThrough_110 : decode cX3_goThrough 110 = .ok (.getfield 7, 3) := by decide +kernel
theorem dX3_goThrough_113 : decode cX3_goThrough 113 = .ok (.bipush 120, 2) := by decide +kernel
theorem dX3_goThrough_115 : decode cX3_goThrough 115 = .ok (.iload_n 2, 1) := by decide +kernel
theorem dX3_goThrough_116 : decode cX3_goThrough 116 = .ok (.iadd, 1) := by decide +kernel
theorem dX3_goThrough_117 : decode cX3_goThrough 117 = .ok (.iaload, 1) := by decide +kernel
theorem dX3_goThrough_118 : decode cX3_goThrough 118 = .ok (.goto 9, 3) := by decide +kernel
theorem dX3_goThrough_121 : decode cX3_goThrough 121 = .ok (.aload_n 0, 1) := by decide +kernel
theorem dX3_goThrough_122 : decode cX3_goThrough 122 = .ok (.getfield 23, 3) := by decide +kernel
theorem dX3_goThrough_125 : decode cX3_goThrough 125 = .ok (.iload_n 3, 1) := by decide +kernel
theorem dX3_goThrough_126 : decode cX3_goThrough 126 = .ok (.iaload, 1) := by decide +kernel
theorem dX3_goThrough_127 : decode cX3_goThrough 127 = .ok (.iastore, 1) := by decide +kernel
theorem dX3_goThrough_128 : decode cX3_goThrough 128 = .ok (.iinc 3 1, 3) := by decide +kernel
theorem dX3_goThrough_131 : decode cX3_goThrough 131 = .ok (.goto (-50), 3) := by decide +kernel
theorem dX3_goThrough_134 : decode cX3_goThrough 134 = .ok (.aload_n 0, 1) := by decide +kernel
theorem dX3_goThrough_135 : decode cX3_goThrough 135 = .ok (.getfield 7, 3) := by decide +kernel
theorem dX3_goThrough_138 : decode cX3_goThrough 138 = .ok (.iconst 0, 1) := by decide +kernel
theorem dX3_goThrough_139 : decode cX3_goThrough 139 = .ok (.iload_n 2, 1) := by decide +kernel
theorem dX3_goThrough_140 : decode cX3_goThrough 140 = .ok (.iadd, 1) := by decide +kernel
theorem dX3_goThrough_141 : decode cX3_goThrough 141 = .ok (.iaload, 1) := by decide +kernel
theorem dX3_goThrough_142 : decode cX3_goThrough 142 = .ok (.iconst 1, 1) := by decide +kernel
theorem dX3_goThrough_143 : decode cX3_goThrough 143 = .ok (.if_icmp .ne 18, 3) := by decide +kernel
theorem dX3_goThrough_146 : decode cX3_goThrough 146 = .ok (.aload_n 0, 1) := by decide +kernel
theorem dX3_goThrough_147 : decode cX3_goThrough 147 = .ok (.getfield 26, 3) := by decide +kernel
theorem dX3_goThrough_150 : decode cX3_goThrough 150 = .ok (.aload_n 0, 1) := by decide +kernel
theorem dX3_goThrough_151 : decode cX3_goThrough 151 = .ok (.getfield 7, 3) := by decide +kernel
theorem dX3_goThrough_154 : decode cX3_goThrough 154 = .ok (.bipush 120, 2) := by decide +kernel
theorem dX3_goThrough_156 : decode cX3_goThrough 156 = .ok (.iload_n 2, 1) := by decide +kernel
theorem dX3_goThrough_157 : decode cX3_goThrough 157 = .ok (.iadd, 1) := by decide +kernel
theorem dX3_goThrough_158 : decode cX3_goThrough 158 = .ok (.iaload, 1) := by decide +kernel
theorem dX3_goThrough_159 : decode cX3_goThrough 159 = .ok (.iload_n 2, 1) := by decide +kernel
theorem dX3_goThrough_160 : decode cX3_goThrough 160 = .ok (.iastore, 1) := by decide +kernel
theorem dX3_goThrough_161 : decode cX3_goThrough 161 = .ok (.iinc 2 1, 3) := by decide +kernel
theorem dX3_goThrough_164 : decode cX3_goThrough 164 = .ok (.goto (-119), 3) := by decide +kernel
theorem dX3_goThrough_167 : decode cX3_goThrough 167 = .ok (.return_, 1) := by decide +kernel
set_option maxRecDepth 20000 in
theorem ggX3_goTo_X3_goThrough : GoodIn wsX3_goTo wsX3_goThrough := goodIn_r _ [6, 7, 8, 1, 9, 10, 11, 12, 13, 14, 15, 16, 17, 18, 19, 20, 21, 22, 23, 24] (by decide +kernel) (by decide +kernel)
set_option maxRecDepth 20000 in
theorem gX3_goTo_X3_goThrough : GoodIn wsX3_goTo (wsV RX3 52 RX3 yX3_goThrough wsX3_goThrough) := goodIn_app (goodIn_of _ (by decide +kernel)) ggX3_goTo_X3_goThrough
theorem dX3_goTo_0 : decode cX3_goTo 0 = .ok (.iconst 0, 1) := by decide +kernel
theorem dX3_goTo_1 : decode cX3_goTo 1 = .ok (.istore_n 2, 1) := by decide +kernel
theorem dX3_goTo_2 : decode cX3_goTo 2 = .ok (.iload_n 2, 1) := by decide +kernel
theorem dX3_goTo_3 : decode cX3_goTo 3 = .ok (.aload_n 0, 1) := by decide +kernel
theorem dX3_goTo_4 : decode cX3_goTo 4 = .ok (.getfield 7, 3) := by decide +kernel
theorem dX3_goTo_7 : decode cX3_goTo 7 = .ok (.sipush 420, 3) := by decide +kernel
theorem dX3_goTo_10 : decode cX3_goTo 10 = .ok (.iaload, 1) := by decide +kernel
theorem dX3_goTo_11 : decode cX3_goTo 11 = .ok (.if_icmp .ge 22, 3) := by decide +kernel
theorem dX3_goTo_14 : decode cX3_goTo 14 = .ok (.aload_n 0, 1) := by decide +kernel
theorem dX3_goTo_15 : decode cX3_goTo 15 = .ok (.getfield 7, 3) := by decide +kernel
theorem dX3_goTo_18 : decode cX3_goTo 18 = .ok (.bipush 30, 2) := by decide +kernel
theorem dX3_goTo_20 : decode cX3_goTo 20 = .ok (.iload_n 2, 1) := by decide +kernel
theorem dX3_goTo_21 : decode cX3_goTo 21 = .ok (.iadd, 1) := by decide +kernel
theorem dX3_goTo_22 : decode cX3_goTo 22 = .ok (.iaload, 1) := by decide +kernel
theorem dX3_goTo_23 : decode cX3_goTo 23 = .ok (.iload_n 1, 1) := by decide +kernel
theorem dX3_goTo_24 : decode cX3_goTo 24 = .ok (.if_icmp .gt 9, 3) := by decide +kernel
theorem dX3_goTo_27 : decode cX3_goTo 27 = .ok (.iinc 2 1, 3) := by decide +kernel
theorem dX3_goTo_30 : decode cX3_goTo 30 = .ok (.goto (-28), 3) := by decide +kernel
theorem dX3_goTo_33 : decode cX3_goTo 33 = .ok (.aload_n 0, 1) := by decide +kernel
theorem dX3_goTo_34 : decode cX3_goTo 34 = .ok (.iload_n 2, 1) := by decide +kernel
theorem dX3_goTo_35 : decode cX3_goTo 35 = .ok (.invokevirtual 52, 3) := by decide +kernel
theorem dX3_goTo_38 : decode cX3_goTo 38 = .ok (.return_, 1) := by decide +kernel
set_option maxRecDepth 20000 in
theorem ggX3_goToEnd_X3_goThrough : GoodIn wsX3_goToEnd wsX3_goThrough := goodIn_r _ [6, 7, 8, 1, 9, 10, 11, 12, 13, 14, 15, 16, 17, 18, 19, 20, 21, 22, 23, 24] (by decide +kernel) (by decide +kernel)
set_option maxRecDepth 20000 in
theorem gX3_goToEnd_X3_goThrough : GoodIn wsX3_goToEnd (wsV RX3 52 RX3 yX3_goThrough wsX3_goThrough) := goodIn_app (goodIn_of _ (by decide +kernel)) ggX3_goToEnd_X3_goThrough
theorem dX3_goToEnd_0 : decode cX3_goToEnd 0 = .ok (.aload_n 0, 1) := by decide +kernel
theorem dX3_goToEnd_1 : decode cX3_goToEnd 1 = .ok (.aload_n 0, 1) := by decide +kernel
theorem dX3_goToEnd_2 : decode cX3_goToEnd 2 = .ok (.getfield 7, 3) := by decide +kernel
theorem dX3_goToEnd_5 : decode cX3_goToEnd 5 = .ok (.sipush 420, 3) := by decide +kernel
theorem dX3_goToEnd_8 : decode cX3_goToEnd 8 = .ok (.iaload, 1) := by decide +kernel
theorem dX3_goToEnd_9 : decode cX3_goToEnd 9 = .ok (.invokevirtual 52, 3) := by decide +kernel
theorem dX3_goToEnd_12 : decode cX3_goToEnd 12 = .ok (.return_, 1) := by decide +kernel
theorem dX3_sitesOf_0 : decode cX3_sitesOf 0 = .ok (.iconst 0, 1) := by decide +kernel
theorem dX3_sitesOf_1 : decode cX3_sitesOf 1 = .ok (.istore_n 2, 1) := by decide +kernel
theorem dX3_sitesOf_2 : decode cX3_sitesOf 2 = .ok (.iconst 0, 1) := by decide +kernel
theorem dX3_sitesOf_3 : decode cX3_sitesOf 3 = .ok (.istore_n 3, 1) := by decide +kernel
theorem dX3_sitesOf_4 : decode cX3_sitesOf 4 = .ok (.iload_n 3, 1) := by decide +kernel
theorem dX3_sitesOf_5 : decode cX3_sitesOf 5 = .ok (.bipush 12, 2) := by decide +kernel
theorem dX3_sitesOf_7 : decode cX3_sitesOf 7 = .ok (.if_icmp .ge 29, 3) := by decide +kernel
theorem dX3_sitesOf_10 : decode cX3_sitesOf 10 = .ok (.iload_n 2, 1) := by decide +kernel
theorem dX3_sitesOf_11 : decode cX3_sitesOf 11 = .ok (.aload_n 0, 1) := by decide +kernel
theorem dX3_sitesOf_12 : decode cX3_sitesOf 12 = .ok (.getfield 23, 3) := by decide +kernel
theorem dX3_sitesOf_15 : decode cX3_sitesOf 15 = .ok (.iload_n 3, 1) := by decide +kernel
theorem dX3_sitesOf_16 : decode cX3_sitesOf 16 = .ok (.iaload, 1) := by decide +kernel
theorem dX3_sitesOf_17 : decode cX3_sitesOf 17 = .ok (.iload_n 1, 1) := by decide +kernel
theorem dX3_sitesOf_18 : decode cX3_sitesOf 18 = .ok (.if_icmp .ne 9, 3) := by decide +kernel
theorem dX3_sitesOf_21 : decode cX3_sitesOf 21 = .ok (.iconst 1, 1) := by decide +kernel
theorem dX3_sitesOf_22 : decode cX3_sitesOf 22 = .ok (.iload_n 3, 1) := by decide +kernel
theorem dX3_sitesOf_23 : decode cX3_sitesOf 23 = .ok (.ishl, 1) := by decide +kernel
theorem dX3_sitesOf_24 : decode cX3_sitesOf 24 = .ok (.goto 4, 3) := by decide +kernel
theorem dX3_sitesOf_27 : decode cX3_sitesOf 27 = .ok (.iconst 0, 1) := by decide +kernel
theorem dX3_sitesOf_28 : decode cX3_sitesOf 28 = .ok (.ior, 1) := by decide +kernel
theorem dX3_sitesOf_29 : decode cX3_sitesOf 29 = .ok (.istore_n 2, 1) := by decide +kernel
theorem dX3_sitesOf_30 : decode cX3_sitesOf 30 = .ok (.iinc 3 1, 3) := by decide +kernel
theorem dX3_sitesOf_33 : decode cX3_sitesOf 33 = .ok (.goto (-29), 3) := by decide +kernel
theorem dX3_sitesOf_36 : decode cX3_sitesOf 36 = .ok (.iload_n 2, 1) := by decide +kernel
theorem dX3_sitesOf_37 : decode cX3_sitesOf 37 = .ok (.ireturn, 1) := by decide +kernel
theorem dX3_lettersOf_0 : decode cX3_lettersOf 0 = .ok (.aload_n 0, 1) := by decide +kernel
theorem dX3_lettersOf_1 : decode cX3_lettersOf 1 = .ok (.getfield 26, 3) := by decide +kernel
theorem dX3_lettersOf_4 : decode cX3_lettersOf 4 = .ok (.iload_n 1, 1) := by decide +kernel
theorem dX3_lettersOf_5 : decode cX3_lettersOf 5 = .ok (.iaload, 1) := by decide +kernel
theorem dX3_lettersOf_6 : decode cX3_lettersOf 6 = .ok (.ifCond .ge 7, 3) := by decide +kernel
theorem dX3_lettersOf_9 : decode cX3_lettersOf 9 = .ok (.iconst 1, 1) := by decide +kernel
theorem dX3_lettersOf_10 : decode cX3_lettersOf 10 = .ok (.goto 18, 3) := by decide +kernel
theorem dX3_lettersOf_13 : decode cX3_lettersOf 13 = .ok (.aload_n 0, 1) := by decide +kernel
theorem dX3_lettersOf_14 : decode cX3_lettersOf 14 = .ok (.getfield 7, 3) := by decide +kernel
theorem dX3_lettersOf_17 : decode cX3_lettersOf 17 = .ok (.sipush 390, 3) := by decide +kernel
theorem dX3_lettersOf_20 : decode cX3_lettersOf 20 = .ok (.aload_n 0, 1) := by decide +kernel
theorem dX3_lettersOf_21 : decode cX3_lettersOf 21 = .ok (.getfield 26, 3) := by decide +kernel
theorem dX3_lettersOf_24 : decode cX3_lettersOf 24 = .ok (.iload_n 1, 1) := by decide +kernel
theorem dX3_lettersOf_25 : decode cX3_lettersOf 25 = .ok (.iaload, 1) := by decide +kernel
theorem dX3_lettersOf_26 : decode cX3_lettersOf 26 = .ok (.iadd, 1) := by decide +kernel
theorem dX3_lettersOf_27 : decode cX3_lettersOf 27 = .ok (.iaload, 1) := by decide +kernel
theorem dX3_lettersOf_28 : decode cX3_lettersOf 28 = .ok (.ireturn, 1) := by decide +kernel
theorem dX3_letterOf_0 : decode cX3_letterOf 0 = .ok (.aload_n 0, 1) := by decide +kernel
theorem dX3_letterOf_1 : decode cX3_letterOf 1 = .ok (.getfield 26, 3) := by decide +kernel
theorem dX3_letterOf_4 : decode cX3_letterOf 4 = .ok (.iload_n 1, 1) := by decide +kernel
theorem dX3_letterOf_5 : decode cX3_letterOf 5 = .ok (.iaload, 1) := by decide +kernel
theorem dX3_letterOf_6 : decode cX3_letterOf 6 = .ok (.ifCond .ge 8, 3) := by decide +kernel
theorem dX3_letterOf_9 : decode cX3_letterOf 9 = .ok (.bipush 97, 2) := by decide +kernel
theorem dX3_letterOf_11 : decode cX3_letterOf 11 = .ok (.goto 23, 3) := by decide +kernel
theorem dX3_letterOf_14 : decode cX3_letterOf 14 = .ok (.aload_n 0, 1) := by decide +kernel
theorem dX3_letterOf_15 : decode cX3_letterOf 15 = .ok (.getfield 7, 3) := by decide +kernel
theorem dX3_letterOf_18 : decode cX3_letterOf 18 = .ok (.sipush 150, 3) := by decide +kernel
theorem dX3_letterOf_21 : decode cX3_letterOf 21 = .ok (.bipush 8, 2) := by decide +kernel
theorem dX3_letterOf_23 : decode cX3_letterOf 23 = .ok (.aload_n 0, 1) := by decide +kernel
theorem dX3_letterOf_24 : decode cX3_letterOf 24 = .ok (.getfield 26, 3) := by decide +kernel
theorem dX3_letterOf_27 : decode cX3_letterOf 27 = .ok (.iload_n 1, 1) := by decide +kernel
theorem dX3_letterOf_28 : decode cX3_letterOf 28 = .ok (.iaload, 1) := by decide +kernel
theorem dX3_letterOf_29 : decode cX3_letterOf 29 = .ok (.imul, 1) := by decide +kernel
theorem dX3_letterOf_30 : decode cX3_letterOf 30 = .ok (.iadd, 1) := by decide +kernel
theorem dX3_letterOf_31 : decode cX3_letterOf 31 = .ok (.iload_n 2, 1) := by decide +kernel
theorem dX3_letterOf_32 : decode cX3_letterOf 32 = .ok (.iadd, 1) := by decide +kernel
theorem dX3_letterOf_33 : decode cX3_letterOf 33 = .ok (.iaload, 1) := by decide +kernel
theorem dX3_letterOf_34 : decode cX3_letterOf 34 = .ok (.ireturn, 1) := by decide +kernel
theorem dX3_lastYear_0 : decode cX3_lastYear 0 = .ok (.aload_n 0, 1) := by decide +kernel
theorem dX3_lastYear_1 : decode cX3_lastYear 1 = .ok (.getfield 7, 3) := by decide +kernel
theorem dX3_lastYear_4 : decode cX3_lastYear 4 = .ok (.sipush 420, 3) := by decide +kernel
theorem dX3_lastYear_7 : decode cX3_lastYear 7 = .ok (.iaload, 1) := by decide +kernel
theorem dX3_lastYear_8 : decode cX3_lastYear 8 = .ok (.ifCond .ne 7, 3) := by decide +kernel
theorem dX3_lastYear_11 : decode cX3_lastYear 11 = .ok (.iconst 0, 1) := by decide +kernel
theorem dX3_lastYear_12 : decode cX3_lastYear 12 = .ok (.goto 21, 3) := by decide +kernel
theorem dX3_lastYear_15 : decode cX3_lastYear 15 = .ok (.aload_n 0, 1) := by decide +kernel
theorem dX3_lastYear_16 : decode cX3_lastYear 16 = .ok (.getfield 7, 3) := by decide +kernel
theorem dX3_lastYear_19 : decode cX3_lastYear 19 = .ok (.bipush 30, 2) := by decide +kernel
theorem dX3_lastYear_21 : decode cX3_lastYear 21 = .ok (.aload_n 0, 1) := by decide +kernel
theorem dX3_lastYear_22 : decode cX3_lastYear 22 = .ok (.getfield 7, 3) := by decide +kernel
theorem dX3_lastYear_25 : decode cX3_lastYear 25 = .ok (.sipush 420, 3) := by decide +kernel
theorem dX3_lastYear_28 : decode cX3_lastYear 28 = .ok (.iaload, 1) := by decide +kernel
theorem dX3_lastYear_29 : decode cX3_lastYear 29 = .ok (.iadd, 1) := by decide +kernel
theorem dX3_lastYear_30 : decode cX3_lastYear 30 = .ok (.iconst 1, 1) := by decide +kernel
theorem dX3_lastYear_31 : decode cX3_lastYear 31 = .ok (.isub, 1) := by decide +kernel
theorem dX3_lastYear_32 : decode cX3_lastYear 32 = .ok (.iaload, 1) := by decide +kernel
theorem dX3_lastYear_33 : decode cX3_lastYear 33 = .ok (.ireturn, 1) := by decide +kernel
theorem dX3_add_0 : decode cX3_add 0 = .ok (.aload_n 0, 1) := by decide +kernel
theorem dX3_add_1 : decode cX3_add 1 = .ok (.getfield 7, 3) := by decide +kernel
theorem dX3_add_4 : decode cX3_add 4 = .ok (.sipush 420, 3) := by decide +kernel
theorem dX3_add_7 : decode cX3_add 7 = .ok (.iaload, 1) := by decide +kernel
theorem dX3_add_8 : decode cX3_add 8 = .ok (.istore 6, 2) := by decide +kernel
theorem dX3_add_10 : decode cX3_add 10 = .ok (.aload_n 0, 1) := by decide +kernel
theorem dX3_add_11 : decode cX3_add 11 = .ok (.getfield 7, 3) := by decide +kernel
theorem dX3_add_14 : decode cX3_add 14 = .ok (.iconst 0, 1) := by decide +kernel
theorem dX3_add_15 : decode cX3_add 15 = .ok (.iload 6, 2) := by decide +kernel
theorem dX3_add_17 : decode cX3_add 17 = .ok (.iadd, 1) := by decide +kernel
theorem dX3_add_18 : decode cX3_add 18 = .ok (.iload_n 1, 1) := by decide +kernel
theorem dX3_add_19 : decode cX3_add 19 = .ok (.iastore, 1) := by decide +kernel
theorem dX3_add_20 : decode cX3_add 20 = .ok (.aload_n 0, 1) := by decide +kernel
theorem dX3_add_21 : decode cX3_add 21 = .ok (.getfield 7, 3) := by decide +kernel
theorem dX3_add_24 : decode cX3_add 24 = .ok (.bipush 30, 2) := by decide +kernel
theorem dX3_add_26 : decode cX3_add 26 = .ok (.iload 6, 2) := by decide +kernel
theorem dX3_add_28 : decode cX3_add 28 = .ok (.iadd, 1) := by decide +kernel
theorem dX3_add_29 : decode cX3_add 29 = .ok (.iload_n 2, 1) := by decide +kernel
theorem dX3_add_30 : decode cX3_add 30 = .ok (.iastore, 1) := by decide +kernel
theorem dX3_add_31 : decode cX3_add 31 = .ok (.aload_n 0, 1) := by decide +kernel
theorem dX3_add_32 : decode cX3_add 32 = .ok (.getfield 7, 3) := by decide +kernel
theorem dX3_add_35 : decode cX3_add 35 = .ok (.bipush 60, 2) := by decide +kernel
theorem dX3_add_37 : decode cX3_add 37 = .ok (.iload 6, 2) := by decide +kernel
theorem dX3_add_39 : decode cX3_add 39 = .ok (.iadd, 1) := by decide +kernel
theorem dX3_add_40 : decode cX3_add 40 = .ok (.iload_n 3, 1) := by decide +kernel
theorem dX3_add_41 : decode cX3_add 41 = .ok (.iastore, 1) := by decide +kernel
theorem dX3_add_42 : decode cX3_add 42 = .ok (.aload_n 0, 1) := by decide +kernel
theorem dX3_add_43 : decode cX3_add 43 = .ok (.getfield 7, 3) := by decide +kernel
theorem dX3_add_46 : decode cX3_add 46 = .ok (.bipush 90, 2) := by decide +kernel
theorem dX3_add_48 : decode cX3_add 48 = .ok (.iload 6, 2) := by decide +kernel
theorem dX3_add_50 : decode cX3_add 50 = .ok (.iadd, 1) := by decide +kernel
theorem dX3_add_51 : decode cX3_add 51 = .ok (.iload 4, 2) := by decide +kernel
theorem dX3_add_53 : decode cX3_add 53 = .ok (.iastore, 1) := by decide +kernel
theorem dX3_add_54 : decode cX3_add 54 = .ok (.aload_n 0, 1) := by decide +kernel
theorem dX3_add_55 : decode cX3_add 55 = .ok (.getfield 7, 3) := by decide +kernel
theorem dX3_add_58 : decode cX3_add 58 = .ok (.bipush 120, 2) := by decide +kernel
theorem dX3_add_60 : decode cX3_add 60 = .ok (.iload 6, 2) := by decide +kernel
theorem dX3_add_62 : decode cX3_add 62 = .ok (.iadd, 1) := by decide +kernel
theorem dX3_add_63 : decode cX3_add 63 = .ok (.iload 5, 2) := by decide +kernel
theorem dX3_add_65 : decode cX3_add 65 = .ok (.iastore, 1) := by decide +kernel
theorem dX3_add_66 : decode cX3_add 66 = .ok (.aload_n 0, 1) := by decide +kernel
theorem dX3_add_67 : decode cX3_add 67 = .ok (.getfield 7, 3) := by decide +kernel
theorem dX3_add_70 : decode cX3_add 70 = .ok (.sipush 420, 3) := by decide +kernel
theorem dX3_add_73 : decode cX3_add 73 = .ok (.dup2, 1) := by decide +kernel
theorem dX3_add_74 : decode cX3_add 74 = .ok (.iaload, 1) := by decide +kernel
theorem dX3_add_75 : decode cX3_add 75 = .ok (.iconst 1, 1) := by decide +kernel
theorem dX3_add_76 : decode cX3_add 76 = .ok (.iadd, 1) := by decide +kernel
theorem dX3_add_77 : decode cX3_add 77 = .ok (.iastore, 1) := by decide +kernel
theorem dX3_add_78 : decode cX3_add 78 = .ok (.return_, 1) := by decide +kernel
theorem dX3_takeName_0 : decode cX3_takeName 0 = .ok (.iconst 0, 1) := by decide +kernel
theorem dX3_takeName_1 : decode cX3_takeName 1 = .ok (.istore_n 2, 1) := by decide +kernel
theorem dX3_takeName_2 : decode cX3_takeName 2 = .ok (.iload_n 2, 1) := by decide +kernel
theorem dX3_takeName_3 : decode cX3_takeName 3 = .ok (.aload_n 0, 1) := by decide +kernel
theorem dX3_takeName_4 : decode cX3_takeName 4 = .ok (.getfield 48, 3) := by decide +kernel
theorem dX3_takeName_7 : decode cX3_takeName 7 = .ok (.if_icmp .ge 30, 3) := by decide +kernel
theorem dX3_takeName_10 : decode cX3_takeName 10 = .ok (.aload_n 0, 1) := by decide +kernel
theorem dX3_takeName_11 : decode cX3_takeName 11 = .ok (.getfield 7, 3) := by decide +kernel
theorem dX3_takeName_14 : decode cX3_takeName 14 = .ok (.sipush 150, 3) := by decide +kernel
theorem dX3_takeName_17 : decode cX3_takeName 17 = .ok (.bipush 8, 2) := by decide +kernel
theorem dX3_takeName_19 : decode cX3_takeName 19 = .ok (.iload_n 1, 1) := by decide +kernel
theorem dX3_takeName_20 : decode cX3_takeName 20 = .ok (.imul, 1) := by decide +kernel
theorem dX3_takeName_21 : decode cX3_takeName 21 = .ok (.iadd, 1) := by decide +kernel
theorem dX3_takeName_22 : decode cX3_takeName 22 = .ok (.iload_n 2, 1) := by decide +kernel
theorem dX3_takeName_23 : decode cX3_takeName 23 = .ok (.iadd, 1) := by decide +kernel
theorem dX3_takeName_24 : decode cX3_takeName 24 = .ok (.aload_n 0, 1) := by decide +kernel
theorem dX3_takeName_25 : decode cX3_takeName 25 = .ok (.getfield 20, 3) := by decide +kernel
theorem dX3_takeName_28 : decode cX3_takeName 28 = .ok (.iload_n 2, 1) := by decide +kernel
theorem dX3_takeName_29 : decode cX3_takeName 29 = .ok (.iaload, 1) := by decide +kernel
theorem dX3_takeName_30 : decode cX3_takeName 30 = .ok (.iastore, 1) := by decide +kernel
theorem dX3_takeName_31 : decode cX3_takeName 31 = .ok (.iinc 2 1, 3) := by decide +kernel
theorem dX3_takeName_34 : decode cX3_takeName 34 = .ok (.goto (-32), 3) := by decide +kernel
theorem dX3_takeName_37 : decode cX3_takeName 37 = .ok (.aload_n 0, 1) := by decide +kernel
theorem dX3_takeName_38 : decode cX3_takeName 38 = .ok (.getfield 7, 3) := by decide +kernel
theorem dX3_takeName_41 : decode cX3_takeName 41 = .ok (.sipush 390, 3) := by decide +kernel
theorem dX3_takeName_44 : decode cX3_takeName 44 = .ok (.iload_n 1, 1) := by decide +kernel
theorem dX3_takeName_45 : decode cX3_takeName 45 = .ok (.iadd, 1) := by decide +kernel
theorem dX3_takeName_46 : decode cX3_takeName 46 = .ok (.aload_n 0, 1) := by decide +kernel
theorem dX3_takeName_47 : decode cX3_takeName 47 = .ok (.getfield 48, 3) := by decide +kernel
theorem dX3_takeName_50 : decode cX3_takeName 50 = .ok (.iastore, 1) := by decide +kernel
theorem dX3_takeName_51 : decode cX3_takeName 51 = .ok (.aload_n 0, 1) := by decide +kernel
theorem dX3_takeName_52 : decode cX3_takeName 52 = .ok (.iconst 0, 1) := by decide +kernel
theorem dX3_takeName_53 : decode cX3_takeName 53 = .ok (.putfield 48, 3) := by decide +kernel
theorem dX3_takeName_56 : decode cX3_takeName 56 = .ok (.return_, 1) := by decide +kernel
set_option maxRecDepth 20000 in
theorem ggX3_name_X3_isParish : GoodIn wsX3_name wsX3_isParish := goodIn_r _ [7, 2, 8, 9, 6, 10, 41, 42, 43, 44, 45, 46, 47, 48, 49, 50, 51, 52, 53, 54, 55, 56] (by decide +kernel) (by decide +kernel)
set_option maxRecDepth 20000 in
theorem gX3_name_X3_isParish : GoodIn wsX3_name (wsV RX3 56 RX3 yX3_isParish wsX3_isParish) := goodIn_app (goodIn_of _ (by decide +kernel)) ggX3_name_X3_isParish
set_option maxRecDepth 20000 in
theorem ggX3_name_X3_isYear : GoodIn wsX3_name wsX3_isYear := goodIn_r _ [13, 8, 9, 6, 10] (by decide +kernel) (by decide +kernel)
set_option maxRecDepth 20000 in
theorem gX3_name_X3_isYear : GoodIn wsX3_name (va_wsS RX3 60 yX3_isYear wsX3_isYear) := goodIn_app (goodIn_of _ (by decide +kernel)) ggX3_name_X3_isYear
set_option maxRecDepth 20000 in
theorem ggX3_name_X3_lastYear : GoodIn wsX3_name wsX3_lastYear := goodIn_r _ [17, 2, 41, 42, 43, 44, 45, 46, 47, 48, 49, 50, 51, 52, 53, 54, 55, 56] (by decide +kernel) (by decide +kernel)
set_option maxRecDepth 20000 in
theorem gX3_name_X3_lastYear : GoodIn wsX3_name (wsV RX3 63 RX3 yX3_lastYear wsX3_lastYear) := goodIn_app (goodIn_of _ (by decide +kernel)) ggX3_name_X3_lastYear
set_option maxRecDepth 20000 in
theorem ggX3_name_X3_goToEnd : GoodIn wsX3_name wsX3_goToEnd := goodIn_r _ [21, 2, 22, 23, 24, 6, 25, 26, 27, 41, 42, 43, 44, 45, 46, 47, 48, 49, 50, 51, 52, 53, 54, 55, 56] (by decide +kernel) (by decide +kernel)
set_option maxRecDepth 20000 in
theorem gX3_name_X3_goToEnd : GoodIn wsX3_name (wsV RX3 67 RX3 yX3_goToEnd wsX3_goToEnd) := goodIn_app (goodIn_of _ (by decide +kernel)) ggX3_name_X3_goToEnd
set_option maxRecDepth 20000 in
theorem ggX3_name_X3_sitesOf : GoodIn wsX3_name wsX3_sitesOf := goodIn_r _ [31, 26, 41, 42, 43, 44, 45, 46, 47, 48, 49, 50, 51, 52, 53, 54, 55, 56] (by decide +kernel) (by decide +kernel)
set_option maxRecDepth 20000 in
theorem gX3_name_X3_sitesOf : GoodIn wsX3_name (wsV RX3 70 RX3 yX3_sitesOf wsX3_sitesOf) := goodIn_app (goodIn_of _ (by decide +kernel)) ggX3_name_X3_sitesOf
set_option maxRecDepth 20000 in
theorem ggX3_name_X3_add : GoodIn wsX3_name wsX3_add := goodIn_r _ [35, 2, 41, 42, 43, 44, 45, 46, 47, 48, 49, 50, 51, 52, 53, 54, 55, 56] (by decide +kernel) (by decide +kernel)
set_option maxRecDepth 20000 in
theorem gX3_name_X3_add : GoodIn wsX3_name (wsV RX3 74 RX3 yX3_add wsX3_add) := goodIn_app (goodIn_of _ (by decide +kernel)) ggX3_name_X3_add
set_option maxRecDepth 20000 in
theorem ggX3_name_X3_takeName : GoodIn wsX3_name wsX3_takeName := goodIn_r _ [39, 1, 2, 40, 41, 42, 43, 44, 45, 46, 47, 48, 49, 50, 51, 52, 53, 54, 55, 56] (by decide +kernel) (by decide +kernel)
set_option maxRecDepth 20000 in
theorem gX3_name_X3_takeName : GoodIn wsX3_name (wsV RX3 78 RX3 yX3_takeName wsX3_takeName) := goodIn_app (goodIn_of _ (by decide +kernel)) ggX3_name_X3_takeName
theorem dX3_name_0 : decode cX3_name 0 = .ok (.aload_n 0, 1) := by decide +kernel
theorem dX3_name_1 : decode cX3_name 1 = .ok (.iload_n 1, 1) := by decide +kernel
theorem dX3_name_2 : decode cX3_name 2 = .ok (.invokevirtual 56, 3) := by decide +kernel
theorem dX3_name_5 : decode cX3_name 5 = .ok (.ifCond .ne 5, 3) := by decide +kernel
theorem dX3_name_8 : decode cX3_name 8 = .ok (.iconst (-1), 1) := by decide +kernel
theorem dX3_name_9 : decode cX3_name 9 = .ok (.ireturn, 1) := by decide +kernel
theorem dX3_name_10 : decode cX3_name 10 = .ok (.iload_n 2, 1) := by decide +kernel
theorem dX3_name_11 : decode cX3_name 11 = .ok (.invokestatic 60, 3) := by decide +kernel
theorem dX3_name_14 : decode cX3_name 14 = .ok (.ifCond .ne 6, 3) := by decide +kernel
theorem dX3_name_17 : decode cX3_name 17 = .ok (.bipush (-2), 2) := by decide +kernel
theorem dX3_name_19 : decode cX3_name 19 = .ok (.ireturn, 1) := by decide +kernel
theorem dX3_name_20 : decode cX3_name 20 = .ok (.aload_n 0, 1) := by decide +kernel
theorem dX3_name_21 : decode cX3_name 21 = .ok (.getfield 48, 3) := by decide +kernel
theorem dX3_name_24 : decode cX3_name 24 = .ok (.ifCond .ne 6, 3) := by decide +kernel
theorem dX3_name_27 : decode cX3_name 27 = .ok (.bipush (-7), 2) := by decide +kernel
theorem dX3_name_29 : decode cX3_name 29 = .ok (.ireturn, 1) := by decide +kernel
theorem dX3_name_30 : decode cX3_name 30 = .ok (.iload_n 2, 1) := by decide +kernel
theorem dX3_name_31 : decode cX3_name 31 = .ok (.aload_n 0, 1) := by decide +kernel
theorem dX3_name_32 : decode cX3_name 32 = .ok (.invokevirtual 63, 3) := by decide +kernel
theorem dX3_name_35 : decode cX3_name 35 = .ok (.if_icmp .ge 6, 3) := by decide +kernel
theorem dX3_name_38 : decode cX3_name 38 = .ok (.bipush (-3), 2) := by decide +kernel
theorem dX3_name_40 : decode cX3_name 40 = .ok (.ireturn, 1) := by decide +kernel
theorem dX3_name_41 : decode cX3_name 41 = .ok (.aload_n 0, 1) := by decide +kernel
theorem dX3_name_42 : decode cX3_name 42 = .ok (.invokevirtual 67, 3) := by decide +kernel
theorem dX3_name_45 : decode cX3_name 45 = .ok (.aload_n 0, 1) := by decide +kernel
theorem dX3_name_46 : decode cX3_name 46 = .ok (.iload_n 1, 1) := by decide +kernel
theorem dX3_name_47 : decode cX3_name 47 = .ok (.invokevirtual 70, 3) := by decide +kernel
theorem dX3_name_50 : decode cX3_name 50 = .ok (.ifCond .ne 6, 3) := by decide +kernel
theorem dX3_name_53 : decode cX3_name 53 = .ok (.bipush (-5), 2) := by decide +kernel
theorem dX3_name_55 : decode cX3_name 55 = .ok (.ireturn, 1) := by decide +kernel
theorem dX3_name_56 : decode cX3_name 56 = .ok (.aload_n 0, 1) := by decide +kernel
theorem dX3_name_57 : decode cX3_name 57 = .ok (.getfield 7, 3) := by decide +kernel
theorem dX3_name_60 : decode cX3_name 60 = .ok (.sipush 420, 3) := by decide +kernel
theorem dX3_name_63 : decode cX3_name 63 = .ok (.iaload, 1) := by decide +kernel
theorem dX3_name_64 : decode cX3_name 64 = .ok (.bipush 30, 2) := by decide +kernel
theorem dX3_name_66 : decode cX3_name 66 = .ok (.if_icmp .ne 6, 3) := by decide +kernel
theorem dX3_name_69 : decode cX3_name 69 = .ok (.bipush (-4), 2) := by decide +kernel
theorem dX3_name_71 : decode cX3_name 71 = .ok (.ireturn, 1) := by decide +kernel
theorem dX3_name_72 : decode cX3_name 72 = .ok (.aload_n 0, 1) := by decide +kernel
theorem dX3_name_73 : decode cX3_name 73 = .ok (.getfield 7, 3) := by decide +kernel
theorem dX3_name_76 : decode cX3_name 76 = .ok (.sipush 420, 3) := by decide +kernel
theorem dX3_name_79 : decode cX3_name 79 = .ok (.iaload, 1) := by decide +kernel
theorem dX3_name_80 : decode cX3_name 80 = .ok (.istore_n 3, 1) := by decide +kernel
theorem dX3_name_81 : decode cX3_name 81 = .ok (.aload_n 0, 1) := by decide +kernel
theorem dX3_name_82 : decode cX3_name 82 = .ok (.iconst 0, 1) := by decide +kernel
theorem dX3_name_83 : decode cX3_name 83 = .ok (.iload_n 2, 1) := by decide +kernel
theorem dX3_name_84 : decode cX3_name 84 = .ok (.iload_n 1, 1) := by decide +kernel
theorem dX3_name_85 : decode cX3_name 85 = .ok (.bipush (-6), 2) := by decide +kernel
theorem dX3_name_87 : decode cX3_name 87 = .ok (.bipush (-6), 2) := by decide +kernel
theorem dX3_name_89 : decode cX3_name 89 = .ok (.invokevirtual 74, 3) := by decide +kernel
theorem dX3_name_92 : decode cX3_name 92 = .ok (.aload_n 0, 1) := by decide +kernel
theorem dX3_name_93 : decode cX3_name 93 = .ok (.iload_n 3, 1) := by decide +kernel
theorem dX3_name_94 : decode cX3_name 94 = .ok (.invokevirtual 78, 3) := by decide +kernel
theorem dX3_name_97 : decode cX3_name 97 = .ok (.iload_n 3, 1) := by decide +kernel
theorem dX3_name_98 : decode cX3_name 98 = .ok (.ireturn, 1) := by decide +kernel
set_option maxRecDepth 20000 in
theorem ggX3_isSome_X3_goToEnd : GoodIn wsX3_isSome wsX3_goToEnd := goodIn_r _ [5, 6, 7, 8, 9, 4, 10, 11, 12, 17, 18, 19, 20, 21, 22, 23, 24, 25, 26, 27, 28, 29, 30, 31, 32] (by decide +kernel) (by decide +kernel)
set_option maxRecDepth 20000 in
theorem gX3_isSome_X3_goToEnd : GoodIn wsX3_isSome (wsV RX3 67 RX3 yX3_goToEnd wsX3_goToEnd) := goodIn_app (goodIn_of _ (by decide +kernel)) ggX3_isSome_X3_goToEnd
set_option maxRecDepth 20000 in
theorem ggX3_isSome_X3_sitesOf : GoodIn wsX3_isSome wsX3_sitesOf := goodIn_r _ [16, 11, 17, 18, 19, 20, 21, 22, 23, 24, 25, 26, 27, 28, 29, 30, 31, 32] (by decide +kernel) (by decide +kernel)
set_option maxRecDepth 20000 in
theorem gX3_isSome_X3_sitesOf : GoodIn wsX3_isSome (wsV RX3 70 RX3 yX3_sitesOf wsX3_sitesOf) := goodIn_app (goodIn_of _ (by decide +kernel)) ggX3_isSome_X3_sitesOf
theorem dX3_isSome_0 : decode cX3_isSome 0 = .ok (.aload_n 0, 1) := by decide +kernel
theorem dX3_isSome_1 : decode cX3_isSome 1 = .ok (.invokevirtual 67, 3) := by decide +kernel
theorem dX3_isSome_4 : decode cX3_isSome 4 = .ok (.aload_n 0, 1) := by decide +kernel
theorem dX3_isSome_5 : decode cX3_isSome 5 = .ok (.iload_n 1, 1) := by decide +kernel
theorem dX3_isSome_6 : decode cX3_isSome 6 = .ok (.invokevirtual 70, 3) := by decide +kernel
theorem dX3_isSome_9 : decode cX3_isSome 9 = .ok (.istore_n 3, 1) := by decide +kernel
theorem dX3_isSome_10 : decode cX3_isSome 10 = .ok (.iload_n 2, 1) := by decide +kernel
theorem dX3_isSome_11 : decode cX3_isSome 11 = .ok (.ifCond .eq 20, 3) := by decide +kernel
theorem dX3_isSome_14 : decode cX3_isSome 14 = .ok (.iload_n 2, 1) := by decide +kernel
theorem dX3_isSome_15 : decode cX3_isSome 15 = .ok (.iload_n 3, 1) := by decide +kernel
theorem dX3_isSome_16 : decode cX3_isSome 16 = .ok (.iconst (-1), 1) := by decide +kernel
theorem dX3_isSome_17 : decode cX3_isSome 17 = .ok (.ixor, 1) := by decide +kernel
theorem dX3_isSome_18 : decode cX3_isSome 18 = .ok (.iand, 1) := by decide +kernel
theorem dX3_isSome_19 : decode cX3_isSome 19 = .ok (.ifCond .ne 12, 3) := by decide +kernel
theorem dX3_isSome_22 : decode cX3_isSome 22 = .ok (.iload_n 2, 1) := by decide +kernel
theorem dX3_isSome_23 : decode cX3_isSome 23 = .ok (.iload_n 3, 1) := by decide +kernel
theorem dX3_isSome_24 : decode cX3_isSome 24 = .ok (.if_icmp .eq 7, 3) := by decide +kernel
theorem dX3_isSome_27 : decode cX3_isSome 27 = .ok (.iconst 1, 1) := by decide +kernel
theorem dX3_isSome_28 : decode cX3_isSome 28 = .ok (.goto 4, 3) := by decide +kernel
theorem dX3_isSome_31 : decode cX3_isSome 31 = .ok (.iconst 0, 1) := by decide +kernel
theorem dX3_isSome_32 : decode cX3_isSome 32 = .ok (.ireturn, 1) := by decide +kernel
set_option maxRecDepth 20000 in
theorem ggX3_split_X3_isParish : GoodIn wsX3_split wsX3_isParish := goodIn_r _ [7, 2, 8, 9, 6, 10, 45, 46, 47, 48, 49, 50, 51, 52, 53, 54, 55, 56, 57, 58, 59, 60] (by decide +kernel) (by decide +kernel)
end
section
set_option maxRecDepth 20000 in
theorem gX3_split_X3_isParish : GoodIn wsX3_split (wsV RX3 56 RX3 yX3_isParish wsX3_isParish) := goodIn_app (goodIn_of _ (by decide +kernel)) ggX3_split_X3_isParish
set_option maxRecDepth 20000 in
theorem ggX3_split_X3_in : GoodIn wsX3_split wsX3_in := goodIn_r _ [10] (by decide +kernel) (by decide +kernel)
set_option maxRecDepth 20000 in
theorem gX3_split_X3_in : GoodIn wsX3_split (va_wsS RX3 44 yX3_in wsX3_in) := goodIn_app (goodIn_of _ (by decide +kernel)) ggX3_split_X3_in
set_option maxRecDepth 20000 in
theorem ggX3_split_X3_isYear : GoodIn wsX3_split wsX3_isYear := goodIn_r _ [13, 8, 9, 6, 10] (by decide +kernel) (by decide +kernel)
set_option maxRecDepth 20000 in
theorem gX3_split_X3_isYear : GoodIn wsX3_split (va_wsS RX3 60 yX3_isYear wsX3_isYear) := goodIn_app (goodIn_of _ (by decide +kernel)) ggX3_split_X3_isYear
set_option maxRecDepth 20000 in
theorem ggX3_split_X3_lastYear : GoodIn wsX3_split wsX3_lastYear := goodIn_r _ [17, 2, 45, 46, 47, 48, 49, 50, 51, 52, 53, 54, 55, 56, 57, 58, 59, 60] (by decide +kernel) (by decide +kernel)
set_option maxRecDepth 20000 in
theorem gX3_split_X3_lastYear : GoodIn wsX3_split (wsV RX3 63 RX3 yX3_lastYear wsX3_lastYear) := goodIn_app (goodIn_of _ (by decide +kernel)) ggX3_split_X3_lastYear
set_option maxRecDepth 20000 in
theorem ggX3_split_X3_isSome : GoodIn wsX3_split wsX3_isSome := goodIn_r _ [21, 22, 23, 24, 6, 25, 2, 26, 27, 28, 29, 30, 31, 32, 33, 34, 35, 45, 46, 47, 48, 49, 50, 51, 52, 53, 54, 55, 56, 57, 58, 59, 60] (by decide +kernel) (by decide +kernel)
set_option maxRecDepth 20000 in
theorem gX3_split_X3_isSome : GoodIn wsX3_split (wsV RX3 81 RX3 yX3_isSome wsX3_isSome) := goodIn_app (goodIn_of _ (by decide +kernel)) ggX3_split_X3_isSome
set_option maxRecDepth 20000 in
theorem ggX3_split_X3_add : GoodIn wsX3_split wsX3_add := goodIn_r _ [39, 2, 45, 46, 47, 48, 49, 50, 51, 52, 53, 54, 55, 56, 57, 58, 59, 60] (by decide +kernel) (by decide +kernel)
set_option maxRecDepth 20000 in
theorem gX3_split_X3_add : GoodIn wsX3_split (wsV RX3 74 RX3 yX3_add wsX3_add) := goodIn_app (goodIn_of _ (by decide +kernel)) ggX3_split_X3_add
set_option maxRecDepth 20000 in
theorem ggX3_split_X3_takeName : GoodIn wsX3_split wsX3_takeName := goodIn_r _ [43, 1, 2, 44, 45, 46, 47, 48, 49, 50, 51, 52, 53, 54, 55, 56, 57, 58, 59, 60] (by decide +kernel) (by decide +kernel)
set_option maxRecDepth 20000 in
theorem gX3_split_X3_takeName : GoodIn wsX3_split (wsV RX3 78 RX3 yX3_takeName wsX3_takeName) := goodIn_app (goodIn_of _ (by decide +kernel)) ggX3_split_X3_takeName
theorem dX3_split_0 : decode cX3_split 0 = .ok (.aload_n 0, 1) := by decide +kernel
theorem dX3_split_1 : decode cX3_split 1 = .ok (.iload_n 1, 1) := by decide +kernel
theorem dX3_split_2 : decode cX3_split 2 = .ok (.invokevirtual 56, 3) := by decide +kernel
theorem dX3_split_5 : decode cX3_split 5 = .ok (.ifCond .ne 5, 3) := by decide +kernel
theorem dX3_split_8 : decode cX3_split 8 = .ok (.iconst (-1), 1) := by decide +kernel
theorem dX3_split_9 : decode cX3_split 9 = .ok (.ireturn, 1) := by decide +kernel
theorem dX3_split_10 : decode cX3_split 10 = .ok (.iload_n 2, 1) := by decide +kernel
theorem dX3_split_11 : decode cX3_split 11 = .ok (.iconst 0, 1) := by decide +kernel
theorem dX3_split_12 : decode cX3_split 12 = .ok (.sipush 4095, 3) := by decide +kernel
theorem dX3_split_15 : decode cX3_split 15 = .ok (.invokestatic 44, 3) := by decide +kernel
theorem dX3_split_18 : decode cX3_split 18 = .ok (.ifCond .eq 10, 3) := by decide +kernel
theorem dX3_split_21 : decode cX3_split 21 = .ok (.iload_n 3, 1) := by decide +kernel
theorem dX3_split_22 : decode cX3_split 22 = .ok (.invokestatic 60, 3) := by decide +kernel
theorem dX3_split_25 : decode cX3_split 25 = .ok (.ifCond .ne 6, 3) := by decide +kernel
theorem dX3_split_28 : decode cX3_split 28 = .ok (.bipush (-2), 2) := by decide +kernel
theorem dX3_split_30 : decode cX3_split 30 = .ok (.ireturn, 1) := by decide +kernel
theorem dX3_split_31 : decode cX3_split 31 = .ok (.aload_n 0, 1) := by decide +kernel
theorem dX3_split_32 : decode cX3_split 32 = .ok (.getfield 48, 3) := by decide +kernel
theorem dX3_split_35 : decode cX3_split 35 = .ok (.ifCond .ne 6, 3) := by decide +kernel
theorem dX3_split_38 : decode cX3_split 38 = .ok (.bipush (-7), 2) := by decide +kernel
theorem dX3_split_40 : decode cX3_split 40 = .ok (.ireturn, 1) := by decide +kernel
theorem dX3_split_41 : decode cX3_split 41 = .ok (.iload_n 3, 1) := by decide +kernel
theorem dX3_split_42 : decode cX3_split 42 = .ok (.aload_n 0, 1) := by decide +kernel
theorem dX3_split_43 : decode cX3_split 43 = .ok (.invokevirtual 63, 3) := by decide +kernel
theorem dX3_split_46 : decode cX3_split 46 = .ok (.if_icmp .ge 6, 3) := by decide +kernel
theorem dX3_split_49 : decode cX3_split 49 = .ok (.bipush (-3), 2) := by decide +kernel
theorem dX3_split_51 : decode cX3_split 51 = .ok (.ireturn, 1) := by decide +kernel
theorem dX3_split_52 : decode cX3_split 52 = .ok (.aload_n 0, 1) := by decide +kernel
theorem dX3_split_53 : decode cX3_split 53 = .ok (.iload_n 1, 1) := by decide +kernel
theorem dX3_split_54 : decode cX3_split 54 = .ok (.iload_n 2, 1) := by decide +kernel
theorem dX3_split_55 : decode cX3_split 55 = .ok (.invokevirtual 81, 3) := by decide +kernel
theorem dX3_split_58 : decode cX3_split 58 = .ok (.ifCond .ne 6, 3) := by decide +kernel
theorem dX3_split_61 : decode cX3_split 61 = .ok (.bipush (-5), 2) := by decide +kernel
theorem dX3_split_63 : decode cX3_split 63 = .ok (.ireturn, 1) := by decide +kernel
theorem dX3_split_64 : decode cX3_split 64 = .ok (.aload_n 0, 1) := by decide +kernel
theorem dX3_split_65 : decode cX3_split 65 = .ok (.getfield 7, 3) := by decide +kernel
theorem dX3_split_68 : decode cX3_split 68 = .ok (.sipush 420, 3) := by decide +kernel
theorem dX3_split_71 : decode cX3_split 71 = .ok (.iaload, 1) := by decide +kernel
theorem dX3_split_72 : decode cX3_split 72 = .ok (.bipush 30, 2) := by decide +kernel
theorem dX3_split_74 : decode cX3_split 74 = .ok (.if_icmp .eq 16, 3) := by decide +kernel
theorem dX3_split_77 : decode cX3_split 77 = .ok (.aload_n 0, 1) := by decide +kernel
theorem dX3_split_78 : decode cX3_split 78 = .ok (.getfield 7, 3) := by decide +kernel
theorem dX3_split_81 : decode cX3_split 81 = .ok (.sipush 421, 3) := by decide +kernel
theorem dX3_split_84 : decode cX3_split 84 = .ok (.iaload, 1) := by decide +kernel
theorem dX3_split_85 : decode cX3_split 85 = .ok (.bipush 16, 2) := by decide +kernel
theorem dX3_split_87 : decode cX3_split 87 = .ok (.if_icmp .ne 6, 3) := by decide +kernel
theorem dX3_split_90 : decode cX3_split 90 = .ok (.bipush (-4), 2) := by decide +kernel
theorem dX3_split_92 : decode cX3_split 92 = .ok (.ireturn, 1) := by decide +kernel
theorem dX3_split_93 : decode cX3_split 93 = .ok (.aload_n 0, 1) := by decide +kernel
theorem dX3_split_94 : decode cX3_split 94 = .ok (.getfield 7, 3) := by decide +kernel
theorem dX3_split_97 : decode cX3_split 97 = .ok (.sipush 420, 3) := by decide +kernel
theorem dX3_split_100 : decode cX3_split 100 = .ok (.iaload, 1) := by decide +kernel
theorem dX3_split_101 : decode cX3_split 101 = .ok (.istore 4, 2) := by decide +kernel
theorem dX3_split_103 : decode cX3_split 103 = .ok (.aload_n 0, 1) := by decide +kernel
theorem dX3_split_104 : decode cX3_split 104 = .ok (.getfield 7, 3) := by decide +kernel
theorem dX3_split_107 : decode cX3_split 107 = .ok (.sipush 421, 3) := by decide +kernel
theorem dX3_split_110 : decode cX3_split 110 = .ok (.iaload, 1) := by decide +kernel
theorem dX3_split_111 : decode cX3_split 111 = .ok (.istore 5, 2) := by decide +kernel
theorem dX3_split_113 : decode cX3_split 113 = .ok (.aload_n 0, 1) := by decide +kernel
theorem dX3_split_114 : decode cX3_split 114 = .ok (.iconst 1, 1) := by decide +kernel
theorem dX3_split_115 : decode cX3_split 115 = .ok (.iload_n 3, 1) := by decide +kernel
theorem dX3_split_116 : decode cX3_split 116 = .ok (.iload_n 1, 1) := by decide +kernel
theorem dX3_split_117 : decode cX3_split 117 = .ok (.iload_n 2, 1) := by decide +kernel
theorem dX3_split_118 : decode cX3_split 118 = .ok (.iload 5, 2) := by decide +kernel
theorem dX3_split_120 : decode cX3_split 120 = .ok (.invokevirtual 74, 3) := by decide +kernel
theorem dX3_split_123 : decode cX3_split 123 = .ok (.aload_n 0, 1) := by decide +kernel
theorem dX3_split_124 : decode cX3_split 124 = .ok (.iload 4, 2) := by decide +kernel
theorem dX3_split_126 : decode cX3_split 126 = .ok (.invokevirtual 78, 3) := by decide +kernel
theorem dX3_split_129 : decode cX3_split 129 = .ok (.aload_n 0, 1) := by decide +kernel
theorem dX3_split_130 : decode cX3_split 130 = .ok (.getfield 7, 3) := by decide +kernel
theorem dX3_split_133 : decode cX3_split 133 = .ok (.sipush 421, 3) := by decide +kernel
theorem dX3_split_136 : decode cX3_split 136 = .ok (.dup2, 1) := by decide +kernel
theorem dX3_split_137 : decode cX3_split 137 = .ok (.iaload, 1) := by decide +kernel
theorem dX3_split_138 : decode cX3_split 138 = .ok (.iconst 1, 1) := by decide +kernel
theorem dX3_split_139 : decode cX3_split 139 = .ok (.iadd, 1) := by decide +kernel
theorem dX3_split_140 : decode cX3_split 140 = .ok (.iastore, 1) := by decide +kernel
theorem dX3_split_141 : decode cX3_split 141 = .ok (.iload 5, 2) := by decide +kernel
theorem dX3_split_143 : decode cX3_split 143 = .ok (.ireturn, 1) := by decide +kernel
set_option maxRecDepth 20000 in
theorem ggX3_merge_X3_isParish : GoodIn wsX3_merge wsX3_isParish := goodIn_r _ [6, 1, 7, 8, 5, 9, 35, 36, 37, 38, 39, 40, 41, 42, 43, 44, 45, 46, 47, 48, 49, 50] (by decide +kernel) (by decide +kernel)
set_option maxRecDepth 20000 in
theorem gX3_merge_X3_isParish : GoodIn wsX3_merge (wsV RX3 56 RX3 yX3_isParish wsX3_isParish) := goodIn_app (goodIn_of _ (by decide +kernel)) ggX3_merge_X3_isParish
set_option maxRecDepth 20000 in
theorem ggX3_merge_X3_isYear : GoodIn wsX3_merge wsX3_isYear := goodIn_r _ [12, 7, 8, 5, 9] (by decide +kernel) (by decide +kernel)
set_option maxRecDepth 20000 in
theorem gX3_merge_X3_isYear : GoodIn wsX3_merge (va_wsS RX3 60 yX3_isYear wsX3_isYear) := goodIn_app (goodIn_of _ (by decide +kernel)) ggX3_merge_X3_isYear
set_option maxRecDepth 20000 in
theorem ggX3_merge_X3_lastYear : GoodIn wsX3_merge wsX3_lastYear := goodIn_r _ [16, 1, 35, 36, 37, 38, 39, 40, 41, 42, 43, 44, 45, 46, 47, 48, 49, 50] (by decide +kernel) (by decide +kernel)
set_option maxRecDepth 20000 in
theorem gX3_merge_X3_lastYear : GoodIn wsX3_merge (wsV RX3 63 RX3 yX3_lastYear wsX3_lastYear) := goodIn_app (goodIn_of _ (by decide +kernel)) ggX3_merge_X3_lastYear
set_option maxRecDepth 20000 in
theorem ggX3_merge_X3_goToEnd : GoodIn wsX3_merge wsX3_goToEnd := goodIn_r _ [20, 1, 21, 22, 23, 5, 24, 25, 26, 35, 36, 37, 38, 39, 40, 41, 42, 43, 44, 45, 46, 47, 48, 49, 50] (by decide +kernel) (by decide +kernel)
set_option maxRecDepth 20000 in
theorem gX3_merge_X3_goToEnd : GoodIn wsX3_merge (wsV RX3 67 RX3 yX3_goToEnd wsX3_goToEnd) := goodIn_app (goodIn_of _ (by decide +kernel)) ggX3_merge_X3_goToEnd
set_option maxRecDepth 20000 in
theorem ggX3_merge_X3_sitesOf : GoodIn wsX3_merge wsX3_sitesOf := goodIn_r _ [30, 25, 35, 36, 37, 38, 39, 40, 41, 42, 43, 44, 45, 46, 47, 48, 49, 50] (by decide +kernel) (by decide +kernel)
set_option maxRecDepth 20000 in
theorem gX3_merge_X3_sitesOf : GoodIn wsX3_merge (wsV RX3 70 RX3 yX3_sitesOf wsX3_sitesOf) := goodIn_app (goodIn_of _ (by decide +kernel)) ggX3_merge_X3_sitesOf
set_option maxRecDepth 20000 in
theorem ggX3_merge_X3_add : GoodIn wsX3_merge wsX3_add := goodIn_r _ [34, 1, 35, 36, 37, 38, 39, 40, 41, 42, 43, 44, 45, 46, 47, 48, 49, 50] (by decide +kernel) (by decide +kernel)
set_option maxRecDepth 20000 in
theorem gX3_merge_X3_add : GoodIn wsX3_merge (wsV RX3 74 RX3 yX3_add wsX3_add) := goodIn_app (goodIn_of _ (by decide +kernel)) ggX3_merge_X3_add
theorem dX3_merge_0 : decode cX3_merge 0 = .ok (.aload_n 0, 1) := by decide +kernel
theorem dX3_merge_1 : decode cX3_merge 1 = .ok (.iload_n 1, 1) := by decide +kernel
theorem dX3_merge_2 : decode cX3_merge 2 = .ok (.invokevirtual 56, 3) := by decide +kernel
theorem dX3_merge_5 : decode cX3_merge 5 = .ok (.ifCond .eq 11, 3) := by decide +kernel
theorem dX3_merge_8 : decode cX3_merge 8 = .ok (.aload_n 0, 1) := by decide +kernel
theorem dX3_merge_9 : decode cX3_merge 9 = .ok (.iload_n 2, 1) := by decide +kernel
theorem dX3_merge_10 : decode cX3_merge 10 = .ok (.invokevirtual 56, 3) := by decide +kernel
theorem dX3_merge_13 : decode cX3_merge 13 = .ok (.ifCond .ne 5, 3) := by decide +kernel
theorem dX3_merge_16 : decode cX3_merge 16 = .ok (.iconst (-1), 1) := by decide +kernel
theorem dX3_merge_17 : decode cX3_merge 17 = .ok (.ireturn, 1) := by decide +kernel
theorem dX3_merge_18 : decode cX3_merge 18 = .ok (.iload_n 1, 1) := by decide +kernel
theorem dX3_merge_19 : decode cX3_merge 19 = .ok (.iload_n 2, 1) := by decide +kernel
theorem dX3_merge_20 : decode cX3_merge 20 = .ok (.if_icmp .eq 10, 3) := by decide +kernel
theorem dX3_merge_23 : decode cX3_merge 23 = .ok (.iload_n 3, 1) := by decide +kernel
theorem dX3_merge_24 : decode cX3_merge 24 = .ok (.invokestatic 60, 3) := by decide +kernel
theorem dX3_merge_27 : decode cX3_merge 27 = .ok (.ifCond .ne 6, 3) := by decide +kernel
theorem dX3_merge_30 : decode cX3_merge 30 = .ok (.bipush (-2), 2) := by decide +kernel
theorem dX3_merge_32 : decode cX3_merge 32 = .ok (.ireturn, 1) := by decide +kernel
theorem dX3_merge_33 : decode cX3_merge 33 = .ok (.iload_n 3, 1) := by decide +kernel
theorem dX3_merge_34 : decode cX3_merge 34 = .ok (.aload_n 0, 1) := by decide +kernel
theorem dX3_merge_35 : decode cX3_merge 35 = .ok (.invokevirtual 63, 3) := by decide +kernel
theorem dX3_merge_38 : decode cX3_merge 38 = .ok (.if_icmp .ge 6, 3) := by decide +kernel
theorem dX3_merge_41 : decode cX3_merge 41 = .ok (.bipush (-3), 2) := by decide +kernel
theorem dX3_merge_43 : decode cX3_merge 43 = .ok (.ireturn, 1) := by decide +kernel
theorem dX3_merge_44 : decode cX3_merge 44 = .ok (.aload_n 0, 1) := by decide +kernel
theorem dX3_merge_45 : decode cX3_merge 45 = .ok (.invokevirtual 67, 3) := by decide +kernel
theorem dX3_merge_48 : decode cX3_merge 48 = .ok (.aload_n 0, 1) := by decide +kernel
theorem dX3_merge_49 : decode cX3_merge 49 = .ok (.iload_n 1, 1) := by decide +kernel
theorem dX3_merge_50 : decode cX3_merge 50 = .ok (.invokevirtual 70, 3) := by decide +kernel
theorem dX3_merge_53 : decode cX3_merge 53 = .ok (.istore 4, 2) := by decide +kernel
theorem dX3_merge_55 : decode cX3_merge 55 = .ok (.iload 4, 2) := by decide +kernel
theorem dX3_merge_57 : decode cX3_merge 57 = .ok (.ifCond .eq 11, 3) := by decide +kernel
theorem dX3_merge_60 : decode cX3_merge 60 = .ok (.aload_n 0, 1) := by decide +kernel
theorem dX3_merge_61 : decode cX3_merge 61 = .ok (.iload_n 2, 1) := by decide +kernel
theorem dX3_merge_62 : decode cX3_merge 62 = .ok (.invokevirtual 70, 3) := by decide +kernel
theorem dX3_merge_65 : decode cX3_merge 65 = .ok (.ifCond .ne 6, 3) := by decide +kernel
theorem dX3_merge_68 : decode cX3_merge 68 = .ok (.bipush (-5), 2) := by decide +kernel
theorem dX3_merge_70 : decode cX3_merge 70 = .ok (.ireturn, 1) := by decide +kernel
theorem dX3_merge_71 : decode cX3_merge 71 = .ok (.aload_n 0, 1) := by decide +kernel
theorem dX3_merge_72 : decode cX3_merge 72 = .ok (.getfield 7, 3) := by decide +kernel
theorem dX3_merge_75 : decode cX3_merge 75 = .ok (.sipush 420, 3) := by decide +kernel
theorem dX3_merge_78 : decode cX3_merge 78 = .ok (.iaload, 1) := by decide +kernel
theorem dX3_merge_79 : decode cX3_merge 79 = .ok (.bipush 30, 2) := by decide +kernel
theorem dX3_merge_81 : decode cX3_merge 81 = .ok (.if_icmp .ne 6, 3) := by decide +kernel
theorem dX3_merge_84 : decode cX3_merge 84 = .ok (.bipush (-4), 2) := by decide +kernel
theorem dX3_merge_86 : decode cX3_merge 86 = .ok (.ireturn, 1) := by decide +kernel
theorem dX3_merge_87 : decode cX3_merge 87 = .ok (.aload_n 0, 1) := by decide +kernel
theorem dX3_merge_88 : decode cX3_merge 88 = .ok (.iconst 2, 1) := by decide +kernel
theorem dX3_merge_89 : decode cX3_merge 89 = .ok (.iload_n 3, 1) := by decide +kernel
theorem dX3_merge_90 : decode cX3_merge 90 = .ok (.iload_n 1, 1) := by decide +kernel
theorem dX3_merge_91 : decode cX3_merge 91 = .ok (.iload 4, 2) := by decide +kernel
theorem dX3_merge_93 : decode cX3_merge 93 = .ok (.iload_n 2, 1) := by decide +kernel
theorem dX3_merge_94 : decode cX3_merge 94 = .ok (.invokevirtual 74, 3) := by decide +kernel
theorem dX3_merge_97 : decode cX3_merge 97 = .ok (.aload_n 0, 1) := by decide +kernel
theorem dX3_merge_98 : decode cX3_merge 98 = .ok (.getfield 7, 3) := by decide +kernel
theorem dX3_merge_101 : decode cX3_merge 101 = .ok (.sipush 420, 3) := by decide +kernel
theorem dX3_merge_104 : decode cX3_merge 104 = .ok (.iaload, 1) := by decide +kernel
theorem dX3_merge_105 : decode cX3_merge 105 = .ok (.iconst 1, 1) := by decide +kernel
theorem dX3_merge_106 : decode cX3_merge 106 = .ok (.isub, 1) := by decide +kernel
theorem dX3_merge_107 : decode cX3_merge 107 = .ok (.ireturn, 1) := by decide +kernel
set_option maxRecDepth 20000 in
theorem ggX3_shift_X3_isParish : GoodIn wsX3_shift wsX3_isParish := goodIn_r _ [6, 1, 7, 8, 5, 9, 39, 40, 41, 42, 43, 44, 45, 46, 47, 48, 49, 50, 51, 52, 53, 54] (by decide +kernel) (by decide +kernel)
set_option maxRecDepth 20000 in
theorem gX3_shift_X3_isParish : GoodIn wsX3_shift (wsV RX3 56 RX3 yX3_isParish wsX3_isParish) := goodIn_app (goodIn_of _ (by decide +kernel)) ggX3_shift_X3_isParish
set_option maxRecDepth 20000 in
theorem ggX3_shift_X3_in : GoodIn wsX3_shift wsX3_in := goodIn_r _ [9] (by decide +kernel) (by decide +kernel)
set_option maxRecDepth 20000 in
theorem gX3_shift_X3_in : GoodIn wsX3_shift (va_wsS RX3 44 yX3_in wsX3_in) := goodIn_app (goodIn_of _ (by decide +kernel)) ggX3_shift_X3_in
set_option maxRecDepth 20000 in
theorem ggX3_shift_X3_isYear : GoodIn wsX3_shift wsX3_isYear := goodIn_r _ [12, 7, 8, 5, 9] (by decide +kernel) (by decide +kernel)
set_option maxRecDepth 20000 in
theorem gX3_shift_X3_isYear : GoodIn wsX3_shift (va_wsS RX3 60 yX3_isYear wsX3_isYear) := goodIn_app (goodIn_of _ (by decide +kernel)) ggX3_shift_X3_isYear
set_option maxRecDepth 20000 in
theorem ggX3_shift_X3_lastYear : GoodIn wsX3_shift wsX3_lastYear := goodIn_r _ [16, 1, 39, 40, 41, 42, 43, 44, 45, 46, 47, 48, 49, 50, 51, 52, 53, 54] (by decide +kernel) (by decide +kernel)
set_option maxRecDepth 20000 in
theorem gX3_shift_X3_lastYear : GoodIn wsX3_shift (wsV RX3 63 RX3 yX3_lastYear wsX3_lastYear) := goodIn_app (goodIn_of _ (by decide +kernel)) ggX3_shift_X3_lastYear
set_option maxRecDepth 20000 in
theorem ggX3_shift_X3_isSome : GoodIn wsX3_shift wsX3_isSome := goodIn_r _ [20, 21, 22, 23, 5, 24, 1, 25, 26, 27, 28, 29, 30, 31, 32, 33, 34, 39, 40, 41, 42, 43, 44, 45, 46, 47, 48, 49, 50, 51, 52, 53, 54] (by decide +kernel) (by decide +kernel)
set_option maxRecDepth 20000 in
theorem gX3_shift_X3_isSome : GoodIn wsX3_shift (wsV RX3 81 RX3 yX3_isSome wsX3_isSome) := goodIn_app (goodIn_of _ (by decide +kernel)) ggX3_shift_X3_isSome
set_option maxRecDepth 20000 in
theorem ggX3_shift_X3_sitesOf : GoodIn wsX3_shift wsX3_sitesOf := goodIn_r _ [34, 29, 39, 40, 41, 42, 43, 44, 45, 46, 47, 48, 49, 50, 51, 52, 53, 54] (by decide +kernel) (by decide +kernel)
set_option maxRecDepth 20000 in
theorem gX3_shift_X3_sitesOf : GoodIn wsX3_shift (wsV RX3 70 RX3 yX3_sitesOf wsX3_sitesOf) := goodIn_app (goodIn_of _ (by decide +kernel)) ggX3_shift_X3_sitesOf
set_option maxRecDepth 20000 in
theorem ggX3_shift_X3_add : GoodIn wsX3_shift wsX3_add := goodIn_r _ [38, 1, 39, 40, 41, 42, 43, 44, 45, 46, 47, 48, 49, 50, 51, 52, 53, 54] (by decide +kernel) (by decide +kernel)
set_option maxRecDepth 20000 in
theorem gX3_shift_X3_add : GoodIn wsX3_shift (wsV RX3 74 RX3 yX3_add wsX3_add) := goodIn_app (goodIn_of _ (by decide +kernel)) ggX3_shift_X3_add
theorem dX3_shift_0 : decode cX3_shift 0 = .ok (.aload_n 0, 1) := by decide +kernel
theorem dX3_shift_1 : decode cX3_shift 1 = .ok (.iload_n 1, 1) := by decide +kernel
theorem dX3_shift_2 : decode cX3_shift 2 = .ok (.invokevirtual 56, 3) := by decide +kernel
theorem dX3_shift_5 : decode cX3_shift 5 = .ok (.ifCond .eq 11, 3) := by decide +kernel
theorem dX3_shift_8 : decode cX3_shift 8 = .ok (.aload_n 0, 1) := by decide +kernel
theorem dX3_shift_9 : decode cX3_shift 9 = .ok (.iload_n 3, 1) := by decide +kernel
theorem dX3_shift_10 : decode cX3_shift 10 = .ok (.invokevirtual 56, 3) := by decide +kernel
theorem dX3_shift_13 : decode cX3_shift 13 = .ok (.ifCond .ne 5, 3) := by decide +kernel
theorem dX3_shift_16 : decode cX3_shift 16 = .ok (.iconst (-1), 1) := by decide +kernel
theorem dX3_shift_17 : decode cX3_shift 17 = .ok (.ireturn, 1) := by decide +kernel
theorem dX3_shift_18 : decode cX3_shift 18 = .ok (.iload_n 1, 1) := by decide +kernel
theorem dX3_shift_19 : decode cX3_shift 19 = .ok (.iload_n 3, 1) := by decide +kernel
theorem dX3_shift_20 : decode cX3_shift 20 = .ok (.if_icmp .eq 22, 3) := by decide +kernel
theorem dX3_shift_23 : decode cX3_shift 23 = .ok (.iload_n 2, 1) := by decide +kernel
theorem dX3_shift_24 : decode cX3_shift 24 = .ok (.iconst 0, 1) := by decide +kernel
theorem dX3_shift_25 : decode cX3_shift 25 = .ok (.sipush 4095, 3) := by decide +kernel
theorem dX3_shift_28 : decode cX3_shift 28 = .ok (.invokestatic 44, 3) := by decide +kernel
theorem dX3_shift_31 : decode cX3_shift 31 = .ok (.ifCond .eq 11, 3) := by decide +kernel
theorem dX3_shift_34 : decode cX3_shift 34 = .ok (.iload 4, 2) := by decide +kernel
theorem dX3_shift_36 : decode cX3_shift 36 = .ok (.invokestatic 60, 3) := by decide +kernel
theorem dX3_shift_39 : decode cX3_shift 39 = .ok (.ifCond .ne 6, 3) := by decide +kernel
theorem dX3_shift_42 : decode cX3_shift 42 = .ok (.bipush (-2), 2) := by decide +kernel
theorem dX3_shift_44 : decode cX3_shift 44 = .ok (.ireturn, 1) := by decide +kernel
theorem dX3_shift_45 : decode cX3_shift 45 = .ok (.iload 4, 2) := by decide +kernel
theorem dX3_shift_47 : decode cX3_shift 47 = .ok (.aload_n 0, 1) := by decide +kernel
theorem dX3_shift_48 : decode cX3_shift 48 = .ok (.invokevirtual 63, 3) := by decide +kernel
theorem dX3_shift_51 : decode cX3_shift 51 = .ok (.if_icmp .ge 6, 3) := by decide +kernel
theorem dX3_shift_54 : decode cX3_shift 54 = .ok (.bipush (-3), 2) := by decide +kernel
theorem dX3_shift_56 : decode cX3_shift 56 = .ok (.ireturn, 1) := by decide +kernel
theorem dX3_shift_57 : decode cX3_shift 57 = .ok (.aload_n 0, 1) := by decide +kernel
theorem dX3_shift_58 : decode cX3_shift 58 = .ok (.iload_n 1, 1) := by decide +kernel
theorem dX3_shift_59 : decode cX3_shift 59 = .ok (.iload_n 2, 1) := by decide +kernel
theorem dX3_shift_60 : decode cX3_shift 60 = .ok (.invokevirtual 81, 3) := by decide +kernel
theorem dX3_shift_63 : decode cX3_shift 63 = .ok (.ifCond .eq 11, 3) := by decide +kernel
theorem dX3_shift_66 : decode cX3_shift 66 = .ok (.aload_n 0, 1) := by decide +kernel
theorem dX3_shift_67 : decode cX3_shift 67 = .ok (.iload_n 3, 1) := by decide +kernel
theorem dX3_shift_68 : decode cX3_shift 68 = .ok (.invokevirtual 70, 3) := by decide +kernel
theorem dX3_shift_71 : decode cX3_shift 71 = .ok (.ifCond .ne 6, 3) := by decide +kernel
theorem dX3_shift_74 : decode cX3_shift 74 = .ok (.bipush (-5), 2) := by decide +kernel
theorem dX3_shift_76 : decode cX3_shift 76 = .ok (.ireturn, 1) := by decide +kernel
theorem dX3_shift_77 : decode cX3_shift 77 = .ok (.aload_n 0, 1) := by decide +kernel
theorem dX3_shift_78 : decode cX3_shift 78 = .ok (.getfield 7, 3) := by decide +kernel
theorem dX3_shift_81 : decode cX3_shift 81 = .ok (.sipush 420, 3) := by decide +kernel
theorem dX3_shift_84 : decode cX3_shift 84 = .ok (.iaload, 1) := by decide +kernel
theorem dX3_shift_85 : decode cX3_shift 85 = .ok (.bipush 30, 2) := by decide +kernel
theorem dX3_shift_87 : decode cX3_shift 87 = .ok (.if_icmp .ne 6, 3) := by decide +kernel
theorem dX3_shift_90 : decode cX3_shift 90 = .ok (.bipush (-4), 2) := by decide +kernel
theorem dX3_shift_92 : decode cX3_shift 92 = .ok (.ireturn, 1) := by decide +kernel
theorem dX3_shift_93 : decode cX3_shift 93 = .ok (.aload_n 0, 1) := by decide +kernel
theorem dX3_shift_94 : decode cX3_shift 94 = .ok (.iconst 3, 1) := by decide +kernel
theorem dX3_shift_95 : decode cX3_shift 95 = .ok (.iload 4, 2) := by decide +kernel
theorem dX3_shift_97 : decode cX3_shift 97 = .ok (.iload_n 1, 1) := by decide +kernel
theorem dX3_shift_98 : decode cX3_shift 98 = .ok (.iload_n 2, 1) := by decide +kernel
theorem dX3_shift_99 : decode cX3_shift 99 = .ok (.iload_n 3, 1) := by decide +kernel
theorem dX3_shift_100 : decode cX3_shift 100 = .ok (.invokevirtual 74, 3) := by decide +kernel
theorem dX3_shift_103 : decode cX3_shift 103 = .ok (.aload_n 0, 1) := by decide +kernel
theorem dX3_shift_104 : decode cX3_shift 104 = .ok (.getfield 7, 3) := by decide +kernel
theorem dX3_shift_107 : decode cX3_shift 107 = .ok (.sipush 420, 3) := by decide +kernel
theorem dX3_shift_110 : decode cX3_shift 110 = .ok (.iaload, 1) := by decide +kernel
theorem dX3_shift_111 : decode cX3_shift 111 = .ok (.iconst 1, 1) := by decide +kernel
theorem dX3_shift_112 : decode cX3_shift 112 = .ok (.isub, 1) := by decide +kernel
theorem dX3_shift_113 : decode cX3_shift 113 = .ok (.ireturn, 1) := by decide +kernel
theorem dX3_undo_0 : decode cX3_undo 0 = .ok (.aload_n 0, 1) := by decide +kernel
theorem dX3_undo_1 : decode cX3_undo 1 = .ok (.getfield 7, 3) := by decide +kernel
theorem dX3_undo_4 : decode cX3_undo 4 = .ok (.sipush 420, 3) := by decide +kernel
theorem dX3_undo_7 : decode cX3_undo 7 = .ok (.iaload, 1) := by decide +kernel
theorem dX3_undo_8 : decode cX3_undo 8 = .ok (.ifCond .ne 6, 3) := by decide +kernel
theorem dX3_undo_11 : decode cX3_undo 11 = .ok (.bipush (-6), 2) := by decide +kernel
theorem dX3_undo_13 : decode cX3_undo 13 = .ok (.ireturn, 1) := by decide +kernel
theorem dX3_undo_14 : decode cX3_undo 14 = .ok (.aload_n 0, 1) := by decide +kernel
theorem dX3_undo_15 : decode cX3_undo 15 = .ok (.getfield 7, 3) := by decide +kernel
theorem dX3_undo_18 : decode cX3_undo 18 = .ok (.sipush 420, 3) := by decide +kernel
theorem dX3_undo_21 : decode cX3_undo 21 = .ok (.dup2, 1) := by decide +kernel
theorem dX3_undo_22 : decode cX3_undo 22 = .ok (.iaload, 1) := by decide +kernel
theorem dX3_undo_23 : decode cX3_undo 23 = .ok (.iconst 1, 1) := by decide +kernel
theorem dX3_undo_24 : decode cX3_undo 24 = .ok (.isub, 1) := by decide +kernel
theorem dX3_undo_25 : decode cX3_undo 25 = .ok (.iastore, 1) := by decide +kernel
theorem dX3_undo_26 : decode cX3_undo 26 = .ok (.aload_n 0, 1) := by decide +kernel
theorem dX3_undo_27 : decode cX3_undo 27 = .ok (.getfield 7, 3) := by decide +kernel
theorem dX3_undo_30 : decode cX3_undo 30 = .ok (.sipush 421, 3) := by decide +kernel
theorem dX3_undo_33 : decode cX3_undo 33 = .ok (.dup2, 1) := by decide +kernel
theorem dX3_undo_34 : decode cX3_undo 34 = .ok (.iaload, 1) := by decide +kernel
theorem dX3_undo_35 : decode cX3_undo 35 = .ok (.aload_n 0, 1) := by decide +kernel
theorem dX3_undo_36 : decode cX3_undo 36 = .ok (.getfield 7, 3) := by decide +kernel
theorem dX3_undo_39 : decode cX3_undo 39 = .ok (.iconst 0, 1) := by decide +kernel
theorem dX3_undo_40 : decode cX3_undo 40 = .ok (.aload_n 0, 1) := by decide +kernel
theorem dX3_undo_41 : decode cX3_undo 41 = .ok (.getfield 7, 3) := by decide +kernel
theorem dX3_undo_44 : decode cX3_undo 44 = .ok (.sipush 420, 3) := by decide +kernel
theorem dX3_undo_47 : decode cX3_undo 47 = .ok (.iaload, 1) := by decide +kernel
theorem dX3_undo_48 : decode cX3_undo 48 = .ok (.iadd, 1) := by decide +kernel
theorem dX3_undo_49 : decode cX3_undo 49 = .ok (.iaload, 1) := by decide +kernel
theorem dX3_undo_50 : decode cX3_undo 50 = .ok (.iconst 1, 1) := by decide +kernel
theorem dX3_undo_51 : decode cX3_undo 51 = .ok (.if_icmp .ne 7, 3) := by decide +kernel
theorem dX3_undo_54 : decode cX3_undo 54 = .ok (.iconst 1, 1) := by decide +kernel
theorem dX3_undo_55 : decode cX3_undo 55 = .ok (.goto 4, 3) := by decide +kernel
theorem dX3_undo_58 : decode cX3_undo 58 = .ok (.iconst 0, 1) := by decide +kernel
theorem dX3_undo_59 : decode cX3_undo 59 = .ok (.isub, 1) := by decide +kernel
theorem dX3_undo_60 : decode cX3_undo 60 = .ok (.iastore, 1) := by decide +kernel
theorem dX3_undo_61 : decode cX3_undo 61 = .ok (.aload_n 0, 1) := by decide +kernel
theorem dX3_undo_62 : decode cX3_undo 62 = .ok (.getfield 7, 3) := by decide +kernel
theorem dX3_undo_65 : decode cX3_undo 65 = .ok (.sipush 420, 3) := by decide +kernel
theorem dX3_undo_68 : decode cX3_undo 68 = .ok (.iaload, 1) := by decide +kernel
theorem dX3_undo_69 : decode cX3_undo 69 = .ok (.ireturn, 1) := by decide +kernel
set_option maxRecDepth 20000 in
theorem ggX3_event_X3_in : GoodIn wsX3_event wsX3_in := goodIn_r _ [5] (by decide +kernel) (by decide +kernel)
set_option maxRecDepth 20000 in
theorem gX3_event_X3_in : GoodIn wsX3_event (va_wsS RX3 44 yX3_in wsX3_in) := goodIn_app (goodIn_of _ (by decide +kernel)) ggX3_event_X3_in
theorem dX3_event_0 : decode cX3_event 0 = .ok (.iload_n 2, 1) := by decide +kernel
theorem dX3_event_1 : decode cX3_event 1 = .ok (.iconst 0, 1) := by decide +kernel
theorem dX3_event_2 : decode cX3_event 2 = .ok (.iconst 4, 1) := by decide +kernel
theorem dX3_event_3 : decode cX3_event 3 = .ok (.invokestatic 44, 3) := by decide +kernel
theorem dX3_event_6 : decode cX3_event 6 = .ok (.ifCond .ne 6, 3) := by decide +kernel
theorem dX3_event_9 : decode cX3_event 9 = .ok (.bipush (-2), 2) := by decide +kernel
theorem dX3_event_11 : decode cX3_event 11 = .ok (.ireturn, 1) := by decide +kernel
theorem dX3_event_12 : decode cX3_event 12 = .ok (.iload_n 1, 1) := by decide +kernel
theorem dX3_event_13 : decode cX3_event 13 = .ok (.iconst 0, 1) := by decide +kernel
theorem dX3_event_14 : decode cX3_event 14 = .ok (.aload_n 0, 1) := by decide +kernel
theorem dX3_event_15 : decode cX3_event 15 = .ok (.getfield 7, 3) := by decide +kernel
theorem dX3_event_18 : decode cX3_event 18 = .ok (.sipush 420, 3) := by decide +kernel
theorem dX3_event_21 : decode cX3_event 21 = .ok (.iaload, 1) := by decide +kernel
theorem dX3_event_22 : decode cX3_event 22 = .ok (.iconst 1, 1) := by decide +kernel
theorem dX3_event_23 : decode cX3_event 23 = .ok (.isub, 1) := by decide +kernel
theorem dX3_event_24 : decode cX3_event 24 = .ok (.invokestatic 44, 3) := by decide +kernel
theorem dX3_event_27 : decode cX3_event 27 = .ok (.ifCond .eq 19, 3) := by decide +kernel
theorem dX3_event_30 : decode cX3_event 30 = .ok (.aload_n 0, 1) := by decide +kernel
theorem dX3_event_31 : decode cX3_event 31 = .ok (.getfield 7, 3) := by decide +kernel
theorem dX3_event_34 : decode cX3_event 34 = .ok (.iconst 0, 1) := by decide +kernel
theorem dX3_event_35 : decode cX3_event 35 = .ok (.bipush 30, 2) := by decide +kernel
theorem dX3_event_37 : decode cX3_event 37 = .ok (.iload_n 2, 1) := by decide +kernel
theorem dX3_event_38 : decode cX3_event 38 = .ok (.imul, 1) := by decide +kernel
theorem dX3_event_39 : decode cX3_event 39 = .ok (.iadd, 1) := by decide +kernel
theorem dX3_event_40 : decode cX3_event 40 = .ok (.iload_n 1, 1) := by decide +kernel
theorem dX3_event_41 : decode cX3_event 41 = .ok (.iadd, 1) := by decide +kernel
theorem dX3_event_42 : decode cX3_event 42 = .ok (.iaload, 1) := by decide +kernel
theorem dX3_event_43 : decode cX3_event 43 = .ok (.goto 5, 3) := by decide +kernel
theorem dX3_event_46 : decode cX3_event 46 = .ok (.bipush (-6), 2) := by decide +kernel
theorem dX3_event_48 : decode cX3_event 48 = .ok (.ireturn, 1) := by decide +kernel
set_option maxRecDepth 20000 in
theorem ggX3_at_X3_isSite : GoodIn wsX3_at wsX3_isSite := goodIn_r _ [5, 6, 7, 4, 8] (by decide +kernel) (by decide +kernel)
set_option maxRecDepth 20000 in
theorem gX3_at_X3_isSite : GoodIn wsX3_at (va_wsS RX3 85 yX3_isSite wsX3_isSite) := goodIn_app (goodIn_of _ (by decide +kernel)) ggX3_at_X3_isSite
set_option maxRecDepth 20000 in
theorem ggX3_at_X3_isYear : GoodIn wsX3_at wsX3_isYear := goodIn_r _ [11, 6, 7, 4, 8] (by decide +kernel) (by decide +kernel)
set_option maxRecDepth 20000 in
theorem gX3_at_X3_isYear : GoodIn wsX3_at (va_wsS RX3 60 yX3_isYear wsX3_isYear) := goodIn_app (goodIn_of _ (by decide +kernel)) ggX3_at_X3_isYear
set_option maxRecDepth 20000 in
theorem ggX3_at_X3_goTo : GoodIn wsX3_at wsX3_goTo := goodIn_r _ [15, 16, 17, 18, 19, 4, 20, 1, 21, 22, 23, 24, 25, 26, 27, 28, 29, 30, 31, 32, 33, 34, 35, 36, 37] (by decide +kernel) (by decide +kernel)
set_option maxRecDepth 20000 in
theorem gX3_at_X3_goTo : GoodIn wsX3_at (wsV RX3 88 RX3 yX3_goTo wsX3_goTo) := goodIn_app (goodIn_of _ (by decide +kernel)) ggX3_at_X3_goTo
theorem dX3_at_0 : decode cX3_at 0 = .ok (.iload_n 1, 1) := by decide +kernel
theorem dX3_at_1 : decode cX3_at 1 = .ok (.invokestatic 85, 3) := by decide +kernel
theorem dX3_at_4 : decode cX3_at 4 = .ok (.ifCond .ne 5, 3) := by decide +kernel
theorem dX3_at_7 : decode cX3_at 7 = .ok (.iconst (-1), 1) := by decide +kernel
theorem dX3_at_8 : decode cX3_at 8 = .ok (.ireturn, 1) := by decide +kernel
theorem dX3_at_9 : decode cX3_at 9 = .ok (.iload_n 2, 1) := by decide +kernel
theorem dX3_at_10 : decode cX3_at 10 = .ok (.invokestatic 60, 3) := by decide +kernel
theorem dX3_at_13 : decode cX3_at 13 = .ok (.ifCond .ne 6, 3) := by decide +kernel
theorem dX3_at_16 : decode cX3_at 16 = .ok (.bipush (-2), 2) := by decide +kernel
theorem dX3_at_18 : decode cX3_at 18 = .ok (.ireturn, 1) := by decide +kernel
theorem dX3_at_19 : decode cX3_at 19 = .ok (.aload_n 0, 1) := by decide +kernel
theorem dX3_at_20 : decode cX3_at 20 = .ok (.iload_n 2, 1) := by decide +kernel
theorem dX3_at_21 : decode cX3_at 21 = .ok (.invokevirtual 88, 3) := by decide +kernel
theorem dX3_at_24 : decode cX3_at 24 = .ok (.aload_n 0, 1) := by decide +kernel
theorem dX3_at_25 : decode cX3_at 25 = .ok (.getfield 23, 3) := by decide +kernel
theorem dX3_at_28 : decode cX3_at 28 = .ok (.iload_n 1, 1) := by decide +kernel
theorem dX3_at_29 : decode cX3_at 29 = .ok (.iaload, 1) := by decide +kernel
theorem dX3_at_30 : decode cX3_at 30 = .ok (.ireturn, 1) := by decide +kernel
set_option maxRecDepth 20000 in
theorem ggX3_sites_X3_isParish : GoodIn wsX3_sites wsX3_isParish := goodIn_r _ [5, 6, 7, 8, 4, 9, 27, 28, 29, 30, 31, 32, 33, 34, 35, 36, 37, 38, 39, 40, 41, 42] (by decide +kernel) (by decide +kernel)
set_option maxRecDepth 20000 in
theorem gX3_sites_X3_isParish : GoodIn wsX3_sites (wsV RX3 56 RX3 yX3_isParish wsX3_isParish) := goodIn_app (goodIn_of _ (by decide +kernel)) ggX3_sites_X3_isParish
set_option maxRecDepth 20000 in
theorem ggX3_sites_X3_isYear : GoodIn wsX3_sites wsX3_isYear := goodIn_r _ [12, 7, 8, 4, 9] (by decide +kernel) (by decide +kernel)
set_option maxRecDepth 20000 in
theorem gX3_sites_X3_isYear : GoodIn wsX3_sites (va_wsS RX3 60 yX3_isYear wsX3_isYear) := goodIn_app (goodIn_of _ (by decide +kernel)) ggX3_sites_X3_isYear
set_option maxRecDepth 20000 in
theorem ggX3_sites_X3_goTo : GoodIn wsX3_sites wsX3_goTo := goodIn_r _ [16, 6, 17, 18, 19, 4, 20, 21, 22, 27, 28, 29, 30, 31, 32, 33, 34, 35, 36, 37, 38, 39, 40, 41, 42] (by decide +kernel) (by decide +kernel)
set_option maxRecDepth 20000 in
theorem gX3_sites_X3_goTo : GoodIn wsX3_sites (wsV RX3 88 RX3 yX3_goTo wsX3_goTo) := goodIn_app (goodIn_of _ (by decide +kernel)) ggX3_sites_X3_goTo
set_option maxRecDepth 20000 in
theorem ggX3_sites_X3_sitesOf : GoodIn wsX3_sites wsX3_sitesOf := goodIn_r _ [26, 21, 27, 28, 29, 30, 31, 32, 33, 34, 35, 36, 37, 38, 39, 40, 41, 42] (by decide +kernel) (by decide +kernel)
set_option maxRecDepth 20000 in
theorem gX3_sites_X3_sitesOf : GoodIn wsX3_sites (wsV RX3 70 RX3 yX3_sitesOf wsX3_sitesOf) := goodIn_app (goodIn_of _ (by decide +kernel)) ggX3_sites_X3_sitesOf
theorem dX3_sites_0 : decode cX3_sites 0 = .ok (.aload_n 0, 1) := by decide +kernel
theorem dX3_sites_1 : decode cX3_sites 1 = .ok (.iload_n 1, 1) := by decide +kernel
theorem dX3_sites_2 : decode cX3_sites 2 = .ok (.invokevirtual 56, 3) := by decide +kernel
theorem dX3_sites_5 : decode cX3_sites 5 = .ok (.ifCond .ne 5, 3) := by decide +kernel
theorem dX3_sites_8 : decode cX3_sites 8 = .ok (.iconst (-1), 1) := by decide +kernel
theorem dX3_sites_9 : decode cX3_sites 9 = .ok (.ireturn, 1) := by decide +kernel
theorem dX3_sites_10 : decode cX3_sites 10 = .ok (.iload_n 2, 1) := by decide +kernel
theorem dX3_sites_11 : decode cX3_sites 11 = .ok (.invokestatic 60, 3) := by decide +kernel
theorem dX3_sites_14 : decode cX3_sites 14 = .ok (.ifCond .ne 6, 3) := by decide +kernel
theorem dX3_sites_17 : decode cX3_sites 17 = .ok (.bipush (-2), 2) := by decide +kernel
theorem dX3_sites_19 : decode cX3_sites 19 = .ok (.ireturn, 1) := by decide +kernel
theorem dX3_sites_20 : decode cX3_sites 20 = .ok (.aload_n 0, 1) := by decide +kernel
theorem dX3_sites_21 : decode cX3_sites 21 = .ok (.iload_n 2, 1) := by decide +kernel
theorem dX3_sites_22 : decode cX3_sites 22 = .ok (.invokevirtual 88, 3) := by decide +kernel
theorem dX3_sites_25 : decode cX3_sites 25 = .ok (.aload_n 0, 1) := by decide +kernel
theorem dX3_sites_26 : decode cX3_sites 26 = .ok (.iload_n 1, 1) := by decide +kernel
theorem dX3_sites_27 : decode cX3_sites 27 = .ok (.invokevirtual 70, 3) := by decide +kernel
theorem dX3_sites_30 : decode cX3_sites 30 = .ok (.ireturn, 1) := by decide +kernel
set_option maxRecDepth 20000 in
theorem ggX3_letter_X3_isParish : GoodIn wsX3_letter wsX3_isParish := goodIn_r _ [5, 6, 7, 8, 4, 9, 35, 36, 37, 38, 39, 40, 41, 42, 43, 44, 45, 46, 47, 48, 49, 50] (by decide +kernel) (by decide +kernel)
set_option maxRecDepth 20000 in
theorem gX3_letter_X3_isParish : GoodIn wsX3_letter (wsV RX3 56 RX3 yX3_isParish wsX3_isParish) := goodIn_app (goodIn_of _ (by decide +kernel)) ggX3_letter_X3_isParish
set_option maxRecDepth 20000 in
theorem ggX3_letter_X3_isYear : GoodIn wsX3_letter wsX3_isYear := goodIn_r _ [12, 7, 8, 4, 9] (by decide +kernel) (by decide +kernel)
set_option maxRecDepth 20000 in
theorem gX3_letter_X3_isYear : GoodIn wsX3_letter (va_wsS RX3 60 yX3_isYear wsX3_isYear) := goodIn_app (goodIn_of _ (by decide +kernel)) ggX3_letter_X3_isYear
set_option maxRecDepth 20000 in
theorem ggX3_letter_X3_goTo : GoodIn wsX3_letter wsX3_goTo := goodIn_r _ [16, 6, 17, 18, 19, 4, 20, 21, 22, 35, 36, 37, 38, 39, 40, 41, 42, 43, 44, 45, 46, 47, 48, 49, 50] (by decide +kernel) (by decide +kernel)
set_option maxRecDepth 20000 in
theorem gX3_letter_X3_goTo : GoodIn wsX3_letter (wsV RX3 88 RX3 yX3_goTo wsX3_goTo) := goodIn_app (goodIn_of _ (by decide +kernel)) ggX3_letter_X3_goTo
set_option maxRecDepth 20000 in
theorem ggX3_letter_X3_sitesOf : GoodIn wsX3_letter wsX3_sitesOf := goodIn_r _ [26, 21, 35, 36, 37, 38, 39, 40, 41, 42, 43, 44, 45, 46, 47, 48, 49, 50] (by decide +kernel) (by decide +kernel)
set_option maxRecDepth 20000 in
theorem gX3_letter_X3_sitesOf : GoodIn wsX3_letter (wsV RX3 70 RX3 yX3_sitesOf wsX3_sitesOf) := goodIn_app (goodIn_of _ (by decide +kernel)) ggX3_letter_X3_sitesOf
set_option maxRecDepth 20000 in
theorem ggX3_letter_X3_lettersOf : GoodIn wsX3_letter wsX3_lettersOf := goodIn_r _ [30, 22, 6, 35, 36, 37, 38, 39, 40, 41, 42, 43, 44, 45, 46, 47, 48, 49, 50] (by decide +kernel) (by decide +kernel)
set_option maxRecDepth 20000 in
theorem gX3_letter_X3_lettersOf : GoodIn wsX3_letter (wsV RX3 91 RX3 yX3_lettersOf wsX3_lettersOf) := goodIn_app (goodIn_of _ (by decide +kernel)) ggX3_letter_X3_lettersOf
set_option maxRecDepth 20000 in
theorem ggX3_letter_X3_letterOf : GoodIn wsX3_letter wsX3_letterOf := goodIn_r _ [34, 22, 6, 35, 36, 37, 38, 39, 40, 41, 42, 43, 44, 45, 46, 47, 48, 49, 50] (by decide +kernel) (by decide +kernel)
set_option maxRecDepth 20000 in
theorem gX3_letter_X3_letterOf : GoodIn wsX3_letter (wsV RX3 94 RX3 yX3_letterOf wsX3_letterOf) := goodIn_app (goodIn_of _ (by decide +kernel)) ggX3_letter_X3_letterOf
theorem dX3_letter_0 : decode cX3_letter 0 = .ok (.aload_n 0, 1) := by decide +kernel
theorem dX3_letter_1 : decode cX3_letter 1 = .ok (.iload_n 1, 1) := by decide +kernel
theorem dX3_letter_2 : decode cX3_letter 2 = .ok (.invokevirtual 56, 3) := by decide +kernel
theorem dX3_letter_5 : decode cX3_letter 5 = .ok (.ifCond .ne 5, 3) := by decide +kernel
theorem dX3_letter_8 : decode cX3_letter 8 = .ok (.iconst (-1), 1) := by decide +kernel
theorem dX3_letter_9 : decode cX3_letter 9 = .ok (.ireturn, 1) := by decide +kernel
theorem dX3_letter_10 : decode cX3_letter 10 = .ok (.iload_n 2, 1) := by decide +kernel
theorem dX3_letter_11 : decode cX3_letter 11 = .ok (.invokestatic 60, 3) := by decide +kernel
theorem dX3_letter_14 : decode cX3_letter 14 = .ok (.ifCond .eq 8, 3) := by decide +kernel
theorem dX3_letter_17 : decode cX3_letter 17 = .ok (.iload_n 3, 1) := by decide +kernel
theorem dX3_letter_18 : decode cX3_letter 18 = .ok (.iconst (-1), 1) := by decide +kernel
theorem dX3_letter_19 : decode cX3_letter 19 = .ok (.if_icmp .ge 6, 3) := by decide +kernel
theorem dX3_letter_22 : decode cX3_letter 22 = .ok (.bipush (-2), 2) := by decide +kernel
theorem dX3_letter_24 : decode cX3_letter 24 = .ok (.ireturn, 1) := by decide +kernel
theorem dX3_letter_25 : decode cX3_letter 25 = .ok (.aload_n 0, 1) := by decide +kernel
theorem dX3_letter_26 : decode cX3_letter 26 = .ok (.iload_n 2, 1) := by decide +kernel
theorem dX3_letter_27 : decode cX3_letter 27 = .ok (.invokevirtual 88, 3) := by decide +kernel
theorem dX3_letter_30 : decode cX3_letter 30 = .ok (.aload_n 0, 1) := by decide +kernel
theorem dX3_letter_31 : decode cX3_letter 31 = .ok (.iload_n 1, 1) := by decide +kernel
theorem dX3_letter_32 : decode cX3_letter 32 = .ok (.invokevirtual 70, 3) := by decide +kernel
theorem dX3_letter_35 : decode cX3_letter 35 = .ok (.ifCond .eq 12, 3) := by decide +kernel
theorem dX3_letter_38 : decode cX3_letter 38 = .ok (.iload_n 3, 1) := by decide +kernel
theorem dX3_letter_39 : decode cX3_letter 39 = .ok (.aload_n 0, 1) := by decide +kernel
theorem dX3_letter_40 : decode cX3_letter 40 = .ok (.iload_n 1, 1) := by decide +kernel
theorem dX3_letter_41 : decode cX3_letter 41 = .ok (.invokevirtual 91, 3) := by decide +kernel
theorem dX3_letter_44 : decode cX3_letter 44 = .ok (.if_icmp .lt 6, 3) := by decide +kernel
theorem dX3_letter_47 : decode cX3_letter 47 = .ok (.bipush (-6), 2) := by decide +kernel
theorem dX3_letter_49 : decode cX3_letter 49 = .ok (.ireturn, 1) := by decide +kernel
theorem dX3_letter_50 : decode cX3_letter 50 = .ok (.iload_n 3, 1) := by decide +kernel
theorem dX3_letter_51 : decode cX3_letter 51 = .ok (.iconst (-1), 1) := by decide +kernel
theorem dX3_letter_52 : decode cX3_letter 52 = .ok (.if_icmp .ne 11, 3) := by decide +kernel
theorem dX3_letter_55 : decode cX3_letter 55 = .ok (.aload_n 0, 1) := by decide +kernel
theorem dX3_letter_56 : decode cX3_letter 56 = .ok (.iload_n 1, 1) := by decide +kernel
theorem dX3_letter_57 : decode cX3_letter 57 = .ok (.invokevirtual 91, 3) := by decide +kernel
theorem dX3_letter_60 : decode cX3_letter 60 = .ok (.goto 9, 3) := by decide +kernel
theorem dX3_letter_63 : decode cX3_letter 63 = .ok (.aload_n 0, 1) := by decide +kernel
theorem dX3_letter_64 : decode cX3_letter 64 = .ok (.iload_n 1, 1) := by decide +kernel
theorem dX3_letter_65 : decode cX3_letter 65 = .ok (.iload_n 3, 1) := by decide +kernel
theorem dX3_letter_66 : decode cX3_letter 66 = .ok (.invokevirtual 94, 3) := by decide +kernel
theorem dX3_letter_69 : decode cX3_letter 69 = .ok (.ireturn, 1) := by decide +kernel
theorem dX3_classOf_0 : decode cX3_classOf 0 = .ok (.iload_n 0, 1) := by decide +kernel
theorem dX3_classOf_1 : decode cX3_classOf 1 = .ok (.tableswitch 128 97 121 #[126, 115, 128, 117, 126, 115, 128, 126, 126, 128, 128, 119, 121, 121, 126, 115, 128, 123, 128, 117, 126, 115, 126, 128, 126], 115) := by decide +kernel
theorem dX3_classOf_116 : decode cX3_classOf 116 = .ok (.iconst 1, 1) := by decide +kernel
theorem dX3_classOf_117 : decode cX3_classOf 117 = .ok (.ireturn, 1) := by decide +kernel
theorem dX3_classOf_118 : decode cX3_classOf 118 = .ok (.iconst 3, 1) := by decide +kernel
theorem dX3_classOf_119 : decode cX3_classOf 119 = .ok (.ireturn, 1) := by decide +kernel
theorem dX3_classOf_120 : decode cX3_classOf 120 = .ok (.iconst 4, 1) := by decide +kernel
theorem dX3_classOf_121 : decode cX3_classOf 121 = .ok (.ireturn, 1) := by decide +kernel
theorem dX3_classOf_122 : decode cX3_classOf 122 = .ok (.iconst 5, 1) := by decide +kernel
theorem dX3_classOf_123 : decode cX3_classOf 123 = .ok (.ireturn, 1) := by decide +kernel
theorem dX3_classOf_124 : decode cX3_classOf 124 = .ok (.bipush 6, 2) := by decide +kernel
theorem dX3_classOf_126 : decode cX3_classOf 126 = .ok (.ireturn, 1) := by decide +kernel
theorem dX3_classOf_127 : decode cX3_classOf 127 = .ok (.iconst 0, 1) := by decide +kernel
theorem dX3_classOf_128 : decode cX3_classOf 128 = .ok (.ireturn, 1) := by decide +kernel
theorem dX3_classOf_129 : decode cX3_classOf 129 = .ok (.iconst 2, 1) := by decide +kernel
theorem dX3_classOf_130 : decode cX3_classOf 130 = .ok (.ireturn, 1) := by decide +kernel
set_option maxRecDepth 20000 in
theorem ggX3_laySound_X3_classOf : GoodIn wsX3_laySound wsX3_classOf := goodIn_r _ [4] (by decide +kernel) (by decide +kernel)
set_option maxRecDepth 20000 in
theorem gX3_laySound_X3_classOf : GoodIn wsX3_laySound (va_wsS RX3 98 yX3_classOf wsX3_classOf) := goodIn_app (goodIn_of _ (by decide +kernel)) ggX3_laySound_X3_classOf
theorem dX3_laySound_0 : decode cX3_laySound 0 = .ok (.iconst 0, 1) := by decide +kernel
theorem dX3_laySound_1 : decode cX3_laySound 1 = .ok (.istore_n 3, 1) := by decide +kernel
theorem dX3_laySound_2 : decode cX3_laySound 2 = .ok (.iconst 0, 1) := by decide +kernel
theorem dX3_laySound_3 : decode cX3_laySound 3 = .ok (.istore 4, 2) := by decide +kernel
theorem dX3_laySound_5 : decode cX3_laySound 5 = .ok (.iload 4, 2) := by decide +kernel
theorem dX3_laySound_7 : decode cX3_laySound 7 = .ok (.iload_n 1, 1) := by decide +kernel
theorem dX3_laySound_8 : decode cX3_laySound 8 = .ok (.if_icmp .ge 55, 3) := by decide +kernel
theorem dX3_laySound_11 : decode cX3_laySound 11 = .ok (.iload_n 3, 1) := by decide +kernel
theorem dX3_laySound_12 : decode cX3_laySound 12 = .ok (.iconst 4, 1) := by decide +kernel
theorem dX3_laySound_13 : decode cX3_laySound 13 = .ok (.if_icmp .ge 50, 3) := by decide +kernel
theorem dX3_laySound_16 : decode cX3_laySound 16 = .ok (.aload_n 0, 1) := by decide +kernel
theorem dX3_laySound_17 : decode cX3_laySound 17 = .ok (.iload 4, 2) := by decide +kernel
theorem dX3_laySound_19 : decode cX3_laySound 19 = .ok (.iaload, 1) := by decide +kernel
theorem dX3_laySound_20 : decode cX3_laySound 20 = .ok (.invokestatic 98, 3) := by decide +kernel
theorem dX3_laySound_23 : decode cX3_laySound 23 = .ok (.istore 5, 2) := by decide +kernel
theorem dX3_laySound_25 : decode cX3_laySound 25 = .ok (.iload 4, 2) := by decide +kernel
theorem dX3_laySound_27 : decode cX3_laySound 27 = .ok (.ifCond .eq 22, 3) := by decide +kernel
theorem dX3_laySound_30 : decode cX3_laySound 30 = .ok (.iload 5, 2) := by decide +kernel
theorem dX3_laySound_32 : decode cX3_laySound 32 = .ok (.ifCond .eq 25, 3) := by decide +kernel
theorem dX3_laySound_35 : decode cX3_laySound 35 = .ok (.iload 5, 2) := by decide +kernel
theorem dX3_laySound_37 : decode cX3_laySound 37 = .ok (.aload_n 0, 1) := by decide +kernel
theorem dX3_laySound_38 : decode cX3_laySound 38 = .ok (.iload 4, 2) := by decide +kernel
theorem dX3_laySound_40 : decode cX3_laySound 40 = .ok (.iconst 1, 1) := by decide +kernel
theorem dX3_laySound_41 : decode cX3_laySound 41 = .ok (.isub, 1) := by decide +kernel
theorem dX3_laySound_42 : decode cX3_laySound 42 = .ok (.iaload, 1) := by decide +kernel
theorem dX3_laySound_43 : decode cX3_laySound 43 = .ok (.invokestatic 98, 3) := by decide +kernel
theorem dX3_laySound_46 : decode cX3_laySound 46 = .ok (.if_icmp .eq 11, 3) := by decide +kernel
theorem dX3_laySound_49 : decode cX3_laySound 49 = .ok (.aload_n 2, 1) := by decide +kernel
theorem dX3_laySound_50 : decode cX3_laySound 50 = .ok (.iload_n 3, 1) := by decide +kernel
theorem dX3_laySound_51 : decode cX3_laySound 51 = .ok (.iload 5, 2) := by decide +kernel
theorem dX3_laySound_53 : decode cX3_laySound 53 = .ok (.iastore, 1) := by decide +kernel
theorem dX3_laySound_54 : decode cX3_laySound 54 = .ok (.iinc 3 1, 3) := by decide +kernel
theorem dX3_laySound_57 : decode cX3_laySound 57 = .ok (.iinc 4 1, 3) := by decide +kernel
theorem dX3_laySound_60 : decode cX3_laySound 60 = .ok (.goto (-55), 3) := by decide +kernel
theorem dX3_laySound_63 : decode cX3_laySound 63 = .ok (.iload_n 3, 1) := by decide +kernel
theorem dX3_laySound_64 : decode cX3_laySound 64 = .ok (.ireturn, 1) := by decide +kernel
set_option maxRecDepth 20000 in
theorem ggX3_layFirst_X3_lettersOf : GoodIn wsX3_layFirst wsX3_lettersOf := goodIn_r _ [9, 10, 11, 22, 23, 24, 25, 26, 27, 28, 29, 30, 31, 32, 33, 34, 35, 36, 37] (by decide +kernel) (by decide +kernel)
set_option maxRecDepth 20000 in
theorem gX3_layFirst_X3_lettersOf : GoodIn wsX3_layFirst (wsV RX3 91 RX3 yX3_lettersOf wsX3_lettersOf) := goodIn_app (goodIn_of _ (by decide +kernel)) ggX3_layFirst_X3_lettersOf
set_option maxRecDepth 20000 in
theorem ggX3_layFirst_X3_letterOf : GoodIn wsX3_layFirst wsX3_letterOf := goodIn_r _ [15, 10, 11, 22, 23, 24, 25, 26, 27, 28, 29, 30, 31, 32, 33, 34, 35, 36, 37] (by decide +kernel) (by decide +kernel)
set_option maxRecDepth 20000 in
theorem gX3_layFirst_X3_letterOf : GoodIn wsX3_layFirst (wsV RX3 94 RX3 yX3_letterOf wsX3_letterOf) := goodIn_app (goodIn_of _ (by decide +kernel)) ggX3_layFirst_X3_letterOf
set_option maxRecDepth 20000 in
theorem ggX3_layFirst_X3_laySound : GoodIn wsX3_layFirst wsX3_laySound := goodIn_r _ [18, 19, 20, 8, 21] (by decide +kernel) (by decide +kernel)
set_option maxRecDepth 20000 in
theorem gX3_layFirst_X3_laySound : GoodIn wsX3_layFirst (va_wsS RX3 104 yX3_laySound wsX3_laySound) := goodIn_app (goodIn_of _ (by decide +kernel)) ggX3_layFirst_X3_laySound
theorem dX3_layFirst_0 : decode cX3_layFirst 0 = .ok (.aload_n 0, 1) := by decide +kernel
theorem dX3_layFirst_1 : decode cX3_layFirst 1 = .ok (.aload_n 0, 1) := by decide +kernel
theorem dX3_layFirst_2 : decode cX3_layFirst 2 = .ok (.iload_n 1, 1) := by decide +kernel
theorem dX3_layFirst_3 : decode cX3_layFirst 3 = .ok (.invokevirtual 91, 3) := by decide +kernel
theorem dX3_layFirst_6 : decode cX3_layFirst 6 = .ok (.putfield 101, 3) := by decide +kernel
theorem dX3_layFirst_9 : decode cX3_layFirst 9 = .ok (.iconst 0, 1) := by decide +kernel
theorem dX3_layFirst_10 : decode cX3_layFirst 10 = .ok (.istore_n 2, 1) := by decide +kernel
theorem dX3_layFirst_11 : decode cX3_layFirst 11 = .ok (.iload_n 2, 1) := by decide +kernel
theorem dX3_layFirst_12 : decode cX3_layFirst 12 = .ok (.aload_n 0, 1) := by decide +kernel
theorem dX3_layFirst_13 : decode cX3_layFirst 13 = .ok (.getfield 101, 3) := by decide +kernel
theorem dX3_layFirst_16 : decode cX3_layFirst 16 = .ok (.if_icmp .ge 21, 3) := by decide +kernel
theorem dX3_layFirst_19 : decode cX3_layFirst 19 = .ok (.aload_n 0, 1) := by decide +kernel
theorem dX3_layFirst_20 : decode cX3_layFirst 20 = .ok (.getfield 29, 3) := by decide +kernel
theorem dX3_layFirst_23 : decode cX3_layFirst 23 = .ok (.iload_n 2, 1) := by decide +kernel
theorem dX3_layFirst_24 : decode cX3_layFirst 24 = .ok (.aload_n 0, 1) := by decide +kernel
theorem dX3_layFirst_25 : decode cX3_layFirst 25 = .ok (.iload_n 1, 1) := by decide +kernel
theorem dX3_layFirst_26 : decode cX3_layFirst 26 = .ok (.iload_n 2, 1) := by decide +kernel
theorem dX3_layFirst_27 : decode cX3_layFirst 27 = .ok (.invokevirtual 94, 3) := by decide +kernel
theorem dX3_layFirst_30 : decode cX3_layFirst 30 = .ok (.iastore, 1) := by decide +kernel
theorem dX3_layFirst_31 : decode cX3_layFirst 31 = .ok (.iinc 2 1, 3) := by decide +kernel
theorem dX3_layFirst_34 : decode cX3_layFirst 34 = .ok (.goto (-23), 3) := by decide +kernel
theorem dX3_layFirst_37 : decode cX3_layFirst 37 = .ok (.aload_n 0, 1) := by decide +kernel
theorem dX3_layFirst_38 : decode cX3_layFirst 38 = .ok (.aload_n 0, 1) := by decide +kernel
theorem dX3_layFirst_39 : decode cX3_layFirst 39 = .ok (.getfield 29, 3) := by decide +kernel
theorem dX3_layFirst_42 : decode cX3_layFirst 42 = .ok (.aload_n 0, 1) := by decide +kernel
theorem dX3_layFirst_43 : decode cX3_layFirst 43 = .ok (.getfield 101, 3) := by decide +kernel
theorem dX3_layFirst_46 : decode cX3_layFirst 46 = .ok (.aload_n 0, 1) := by decide +kernel
theorem dX3_layFirst_47 : decode cX3_layFirst 47 = .ok (.getfield 35, 3) := by decide +kernel
theorem dX3_layFirst_50 : decode cX3_layFirst 50 = .ok (.invokestatic 104, 3) := by decide +kernel
theorem dX3_layFirst_53 : decode cX3_layFirst 53 = .ok (.putfield 108, 3) := by decide +kernel
theorem dX3_layFirst_56 : decode cX3_layFirst 56 = .ok (.return_, 1) := by decide +kernel
set_option maxRecDepth 20000 in
theorem ggX3_layPad_X3_laySound : GoodIn wsX3_layPad wsX3_laySound := goodIn_r _ [10, 11, 12, 9, 13] (by decide +kernel) (by decide +kernel)
set_option maxRecDepth 20000 in
theorem gX3_layPad_X3_laySound : GoodIn wsX3_layPad (va_wsS RX3 104 yX3_laySound wsX3_laySound) := goodIn_app (goodIn_of _ (by decide +kernel)) ggX3_layPad_X3_laySound
theorem dX3_layPad_0 : decode cX3_layPad 0 = .ok (.aload_n 0, 1) := by decide +kernel
theorem dX3_layPad_1 : decode cX3_layPad 1 = .ok (.aload_n 0, 1) := by decide +kernel
theorem dX3_layPad_2 : decode cX3_layPad 2 = .ok (.getfield 48, 3) := by decide +kernel
theorem dX3_layPad_5 : decode cX3_layPad 5 = .ok (.putfield 111, 3) := by decide +kernel
theorem dX3_layPad_8 : decode cX3_layPad 8 = .ok (.iconst 0, 1) := by decide +kernel
theorem dX3_layPad_9 : decode cX3_layPad 9 = .ok (.istore_n 1, 1) := by decide +kernel
theorem dX3_layPad_10 : decode cX3_layPad 10 = .ok (.iload_n 1, 1) := by decide +kernel
theorem dX3_layPad_11 : decode cX3_layPad 11 = .ok (.aload_n 0, 1) := by decide +kernel
theorem dX3_layPad_12 : decode cX3_layPad 12 = .ok (.getfield 48, 3) := by decide +kernel
theorem dX3_layPad_15 : decode cX3_layPad 15 = .ok (.if_icmp .ge 21, 3) := by decide +kernel
theorem dX3_layPad_18 : decode cX3_layPad 18 = .ok (.aload_n 0, 1) := by decide +kernel
theorem dX3_layPad_19 : decode cX3_layPad 19 = .ok (.getfield 32, 3) := by decide +kernel
theorem dX3_layPad_22 : decode cX3_layPad 22 = .ok (.iload_n 1, 1) := by decide +kernel
theorem dX3_layPad_23 : decode cX3_layPad 23 = .ok (.aload_n 0, 1) := by decide +kernel
theorem dX3_layPad_24 : decode cX3_layPad 24 = .ok (.getfield 20, 3) := by decide +kernel
theorem dX3_layPad_27 : decode cX3_layPad 27 = .ok (.iload_n 1, 1) := by decide +kernel
theorem dX3_layPad_28 : decode cX3_layPad 28 = .ok (.iaload, 1) := by decide +kernel
theorem dX3_layPad_29 : decode cX3_layPad 29 = .ok (.iastore, 1) := by decide +kernel
theorem dX3_layPad_30 : decode cX3_layPad 30 = .ok (.iinc 1 1, 3) := by decide +kernel
theorem dX3_layPad_33 : decode cX3_layPad 33 = .ok (.goto (-23), 3) := by decide +kernel
theorem dX3_layPad_36 : decode cX3_layPad 36 = .ok (.aload_n 0, 1) := by decide +kernel
theorem dX3_layPad_37 : decode cX3_layPad 37 = .ok (.aload_n 0, 1) := by decide +kernel
theorem dX3_layPad_38 : decode cX3_layPad 38 = .ok (.getfield 32, 3) := by decide +kernel
theorem dX3_layPad_41 : decode cX3_layPad 41 = .ok (.aload_n 0, 1) := by decide +kernel
theorem dX3_layPad_42 : decode cX3_layPad 42 = .ok (.getfield 111, 3) := by decide +kernel
theorem dX3_layPad_45 : decode cX3_layPad 45 = .ok (.aload_n 0, 1) := by decide +kernel
theorem dX3_layPad_46 : decode cX3_layPad 46 = .ok (.getfield 38, 3) := by decide +kernel
theorem dX3_layPad_49 : decode cX3_layPad 49 = .ok (.invokestatic 104, 3) := by decide +kernel
theorem dX3_layPad_52 : decode cX3_layPad 52 = .ok (.putfield 114, 3) := by decide +kernel
theorem dX3_layPad_55 : decode cX3_layPad 55 = .ok (.return_, 1) := by decide +kernel
theorem dX3_areSame_0 : decode cX3_areSame 0 = .ok (.aload_n 0, 1) := by decide +kernel
theorem dX3_areSame_1 : decode cX3_areSame 1 = .ok (.getfield 101, 3) := by decide +kernel
theorem dX3_areSame_4 : decode cX3_areSame 4 = .ok (.aload_n 0, 1) := by decide +kernel
end
section
theorem dX3_areSame_5 : decode cX3_areSame 5 = .ok (.getfield 111, 3) := by decide +kernel
theorem dX3_areSame_8 : decode cX3_areSame 8 = .ok (.if_icmp .ne 7, 3) := by decide +kernel
theorem dX3_areSame_11 : decode cX3_areSame 11 = .ok (.iconst 1, 1) := by decide +kernel
theorem dX3_areSame_12 : decode cX3_areSame 12 = .ok (.goto 4, 3) := by decide +kernel
theorem dX3_areSame_15 : decode cX3_areSame 15 = .ok (.iconst 0, 1) := by decide +kernel
theorem dX3_areSame_16 : decode cX3_areSame 16 = .ok (.istore_n 1, 1) := by decide +kernel
theorem dX3_areSame_17 : decode cX3_areSame 17 = .ok (.iconst 0, 1) := by decide +kernel
theorem dX3_areSame_18 : decode cX3_areSame 18 = .ok (.istore_n 2, 1) := by decide +kernel
theorem dX3_areSame_19 : decode cX3_areSame 19 = .ok (.iload_n 2, 1) := by decide +kernel
theorem dX3_areSame_20 : decode cX3_areSame 20 = .ok (.aload_n 0, 1) := by decide +kernel
theorem dX3_areSame_21 : decode cX3_areSame 21 = .ok (.getfield 101, 3) := by decide +kernel
theorem dX3_areSame_24 : decode cX3_areSame 24 = .ok (.if_icmp .ge 34, 3) := by decide +kernel
theorem dX3_areSame_27 : decode cX3_areSame 27 = .ok (.iload_n 1, 1) := by decide +kernel
theorem dX3_areSame_28 : decode cX3_areSame 28 = .ok (.ifCond .eq 30, 3) := by decide +kernel
theorem dX3_areSame_31 : decode cX3_areSame 31 = .ok (.aload_n 0, 1) := by decide +kernel
theorem dX3_areSame_32 : decode cX3_areSame 32 = .ok (.getfield 29, 3) := by decide +kernel
theorem dX3_areSame_35 : decode cX3_areSame 35 = .ok (.iload_n 2, 1) := by decide +kernel
theorem dX3_areSame_36 : decode cX3_areSame 36 = .ok (.iaload, 1) := by decide +kernel
theorem dX3_areSame_37 : decode cX3_areSame 37 = .ok (.aload_n 0, 1) := by decide +kernel
theorem dX3_areSame_38 : decode cX3_areSame 38 = .ok (.getfield 32, 3) := by decide +kernel
theorem dX3_areSame_41 : decode cX3_areSame 41 = .ok (.iload_n 2, 1) := by decide +kernel
theorem dX3_areSame_42 : decode cX3_areSame 42 = .ok (.iaload, 1) := by decide +kernel
theorem dX3_areSame_43 : decode cX3_areSame 43 = .ok (.if_icmp .ne 7, 3) := by decide +kernel
theorem dX3_areSame_46 : decode cX3_areSame 46 = .ok (.iconst 1, 1) := by decide +kernel
theorem dX3_areSame_47 : decode cX3_areSame 47 = .ok (.goto 4, 3) := by decide +kernel
theorem dX3_areSame_50 : decode cX3_areSame 50 = .ok (.iconst 0, 1) := by decide +kernel
theorem dX3_areSame_51 : decode cX3_areSame 51 = .ok (.istore_n 1, 1) := by decide +kernel
theorem dX3_areSame_52 : decode cX3_areSame 52 = .ok (.iinc 2 1, 3) := by decide +kernel
theorem dX3_areSame_55 : decode cX3_areSame 55 = .ok (.goto (-36), 3) := by decide +kernel
theorem dX3_areSame_58 : decode cX3_areSame 58 = .ok (.iload_n 1, 1) := by decide +kernel
theorem dX3_areSame_59 : decode cX3_areSame 59 = .ok (.ireturn, 1) := by decide +kernel
theorem dX3_soundSame_0 : decode cX3_soundSame 0 = .ok (.aload_n 0, 1) := by decide +kernel
theorem dX3_soundSame_1 : decode cX3_soundSame 1 = .ok (.getfield 108, 3) := by decide +kernel
theorem dX3_soundSame_4 : decode cX3_soundSame 4 = .ok (.aload_n 0, 1) := by decide +kernel
theorem dX3_soundSame_5 : decode cX3_soundSame 5 = .ok (.getfield 114, 3) := by decide +kernel
theorem dX3_soundSame_8 : decode cX3_soundSame 8 = .ok (.if_icmp .ne 7, 3) := by decide +kernel
theorem dX3_soundSame_11 : decode cX3_soundSame 11 = .ok (.iconst 1, 1) := by decide +kernel
theorem dX3_soundSame_12 : decode cX3_soundSame 12 = .ok (.goto 4, 3) := by decide +kernel
theorem dX3_soundSame_15 : decode cX3_soundSame 15 = .ok (.iconst 0, 1) := by decide +kernel
theorem dX3_soundSame_16 : decode cX3_soundSame 16 = .ok (.istore_n 1, 1) := by decide +kernel
theorem dX3_soundSame_17 : decode cX3_soundSame 17 = .ok (.iconst 0, 1) := by decide +kernel
theorem dX3_soundSame_18 : decode cX3_soundSame 18 = .ok (.istore_n 2, 1) := by decide +kernel
theorem dX3_soundSame_19 : decode cX3_soundSame 19 = .ok (.iload_n 2, 1) := by decide +kernel
theorem dX3_soundSame_20 : decode cX3_soundSame 20 = .ok (.aload_n 0, 1) := by decide +kernel
theorem dX3_soundSame_21 : decode cX3_soundSame 21 = .ok (.getfield 108, 3) := by decide +kernel
theorem dX3_soundSame_24 : decode cX3_soundSame 24 = .ok (.if_icmp .ge 34, 3) := by decide +kernel
theorem dX3_soundSame_27 : decode cX3_soundSame 27 = .ok (.iload_n 1, 1) := by decide +kernel
theorem dX3_soundSame_28 : decode cX3_soundSame 28 = .ok (.ifCond .eq 30, 3) := by decide +kernel
theorem dX3_soundSame_31 : decode cX3_soundSame 31 = .ok (.aload_n 0, 1) := by decide +kernel
theorem dX3_soundSame_32 : decode cX3_soundSame 32 = .ok (.getfield 35, 3) := by decide +kernel
theorem dX3_soundSame_35 : decode cX3_soundSame 35 = .ok (.iload_n 2, 1) := by decide +kernel
theorem dX3_soundSame_36 : decode cX3_soundSame 36 = .ok (.iaload, 1) := by decide +kernel
theorem dX3_soundSame_37 : decode cX3_soundSame 37 = .ok (.aload_n 0, 1) := by decide +kernel
theorem dX3_soundSame_38 : decode cX3_soundSame 38 = .ok (.getfield 38, 3) := by decide +kernel
theorem dX3_soundSame_41 : decode cX3_soundSame 41 = .ok (.iload_n 2, 1) := by decide +kernel
theorem dX3_soundSame_42 : decode cX3_soundSame 42 = .ok (.iaload, 1) := by decide +kernel
theorem dX3_soundSame_43 : decode cX3_soundSame 43 = .ok (.if_icmp .ne 7, 3) := by decide +kernel
theorem dX3_soundSame_46 : decode cX3_soundSame 46 = .ok (.iconst 1, 1) := by decide +kernel
theorem dX3_soundSame_47 : decode cX3_soundSame 47 = .ok (.goto 4, 3) := by decide +kernel
theorem dX3_soundSame_50 : decode cX3_soundSame 50 = .ok (.iconst 0, 1) := by decide +kernel
theorem dX3_soundSame_51 : decode cX3_soundSame 51 = .ok (.istore_n 1, 1) := by decide +kernel
theorem dX3_soundSame_52 : decode cX3_soundSame 52 = .ok (.iinc 2 1, 3) := by decide +kernel
theorem dX3_soundSame_55 : decode cX3_soundSame 55 = .ok (.goto (-36), 3) := by decide +kernel
theorem dX3_soundSame_58 : decode cX3_soundSame 58 = .ok (.iload_n 1, 1) := by decide +kernel
theorem dX3_soundSame_59 : decode cX3_soundSame 59 = .ok (.ireturn, 1) := by decide +kernel
theorem dX3_least_0 : decode cX3_least 0 = .ok (.iload_n 0, 1) := by decide +kernel
theorem dX3_least_1 : decode cX3_least 1 = .ok (.iload_n 1, 1) := by decide +kernel
theorem dX3_least_2 : decode cX3_least 2 = .ok (.if_icmp .ge 7, 3) := by decide +kernel
theorem dX3_least_5 : decode cX3_least 5 = .ok (.iload_n 0, 1) := by decide +kernel
theorem dX3_least_6 : decode cX3_least 6 = .ok (.goto 4, 3) := by decide +kernel
theorem dX3_least_9 : decode cX3_least 9 = .ok (.iload_n 1, 1) := by decide +kernel
theorem dX3_least_10 : decode cX3_least 10 = .ok (.istore_n 3, 1) := by decide +kernel
theorem dX3_least_11 : decode cX3_least 11 = .ok (.iload_n 3, 1) := by decide +kernel
theorem dX3_least_12 : decode cX3_least 12 = .ok (.iload_n 2, 1) := by decide +kernel
theorem dX3_least_13 : decode cX3_least 13 = .ok (.if_icmp .ge 7, 3) := by decide +kernel
theorem dX3_least_16 : decode cX3_least 16 = .ok (.iload_n 3, 1) := by decide +kernel
theorem dX3_least_17 : decode cX3_least 17 = .ok (.goto 4, 3) := by decide +kernel
theorem dX3_least_20 : decode cX3_least 20 = .ok (.iload_n 2, 1) := by decide +kernel
theorem dX3_least_21 : decode cX3_least 21 = .ok (.ireturn, 1) := by decide +kernel
set_option maxRecDepth 20000 in
theorem ggX3_offNow_X3_least : GoodIn wsX3_offNow wsX3_least := goodIn_r _ [9] (by decide +kernel) (by decide +kernel)
set_option maxRecDepth 20000 in
theorem gX3_offNow_X3_least : GoodIn wsX3_offNow (va_wsS RX3 117 yX3_least wsX3_least) := goodIn_app (goodIn_of _ (by decide +kernel)) ggX3_offNow_X3_least
theorem dX3_offNow_0 : decode cX3_offNow 0 = .ok (.iconst 0, 1) := by decide +kernel
theorem dX3_offNow_1 : decode cX3_offNow 1 = .ok (.istore_n 1, 1) := by decide +kernel
theorem dX3_offNow_2 : decode cX3_offNow 2 = .ok (.iload_n 1, 1) := by decide +kernel
theorem dX3_offNow_3 : decode cX3_offNow 3 = .ok (.aload_n 0, 1) := by decide +kernel
theorem dX3_offNow_4 : decode cX3_offNow 4 = .ok (.getfield 101, 3) := by decide +kernel
theorem dX3_offNow_7 : decode cX3_offNow 7 = .ok (.if_icmp .gt 120, 3) := by decide +kernel
theorem dX3_offNow_10 : decode cX3_offNow 10 = .ok (.iconst 0, 1) := by decide +kernel
theorem dX3_offNow_11 : decode cX3_offNow 11 = .ok (.istore_n 2, 1) := by decide +kernel
theorem dX3_offNow_12 : decode cX3_offNow 12 = .ok (.iload_n 2, 1) := by decide +kernel
theorem dX3_offNow_13 : decode cX3_offNow 13 = .ok (.aload_n 0, 1) := by decide +kernel
theorem dX3_offNow_14 : decode cX3_offNow 14 = .ok (.getfield 111, 3) := by decide +kernel
theorem dX3_offNow_17 : decode cX3_offNow 17 = .ok (.if_icmp .gt 104, 3) := by decide +kernel
theorem dX3_offNow_20 : decode cX3_offNow 20 = .ok (.bipush 9, 2) := by decide +kernel
theorem dX3_offNow_22 : decode cX3_offNow 22 = .ok (.iload_n 1, 1) := by decide +kernel
theorem dX3_offNow_23 : decode cX3_offNow 23 = .ok (.imul, 1) := by decide +kernel
theorem dX3_offNow_24 : decode cX3_offNow 24 = .ok (.iload_n 2, 1) := by decide +kernel
theorem dX3_offNow_25 : decode cX3_offNow 25 = .ok (.iadd, 1) := by decide +kernel
theorem dX3_offNow_26 : decode cX3_offNow 26 = .ok (.istore_n 3, 1) := by decide +kernel
theorem dX3_offNow_27 : decode cX3_offNow 27 = .ok (.iload_n 1, 1) := by decide +kernel
theorem dX3_offNow_28 : decode cX3_offNow 28 = .ok (.ifCond .eq 7, 3) := by decide +kernel
theorem dX3_offNow_31 : decode cX3_offNow 31 = .ok (.iload_n 2, 1) := by decide +kernel
theorem dX3_offNow_32 : decode cX3_offNow 32 = .ok (.ifCond .ne 15, 3) := by decide +kernel
theorem dX3_offNow_35 : decode cX3_offNow 35 = .ok (.aload_n 0, 1) := by decide +kernel
theorem dX3_offNow_36 : decode cX3_offNow 36 = .ok (.getfield 41, 3) := by decide +kernel
theorem dX3_offNow_39 : decode cX3_offNow 39 = .ok (.iload_n 3, 1) := by decide +kernel
theorem dX3_offNow_40 : decode cX3_offNow 40 = .ok (.iload_n 1, 1) := by decide +kernel
theorem dX3_offNow_41 : decode cX3_offNow 41 = .ok (.iload_n 2, 1) := by decide +kernel
theorem dX3_offNow_42 : decode cX3_offNow 42 = .ok (.iadd, 1) := by decide +kernel
theorem dX3_offNow_43 : decode cX3_offNow 43 = .ok (.iastore, 1) := by decide +kernel
theorem dX3_offNow_44 : decode cX3_offNow 44 = .ok (.goto 71, 3) := by decide +kernel
theorem dX3_offNow_47 : decode cX3_offNow 47 = .ok (.aload_n 0, 1) := by decide +kernel
theorem dX3_offNow_48 : decode cX3_offNow 48 = .ok (.getfield 29, 3) := by decide +kernel
theorem dX3_offNow_51 : decode cX3_offNow 51 = .ok (.iload_n 1, 1) := by decide +kernel
theorem dX3_offNow_52 : decode cX3_offNow 52 = .ok (.iconst 1, 1) := by decide +kernel
theorem dX3_offNow_53 : decode cX3_offNow 53 = .ok (.isub, 1) := by decide +kernel
theorem dX3_offNow_54 : decode cX3_offNow 54 = .ok (.iaload, 1) := by decide +kernel
theorem dX3_offNow_55 : decode cX3_offNow 55 = .ok (.aload_n 0, 1) := by decide +kernel
theorem dX3_offNow_56 : decode cX3_offNow 56 = .ok (.getfield 32, 3) := by decide +kernel
theorem dX3_offNow_59 : decode cX3_offNow 59 = .ok (.iload_n 2, 1) := by decide +kernel
theorem dX3_offNow_60 : decode cX3_offNow 60 = .ok (.iconst 1, 1) := by decide +kernel
theorem dX3_offNow_61 : decode cX3_offNow 61 = .ok (.isub, 1) := by decide +kernel
theorem dX3_offNow_62 : decode cX3_offNow 62 = .ok (.iaload, 1) := by decide +kernel
theorem dX3_offNow_63 : decode cX3_offNow 63 = .ok (.if_icmp .ne 7, 3) := by decide +kernel
theorem dX3_offNow_66 : decode cX3_offNow 66 = .ok (.iconst 0, 1) := by decide +kernel
theorem dX3_offNow_67 : decode cX3_offNow 67 = .ok (.goto 4, 3) := by decide +kernel
theorem dX3_offNow_70 : decode cX3_offNow 70 = .ok (.iconst 1, 1) := by decide +kernel
theorem dX3_offNow_71 : decode cX3_offNow 71 = .ok (.istore 4, 2) := by decide +kernel
theorem dX3_offNow_73 : decode cX3_offNow 73 = .ok (.aload_n 0, 1) := by decide +kernel
theorem dX3_offNow_74 : decode cX3_offNow 74 = .ok (.getfield 41, 3) := by decide +kernel
theorem dX3_offNow_77 : decode cX3_offNow 77 = .ok (.iload_n 3, 1) := by decide +kernel
theorem dX3_offNow_78 : decode cX3_offNow 78 = .ok (.aload_n 0, 1) := by decide +kernel
theorem dX3_offNow_79 : decode cX3_offNow 79 = .ok (.getfield 41, 3) := by decide +kernel
theorem dX3_offNow_82 : decode cX3_offNow 82 = .ok (.iload_n 3, 1) := by decide +kernel
theorem dX3_offNow_83 : decode cX3_offNow 83 = .ok (.bipush 9, 2) := by decide +kernel
theorem dX3_offNow_85 : decode cX3_offNow 85 = .ok (.isub, 1) := by decide +kernel
theorem dX3_offNow_86 : decode cX3_offNow 86 = .ok (.iaload, 1) := by decide +kernel
theorem dX3_offNow_87 : decode cX3_offNow 87 = .ok (.iconst 1, 1) := by decide +kernel
theorem dX3_offNow_88 : decode cX3_offNow 88 = .ok (.iadd, 1) := by decide +kernel
theorem dX3_offNow_89 : decode cX3_offNow 89 = .ok (.aload_n 0, 1) := by decide +kernel
theorem dX3_offNow_90 : decode cX3_offNow 90 = .ok (.getfield 41, 3) := by decide +kernel
theorem dX3_offNow_93 : decode cX3_offNow 93 = .ok (.iload_n 3, 1) := by decide +kernel
theorem dX3_offNow_94 : decode cX3_offNow 94 = .ok (.iconst 1, 1) := by decide +kernel
theorem dX3_offNow_95 : decode cX3_offNow 95 = .ok (.isub, 1) := by decide +kernel
theorem dX3_offNow_96 : decode cX3_offNow 96 = .ok (.iaload, 1) := by decide +kernel
theorem dX3_offNow_97 : decode cX3_offNow 97 = .ok (.iconst 1, 1) := by decide +kernel
theorem dX3_offNow_98 : decode cX3_offNow 98 = .ok (.iadd, 1) := by decide +kernel
theorem dX3_offNow_99 : decode cX3_offNow 99 = .ok (.aload_n 0, 1) := by decide +kernel
theorem dX3_offNow_100 : decode cX3_offNow 100 = .ok (.getfield 41, 3) := by decide +kernel
theorem dX3_offNow_103 : decode cX3_offNow 103 = .ok (.iload_n 3, 1) := by decide +kernel
theorem dX3_offNow_104 : decode cX3_offNow 104 = .ok (.bipush 10, 2) := by decide +kernel
theorem dX3_offNow_106 : decode cX3_offNow 106 = .ok (.isub, 1) := by decide +kernel
theorem dX3_offNow_107 : decode cX3_offNow 107 = .ok (.iaload, 1) := by decide +kernel
theorem dX3_offNow_108 : decode cX3_offNow 108 = .ok (.iload 4, 2) := by decide +kernel
theorem dX3_offNow_110 : decode cX3_offNow 110 = .ok (.iadd, 1) := by decide +kernel
theorem dX3_offNow_111 : decode cX3_offNow 111 = .ok (.invokestatic 117, 3) := by decide +kernel
theorem dX3_offNow_114 : decode cX3_offNow 114 = .ok (.iastore, 1) := by decide +kernel
theorem dX3_offNow_115 : decode cX3_offNow 115 = .ok (.iinc 2 1, 3) := by decide +kernel
theorem dX3_offNow_118 : decode cX3_offNow 118 = .ok (.goto (-106), 3) := by decide +kernel
theorem dX3_offNow_121 : decode cX3_offNow 121 = .ok (.iinc 1 1, 3) := by decide +kernel
theorem dX3_offNow_124 : decode cX3_offNow 124 = .ok (.goto (-122), 3) := by decide +kernel
theorem dX3_offNow_127 : decode cX3_offNow 127 = .ok (.aload_n 0, 1) := by decide +kernel
theorem dX3_offNow_128 : decode cX3_offNow 128 = .ok (.getfield 41, 3) := by decide +kernel
theorem dX3_offNow_131 : decode cX3_offNow 131 = .ok (.bipush 9, 2) := by decide +kernel
theorem dX3_offNow_133 : decode cX3_offNow 133 = .ok (.aload_n 0, 1) := by decide +kernel
theorem dX3_offNow_134 : decode cX3_offNow 134 = .ok (.getfield 101, 3) := by decide +kernel
theorem dX3_offNow_137 : decode cX3_offNow 137 = .ok (.imul, 1) := by decide +kernel
theorem dX3_offNow_138 : decode cX3_offNow 138 = .ok (.aload_n 0, 1) := by decide +kernel
theorem dX3_offNow_139 : decode cX3_offNow 139 = .ok (.getfield 111, 3) := by decide +kernel
theorem dX3_offNow_142 : decode cX3_offNow 142 = .ok (.iadd, 1) := by decide +kernel
theorem dX3_offNow_143 : decode cX3_offNow 143 = .ok (.iaload, 1) := by decide +kernel
theorem dX3_offNow_144 : decode cX3_offNow 144 = .ok (.ireturn, 1) := by decide +kernel
set_option maxRecDepth 20000 in
theorem ggX3_isLike_X3_layFirst : GoodIn wsX3_isLike wsX3_layFirst := goodIn_r _ [5, 6, 7, 8, 9, 10, 11, 12, 4, 13, 14, 15, 16, 17, 18, 19, 20, 21, 22, 23, 24, 25, 46, 47, 48, 49, 50, 51, 52, 53, 54, 55, 56, 57, 58, 59, 60, 61] (by decide +kernel) (by decide +kernel)
set_option maxRecDepth 20000 in
theorem gX3_isLike_X3_layFirst : GoodIn wsX3_isLike (wsV RX3 121 RX3 yX3_layFirst wsX3_layFirst) := goodIn_app (goodIn_of _ (by decide +kernel)) ggX3_isLike_X3_layFirst
set_option maxRecDepth 20000 in
theorem ggX3_isLike_X3_areSame : GoodIn wsX3_isLike wsX3_areSame := goodIn_r _ [29, 6, 30, 7, 31, 46, 47, 48, 49, 50, 51, 52, 53, 54, 55, 56, 57, 58, 59, 60, 61] (by decide +kernel) (by decide +kernel)
set_option maxRecDepth 20000 in
theorem gX3_isLike_X3_areSame : GoodIn wsX3_isLike (wsV RX3 124 RX3 yX3_areSame wsX3_areSame) := goodIn_app (goodIn_of _ (by decide +kernel)) ggX3_isLike_X3_areSame
set_option maxRecDepth 20000 in
theorem ggX3_isLike_X3_soundSame : GoodIn wsX3_isLike wsX3_soundSame := goodIn_r _ [35, 9, 36, 8, 37, 46, 47, 48, 49, 50, 51, 52, 53, 54, 55, 56, 57, 58, 59, 60, 61] (by decide +kernel) (by decide +kernel)
set_option maxRecDepth 20000 in
theorem gX3_isLike_X3_soundSame : GoodIn wsX3_isLike (wsV RX3 128 RX3 yX3_soundSame wsX3_soundSame) := goodIn_app (goodIn_of _ (by decide +kernel)) ggX3_isLike_X3_soundSame
set_option maxRecDepth 20000 in
theorem ggX3_isLike_X3_offNow : GoodIn wsX3_isLike wsX3_offNow := goodIn_r _ [41, 6, 30, 42, 7, 31, 43, 44, 4, 45, 46, 47, 48, 49, 50, 51, 52, 53, 54, 55, 56, 57, 58, 59, 60, 61] (by decide +kernel) (by decide +kernel)
set_option maxRecDepth 20000 in
theorem gX3_isLike_X3_offNow : GoodIn wsX3_isLike (wsV RX3 131 RX3 yX3_offNow wsX3_offNow) := goodIn_app (goodIn_of _ (by decide +kernel)) ggX3_isLike_X3_offNow
theorem dX3_isLike_0 : decode cX3_isLike 0 = .ok (.aload_n 0, 1) := by decide +kernel
theorem dX3_isLike_1 : decode cX3_isLike 1 = .ok (.iload_n 1, 1) := by decide +kernel
theorem dX3_isLike_2 : decode cX3_isLike 2 = .ok (.invokevirtual 121, 3) := by decide +kernel
theorem dX3_isLike_5 : decode cX3_isLike 5 = .ok (.iload_n 2, 1) := by decide +kernel
theorem dX3_isLike_6 : decode cX3_isLike 6 = .ok (.ifCond .ne 10, 3) := by decide +kernel
theorem dX3_isLike_9 : decode cX3_isLike 9 = .ok (.aload_n 0, 1) := by decide +kernel
theorem dX3_isLike_10 : decode cX3_isLike 10 = .ok (.invokevirtual 124, 3) := by decide +kernel
theorem dX3_isLike_13 : decode cX3_isLike 13 = .ok (.goto 28, 3) := by decide +kernel
theorem dX3_isLike_16 : decode cX3_isLike 16 = .ok (.iload_n 2, 1) := by decide +kernel
theorem dX3_isLike_17 : decode cX3_isLike 17 = .ok (.iconst 1, 1) := by decide +kernel
theorem dX3_isLike_18 : decode cX3_isLike 18 = .ok (.if_icmp .ne 10, 3) := by decide +kernel
theorem dX3_isLike_21 : decode cX3_isLike 21 = .ok (.aload_n 0, 1) := by decide +kernel
theorem dX3_isLike_22 : decode cX3_isLike 22 = .ok (.invokevirtual 128, 3) := by decide +kernel
theorem dX3_isLike_25 : decode cX3_isLike 25 = .ok (.goto 16, 3) := by decide +kernel
theorem dX3_isLike_28 : decode cX3_isLike 28 = .ok (.aload_n 0, 1) := by decide +kernel
theorem dX3_isLike_29 : decode cX3_isLike 29 = .ok (.invokevirtual 131, 3) := by decide +kernel
theorem dX3_isLike_32 : decode cX3_isLike 32 = .ok (.iconst 1, 1) := by decide +kernel
theorem dX3_isLike_33 : decode cX3_isLike 33 = .ok (.if_icmp .gt 7, 3) := by decide +kernel
theorem dX3_isLike_36 : decode cX3_isLike 36 = .ok (.iconst 1, 1) := by decide +kernel
theorem dX3_isLike_37 : decode cX3_isLike 37 = .ok (.goto 4, 3) := by decide +kernel
theorem dX3_isLike_40 : decode cX3_isLike 40 = .ok (.iconst 0, 1) := by decide +kernel
theorem dX3_isLike_41 : decode cX3_isLike 41 = .ok (.ireturn, 1) := by decide +kernel
set_option maxRecDepth 20000 in
theorem ggX3_sound_X3_isParish : GoodIn wsX3_sound wsX3_isParish := goodIn_r _ [7, 8, 9, 10, 6, 11, 49, 50, 51, 52, 53, 54, 55, 56, 57, 58, 59, 60, 61, 62, 63, 64] (by decide +kernel) (by decide +kernel)
set_option maxRecDepth 20000 in
theorem gX3_sound_X3_isParish : GoodIn wsX3_sound (wsV RX3 56 RX3 yX3_isParish wsX3_isParish) := goodIn_app (goodIn_of _ (by decide +kernel)) ggX3_sound_X3_isParish
set_option maxRecDepth 20000 in
theorem ggX3_sound_X3_isYear : GoodIn wsX3_sound wsX3_isYear := goodIn_r _ [14, 9, 10, 6, 11] (by decide +kernel) (by decide +kernel)
set_option maxRecDepth 20000 in
theorem gX3_sound_X3_isYear : GoodIn wsX3_sound (va_wsS RX3 60 yX3_isYear wsX3_isYear) := goodIn_app (goodIn_of _ (by decide +kernel)) ggX3_sound_X3_isYear
set_option maxRecDepth 20000 in
theorem ggX3_sound_X3_goTo : GoodIn wsX3_sound wsX3_goTo := goodIn_r _ [18, 8, 19, 20, 21, 6, 22, 23, 24, 49, 50, 51, 52, 53, 54, 55, 56, 57, 58, 59, 60, 61, 62, 63, 64] (by decide +kernel) (by decide +kernel)
set_option maxRecDepth 20000 in
theorem gX3_sound_X3_goTo : GoodIn wsX3_sound (wsV RX3 88 RX3 yX3_goTo wsX3_goTo) := goodIn_app (goodIn_of _ (by decide +kernel)) ggX3_sound_X3_goTo
set_option maxRecDepth 20000 in
theorem ggX3_sound_X3_sitesOf : GoodIn wsX3_sound wsX3_sitesOf := goodIn_r _ [28, 23, 49, 50, 51, 52, 53, 54, 55, 56, 57, 58, 59, 60, 61, 62, 63, 64] (by decide +kernel) (by decide +kernel)
set_option maxRecDepth 20000 in
theorem gX3_sound_X3_sitesOf : GoodIn wsX3_sound (wsV RX3 70 RX3 yX3_sitesOf wsX3_sitesOf) := goodIn_app (goodIn_of _ (by decide +kernel)) ggX3_sound_X3_sitesOf
set_option maxRecDepth 20000 in
theorem ggX3_sound_X3_layFirst : GoodIn wsX3_sound wsX3_layFirst := goodIn_r _ [32, 33, 34, 2, 1, 35, 36, 37, 6, 38, 24, 8, 39, 40, 41, 42, 43, 44, 45, 46, 47, 48, 49, 50, 51, 52, 53, 54, 55, 56, 57, 58, 59, 60, 61, 62, 63, 64] (by decide +kernel) (by decide +kernel)
set_option maxRecDepth 20000 in
theorem gX3_sound_X3_layFirst : GoodIn wsX3_sound (wsV RX3 121 RX3 yX3_layFirst wsX3_layFirst) := goodIn_app (goodIn_of _ (by decide +kernel)) ggX3_sound_X3_layFirst
theorem dX3_sound_0 : decode cX3_sound 0 = .ok (.aload_n 0, 1) := by decide +kernel
theorem dX3_sound_1 : decode cX3_sound 1 = .ok (.iload_n 1, 1) := by decide +kernel
theorem dX3_sound_2 : decode cX3_sound 2 = .ok (.invokevirtual 56, 3) := by decide +kernel
theorem dX3_sound_5 : decode cX3_sound 5 = .ok (.ifCond .ne 5, 3) := by decide +kernel
theorem dX3_sound_8 : decode cX3_sound 8 = .ok (.iconst (-1), 1) := by decide +kernel
theorem dX3_sound_9 : decode cX3_sound 9 = .ok (.ireturn, 1) := by decide +kernel
theorem dX3_sound_10 : decode cX3_sound 10 = .ok (.iload_n 2, 1) := by decide +kernel
theorem dX3_sound_11 : decode cX3_sound 11 = .ok (.invokestatic 60, 3) := by decide +kernel
theorem dX3_sound_14 : decode cX3_sound 14 = .ok (.ifCond .eq 8, 3) := by decide +kernel
theorem dX3_sound_17 : decode cX3_sound 17 = .ok (.iload_n 3, 1) := by decide +kernel
theorem dX3_sound_18 : decode cX3_sound 18 = .ok (.iconst (-1), 1) := by decide +kernel
theorem dX3_sound_19 : decode cX3_sound 19 = .ok (.if_icmp .ge 6, 3) := by decide +kernel
theorem dX3_sound_22 : decode cX3_sound 22 = .ok (.bipush (-2), 2) := by decide +kernel
theorem dX3_sound_24 : decode cX3_sound 24 = .ok (.ireturn, 1) := by decide +kernel
theorem dX3_sound_25 : decode cX3_sound 25 = .ok (.aload_n 0, 1) := by decide +kernel
theorem dX3_sound_26 : decode cX3_sound 26 = .ok (.iload_n 2, 1) := by decide +kernel
theorem dX3_sound_27 : decode cX3_sound 27 = .ok (.invokevirtual 88, 3) := by decide +kernel
theorem dX3_sound_30 : decode cX3_sound 30 = .ok (.aload_n 0, 1) := by decide +kernel
theorem dX3_sound_31 : decode cX3_sound 31 = .ok (.iload_n 1, 1) := by decide +kernel
theorem dX3_sound_32 : decode cX3_sound 32 = .ok (.invokevirtual 70, 3) := by decide +kernel
theorem dX3_sound_35 : decode cX3_sound 35 = .ok (.ifCond .ne 6, 3) := by decide +kernel
theorem dX3_sound_38 : decode cX3_sound 38 = .ok (.bipush (-6), 2) := by decide +kernel
theorem dX3_sound_40 : decode cX3_sound 40 = .ok (.ireturn, 1) := by decide +kernel
theorem dX3_sound_41 : decode cX3_sound 41 = .ok (.aload_n 0, 1) := by decide +kernel
theorem dX3_sound_42 : decode cX3_sound 42 = .ok (.iload_n 1, 1) := by decide +kernel
theorem dX3_sound_43 : decode cX3_sound 43 = .ok (.invokevirtual 121, 3) := by decide +kernel
theorem dX3_sound_46 : decode cX3_sound 46 = .ok (.iload_n 3, 1) := by decide +kernel
theorem dX3_sound_47 : decode cX3_sound 47 = .ok (.iconst (-1), 1) := by decide +kernel
theorem dX3_sound_48 : decode cX3_sound 48 = .ok (.if_icmp .ne 10, 3) := by decide +kernel
theorem dX3_sound_51 : decode cX3_sound 51 = .ok (.aload_n 0, 1) := by decide +kernel
theorem dX3_sound_52 : decode cX3_sound 52 = .ok (.getfield 108, 3) := by decide +kernel
theorem dX3_sound_55 : decode cX3_sound 55 = .ok (.goto 22, 3) := by decide +kernel
theorem dX3_sound_58 : decode cX3_sound 58 = .ok (.iload_n 3, 1) := by decide +kernel
theorem dX3_sound_59 : decode cX3_sound 59 = .ok (.aload_n 0, 1) := by decide +kernel
theorem dX3_sound_60 : decode cX3_sound 60 = .ok (.getfield 108, 3) := by decide +kernel
theorem dX3_sound_63 : decode cX3_sound 63 = .ok (.if_icmp .ge 12, 3) := by decide +kernel
theorem dX3_sound_66 : decode cX3_sound 66 = .ok (.aload_n 0, 1) := by decide +kernel
theorem dX3_sound_67 : decode cX3_sound 67 = .ok (.getfield 35, 3) := by decide +kernel
theorem dX3_sound_70 : decode cX3_sound 70 = .ok (.iload_n 3, 1) := by decide +kernel
theorem dX3_sound_71 : decode cX3_sound 71 = .ok (.iaload, 1) := by decide +kernel
theorem dX3_sound_72 : decode cX3_sound 72 = .ok (.goto 5, 3) := by decide +kernel
theorem dX3_sound_75 : decode cX3_sound 75 = .ok (.bipush (-6), 2) := by decide +kernel
theorem dX3_sound_77 : decode cX3_sound 77 = .ok (.ireturn, 1) := by decide +kernel
theorem dX3_toldOf_0 : decode cX3_toldOf 0 = .ok (.iconst 0, 1) := by decide +kernel
theorem dX3_toldOf_1 : decode cX3_toldOf 1 = .ok (.istore_n 2, 1) := by decide +kernel
theorem dX3_toldOf_2 : decode cX3_toldOf 2 = .ok (.iconst 0, 1) := by decide +kernel
theorem dX3_toldOf_3 : decode cX3_toldOf 3 = .ok (.istore_n 3, 1) := by decide +kernel
theorem dX3_toldOf_4 : decode cX3_toldOf 4 = .ok (.iload_n 3, 1) := by decide +kernel
theorem dX3_toldOf_5 : decode cX3_toldOf 5 = .ok (.aload_n 0, 1) := by decide +kernel
theorem dX3_toldOf_6 : decode cX3_toldOf 6 = .ok (.getfield 7, 3) := by decide +kernel
theorem dX3_toldOf_9 : decode cX3_toldOf 9 = .ok (.sipush 420, 3) := by decide +kernel
theorem dX3_toldOf_12 : decode cX3_toldOf 12 = .ok (.iaload, 1) := by decide +kernel
theorem dX3_toldOf_13 : decode cX3_toldOf 13 = .ok (.if_icmp .ge 43, 3) := by decide +kernel
theorem dX3_toldOf_16 : decode cX3_toldOf 16 = .ok (.iload_n 2, 1) := by decide +kernel
theorem dX3_toldOf_17 : decode cX3_toldOf 17 = .ok (.aload_n 0, 1) := by decide +kernel
theorem dX3_toldOf_18 : decode cX3_toldOf 18 = .ok (.getfield 7, 3) := by decide +kernel
theorem dX3_toldOf_21 : decode cX3_toldOf 21 = .ok (.bipush 60, 2) := by decide +kernel
theorem dX3_toldOf_23 : decode cX3_toldOf 23 = .ok (.iload_n 3, 1) := by decide +kernel
theorem dX3_toldOf_24 : decode cX3_toldOf 24 = .ok (.iadd, 1) := by decide +kernel
theorem dX3_toldOf_25 : decode cX3_toldOf 25 = .ok (.iaload, 1) := by decide +kernel
theorem dX3_toldOf_26 : decode cX3_toldOf 26 = .ok (.iload_n 1, 1) := by decide +kernel
theorem dX3_toldOf_27 : decode cX3_toldOf 27 = .ok (.if_icmp .eq 16, 3) := by decide +kernel
theorem dX3_toldOf_30 : decode cX3_toldOf 30 = .ok (.aload_n 0, 1) := by decide +kernel
theorem dX3_toldOf_31 : decode cX3_toldOf 31 = .ok (.getfield 7, 3) := by decide +kernel
theorem dX3_toldOf_34 : decode cX3_toldOf 34 = .ok (.bipush 120, 2) := by decide +kernel
theorem dX3_toldOf_36 : decode cX3_toldOf 36 = .ok (.iload_n 3, 1) := by decide +kernel
theorem dX3_toldOf_37 : decode cX3_toldOf 37 = .ok (.iadd, 1) := by decide +kernel
theorem dX3_toldOf_38 : decode cX3_toldOf 38 = .ok (.iaload, 1) := by decide +kernel
theorem dX3_toldOf_39 : decode cX3_toldOf 39 = .ok (.iload_n 1, 1) := by decide +kernel
theorem dX3_toldOf_40 : decode cX3_toldOf 40 = .ok (.if_icmp .ne 7, 3) := by decide +kernel
theorem dX3_toldOf_43 : decode cX3_toldOf 43 = .ok (.iconst 1, 1) := by decide +kernel
theorem dX3_toldOf_44 : decode cX3_toldOf 44 = .ok (.goto 4, 3) := by decide +kernel
theorem dX3_toldOf_47 : decode cX3_toldOf 47 = .ok (.iconst 0, 1) := by decide +kernel
theorem dX3_toldOf_48 : decode cX3_toldOf 48 = .ok (.iadd, 1) := by decide +kernel
theorem dX3_toldOf_49 : decode cX3_toldOf 49 = .ok (.istore_n 2, 1) := by decide +kernel
theorem dX3_toldOf_50 : decode cX3_toldOf 50 = .ok (.iinc 3 1, 3) := by decide +kernel
theorem dX3_toldOf_53 : decode cX3_toldOf 53 = .ok (.goto (-49), 3) := by decide +kernel
theorem dX3_toldOf_56 : decode cX3_toldOf 56 = .ok (.iload_n 2, 1) := by decide +kernel
theorem dX3_toldOf_57 : decode cX3_toldOf 57 = .ok (.ireturn, 1) := by decide +kernel
set_option maxRecDepth 20000 in
theorem ggX3_parish_X3_isParish : GoodIn wsX3_parish wsX3_isParish := goodIn_r _ [5, 6, 7, 8, 4, 9, 31, 32, 33, 34, 35, 36, 37, 38, 39, 40, 41, 42, 43, 44, 45, 46] (by decide +kernel) (by decide +kernel)
set_option maxRecDepth 20000 in
theorem gX3_parish_X3_isParish : GoodIn wsX3_parish (wsV RX3 56 RX3 yX3_isParish wsX3_isParish) := goodIn_app (goodIn_of _ (by decide +kernel)) ggX3_parish_X3_isParish
set_option maxRecDepth 20000 in
theorem ggX3_parish_X3_in : GoodIn wsX3_parish wsX3_in := goodIn_r _ [9] (by decide +kernel) (by decide +kernel)
set_option maxRecDepth 20000 in
theorem gX3_parish_X3_in : GoodIn wsX3_parish (va_wsS RX3 44 yX3_in wsX3_in) := goodIn_app (goodIn_of _ (by decide +kernel)) ggX3_parish_X3_in
set_option maxRecDepth 20000 in
theorem ggX3_parish_X3_goTo : GoodIn wsX3_parish wsX3_goTo := goodIn_r _ [13, 6, 14, 15, 16, 4, 17, 18, 19, 31, 32, 33, 34, 35, 36, 37, 38, 39, 40, 41, 42, 43, 44, 45, 46] (by decide +kernel) (by decide +kernel)
set_option maxRecDepth 20000 in
theorem gX3_parish_X3_goTo : GoodIn wsX3_parish (wsV RX3 88 RX3 yX3_goTo wsX3_goTo) := goodIn_app (goodIn_of _ (by decide +kernel)) ggX3_parish_X3_goTo
set_option maxRecDepth 20000 in
theorem ggX3_parish_X3_sitesOf : GoodIn wsX3_parish wsX3_sitesOf := goodIn_r _ [23, 18, 31, 32, 33, 34, 35, 36, 37, 38, 39, 40, 41, 42, 43, 44, 45, 46] (by decide +kernel) (by decide +kernel)
set_option maxRecDepth 20000 in
theorem gX3_parish_X3_sitesOf : GoodIn wsX3_parish (wsV RX3 70 RX3 yX3_sitesOf wsX3_sitesOf) := goodIn_app (goodIn_of _ (by decide +kernel)) ggX3_parish_X3_sitesOf
set_option maxRecDepth 20000 in
theorem ggX3_parish_X3_toldOf : GoodIn wsX3_parish wsX3_toldOf := goodIn_r _ [27, 6, 31, 32, 33, 34, 35, 36, 37, 38, 39, 40, 41, 42, 43, 44, 45, 46] (by decide +kernel) (by decide +kernel)
set_option maxRecDepth 20000 in
theorem gX3_parish_X3_toldOf : GoodIn wsX3_parish (wsV RX3 134 RX3 yX3_toldOf wsX3_toldOf) := goodIn_app (goodIn_of _ (by decide +kernel)) ggX3_parish_X3_toldOf
set_option maxRecDepth 20000 in
theorem ggX3_parish_X3_bits : GoodIn wsX3_parish wsX3_bits := goodIn_r _ [30] (by decide +kernel) (by decide +kernel)
set_option maxRecDepth 20000 in
theorem gX3_parish_X3_bits : GoodIn wsX3_parish (va_wsS RX3 137 yX3_bits wsX3_bits) := goodIn_app (goodIn_of _ (by decide +kernel)) ggX3_parish_X3_bits
theorem dX3_parish_0 : decode cX3_parish 0 = .ok (.aload_n 0, 1) := by decide +kernel
theorem dX3_parish_1 : decode cX3_parish 1 = .ok (.iload_n 1, 1) := by decide +kernel
theorem dX3_parish_2 : decode cX3_parish 2 = .ok (.invokevirtual 56, 3) := by decide +kernel
theorem dX3_parish_5 : decode cX3_parish 5 = .ok (.ifCond .ne 5, 3) := by decide +kernel
theorem dX3_parish_8 : decode cX3_parish 8 = .ok (.iconst (-1), 1) := by decide +kernel
theorem dX3_parish_9 : decode cX3_parish 9 = .ok (.ireturn, 1) := by decide +kernel
theorem dX3_parish_10 : decode cX3_parish 10 = .ok (.iload_n 2, 1) := by decide +kernel
theorem dX3_parish_11 : decode cX3_parish 11 = .ok (.iconst 0, 1) := by decide +kernel
theorem dX3_parish_12 : decode cX3_parish 12 = .ok (.iconst 4, 1) := by decide +kernel
theorem dX3_parish_13 : decode cX3_parish 13 = .ok (.invokestatic 44, 3) := by decide +kernel
theorem dX3_parish_16 : decode cX3_parish 16 = .ok (.ifCond .ne 6, 3) := by decide +kernel
theorem dX3_parish_19 : decode cX3_parish 19 = .ok (.bipush (-2), 2) := by decide +kernel
theorem dX3_parish_21 : decode cX3_parish 21 = .ok (.ireturn, 1) := by decide +kernel
theorem dX3_parish_22 : decode cX3_parish 22 = .ok (.bipush (-6), 2) := by decide +kernel
theorem dX3_parish_24 : decode cX3_parish 24 = .ok (.istore_n 3, 1) := by decide +kernel
theorem dX3_parish_25 : decode cX3_parish 25 = .ok (.bipush (-6), 2) := by decide +kernel
theorem dX3_parish_27 : decode cX3_parish 27 = .ok (.istore 4, 2) := by decide +kernel
theorem dX3_parish_29 : decode cX3_parish 29 = .ok (.iconst 0, 1) := by decide +kernel
theorem dX3_parish_30 : decode cX3_parish 30 = .ok (.istore 5, 2) := by decide +kernel
theorem dX3_parish_32 : decode cX3_parish 32 = .ok (.iconst 0, 1) := by decide +kernel
theorem dX3_parish_33 : decode cX3_parish 33 = .ok (.istore 6, 2) := by decide +kernel
theorem dX3_parish_35 : decode cX3_parish 35 = .ok (.iconst 0, 1) := by decide +kernel
theorem dX3_parish_36 : decode cX3_parish 36 = .ok (.istore 7, 2) := by decide +kernel
theorem dX3_parish_38 : decode cX3_parish 38 = .ok (.iload 7, 2) := by decide +kernel
theorem dX3_parish_40 : decode cX3_parish 40 = .ok (.sipush 1000, 3) := by decide +kernel
theorem dX3_parish_43 : decode cX3_parish 43 = .ok (.if_icmp .ge 52, 3) := by decide +kernel
theorem dX3_parish_46 : decode cX3_parish 46 = .ok (.aload_n 0, 1) := by decide +kernel
theorem dX3_parish_47 : decode cX3_parish 47 = .ok (.iload 7, 2) := by decide +kernel
theorem dX3_parish_49 : decode cX3_parish 49 = .ok (.invokevirtual 88, 3) := by decide +kernel
theorem dX3_parish_52 : decode cX3_parish 52 = .ok (.aload_n 0, 1) := by decide +kernel
theorem dX3_parish_53 : decode cX3_parish 53 = .ok (.iload_n 1, 1) := by decide +kernel
theorem dX3_parish_54 : decode cX3_parish 54 = .ok (.invokevirtual 70, 3) := by decide +kernel
theorem dX3_parish_57 : decode cX3_parish 57 = .ok (.istore 8, 2) := by decide +kernel
theorem dX3_parish_59 : decode cX3_parish 59 = .ok (.iload 6, 2) := by decide +kernel
theorem dX3_parish_61 : decode cX3_parish 61 = .ok (.iload 8, 2) := by decide +kernel
theorem dX3_parish_63 : decode cX3_parish 63 = .ok (.ior, 1) := by decide +kernel
theorem dX3_parish_64 : decode cX3_parish 64 = .ok (.istore 6, 2) := by decide +kernel
theorem dX3_parish_66 : decode cX3_parish 66 = .ok (.iload 8, 2) := by decide +kernel
theorem dX3_parish_68 : decode cX3_parish 68 = .ok (.ifCond .eq 21, 3) := by decide +kernel
theorem dX3_parish_71 : decode cX3_parish 71 = .ok (.iload_n 3, 1) := by decide +kernel
theorem dX3_parish_72 : decode cX3_parish 72 = .ok (.ifCond .ge 8, 3) := by decide +kernel
theorem dX3_parish_75 : decode cX3_parish 75 = .ok (.iload 7, 2) := by decide +kernel
theorem dX3_parish_77 : decode cX3_parish 77 = .ok (.goto 4, 3) := by decide +kernel
theorem dX3_parish_80 : decode cX3_parish 80 = .ok (.iload_n 3, 1) := by decide +kernel
theorem dX3_parish_81 : decode cX3_parish 81 = .ok (.istore_n 3, 1) := by decide +kernel
theorem dX3_parish_82 : decode cX3_parish 82 = .ok (.iload 7, 2) := by decide +kernel
theorem dX3_parish_84 : decode cX3_parish 84 = .ok (.istore 4, 2) := by decide +kernel
theorem dX3_parish_86 : decode cX3_parish 86 = .ok (.iinc 5 1, 3) := by decide +kernel
theorem dX3_parish_89 : decode cX3_parish 89 = .ok (.iinc 7 1, 3) := by decide +kernel
theorem dX3_parish_92 : decode cX3_parish 92 = .ok (.goto (-54), 3) := by decide +kernel
theorem dX3_parish_95 : decode cX3_parish 95 = .ok (.iload_n 2, 1) := by decide +kernel
theorem dX3_parish_96 : decode cX3_parish 96 = .ok (.ifCond .ne 7, 3) := by decide +kernel
theorem dX3_parish_99 : decode cX3_parish 99 = .ok (.iload_n 3, 1) := by decide +kernel
theorem dX3_parish_100 : decode cX3_parish 100 = .ok (.goto 41, 3) := by decide +kernel
theorem dX3_parish_103 : decode cX3_parish 103 = .ok (.iload_n 2, 1) := by decide +kernel
theorem dX3_parish_104 : decode cX3_parish 104 = .ok (.iconst 1, 1) := by decide +kernel
theorem dX3_parish_105 : decode cX3_parish 105 = .ok (.if_icmp .ne 8, 3) := by decide +kernel
theorem dX3_parish_108 : decode cX3_parish 108 = .ok (.iload 4, 2) := by decide +kernel
theorem dX3_parish_110 : decode cX3_parish 110 = .ok (.goto 31, 3) := by decide +kernel
theorem dX3_parish_113 : decode cX3_parish 113 = .ok (.iload_n 2, 1) := by decide +kernel
theorem dX3_parish_114 : decode cX3_parish 114 = .ok (.iconst 2, 1) := by decide +kernel
theorem dX3_parish_115 : decode cX3_parish 115 = .ok (.if_icmp .ne 8, 3) := by decide +kernel
theorem dX3_parish_118 : decode cX3_parish 118 = .ok (.iload 5, 2) := by decide +kernel
theorem dX3_parish_120 : decode cX3_parish 120 = .ok (.goto 21, 3) := by decide +kernel
theorem dX3_parish_123 : decode cX3_parish 123 = .ok (.iload_n 2, 1) := by decide +kernel
theorem dX3_parish_124 : decode cX3_parish 124 = .ok (.iconst 3, 1) := by decide +kernel
theorem dX3_parish_125 : decode cX3_parish 125 = .ok (.if_icmp .ne 11, 3) := by decide +kernel
theorem dX3_parish_128 : decode cX3_parish 128 = .ok (.aload_n 0, 1) := by decide +kernel
theorem dX3_parish_129 : decode cX3_parish 129 = .ok (.iload_n 1, 1) := by decide +kernel
theorem dX3_parish_130 : decode cX3_parish 130 = .ok (.invokevirtual 134, 3) := by decide +kernel
theorem dX3_parish_133 : decode cX3_parish 133 = .ok (.goto 8, 3) := by decide +kernel
theorem dX3_parish_136 : decode cX3_parish 136 = .ok (.iload 6, 2) := by decide +kernel
theorem dX3_parish_138 : decode cX3_parish 138 = .ok (.invokestatic 137, 3) := by decide +kernel
theorem dX3_parish_141 : decode cX3_parish 141 = .ok (.ireturn, 1) := by decide +kernel
set_option maxRecDepth 20000 in
theorem ggX3_areYears_X3_isYear : GoodIn wsX3_areYears wsX3_isYear := goodIn_r _ [4, 5, 6, 3, 7] (by decide +kernel) (by decide +kernel)
set_option maxRecDepth 20000 in
theorem gX3_areYears_X3_isYear : GoodIn wsX3_areYears (va_wsS RX3 60 yX3_isYear wsX3_isYear) := goodIn_app (goodIn_of _ (by decide +kernel)) ggX3_areYears_X3_isYear
theorem dX3_areYears_0 : decode cX3_areYears 0 = .ok (.iload_n 0, 1) := by decide +kernel
theorem dX3_areYears_1 : decode cX3_areYears 1 = .ok (.invokestatic 60, 3) := by decide +kernel
theorem dX3_areYears_4 : decode cX3_areYears 4 = .ok (.ifCond .eq 19, 3) := by decide +kernel
theorem dX3_areYears_7 : decode cX3_areYears 7 = .ok (.iload_n 1, 1) := by decide +kernel
theorem dX3_areYears_8 : decode cX3_areYears 8 = .ok (.invokestatic 60, 3) := by decide +kernel
theorem dX3_areYears_11 : decode cX3_areYears 11 = .ok (.ifCond .eq 12, 3) := by decide +kernel
theorem dX3_areYears_14 : decode cX3_areYears 14 = .ok (.iload_n 0, 1) := by decide +kernel
theorem dX3_areYears_15 : decode cX3_areYears 15 = .ok (.iload_n 1, 1) := by decide +kernel
theorem dX3_areYears_16 : decode cX3_areYears 16 = .ok (.if_icmp .gt 7, 3) := by decide +kernel
theorem dX3_areYears_19 : decode cX3_areYears 19 = .ok (.iconst 1, 1) := by decide +kernel
theorem dX3_areYears_20 : decode cX3_areYears 20 = .ok (.goto 4, 3) := by decide +kernel
theorem dX3_areYears_23 : decode cX3_areYears 23 = .ok (.iconst 0, 1) := by decide +kernel
theorem dX3_areYears_24 : decode cX3_areYears 24 = .ok (.ireturn, 1) := by decide +kernel
set_option maxRecDepth 20000 in
theorem ggX3_find_X3_areYears : GoodIn wsX3_find wsX3_areYears := goodIn_r _ [6, 7, 8, 5, 9, 10, 11, 12] (by decide +kernel) (by decide +kernel)
set_option maxRecDepth 20000 in
theorem gX3_find_X3_areYears : GoodIn wsX3_find (va_wsS RX3 140 yX3_areYears wsX3_areYears) := goodIn_app (goodIn_of _ (by decide +kernel)) ggX3_find_X3_areYears
set_option maxRecDepth 20000 in
theorem ggX3_find_X3_in : GoodIn wsX3_find wsX3_in := goodIn_r _ [12] (by decide +kernel) (by decide +kernel)
set_option maxRecDepth 20000 in
theorem gX3_find_X3_in : GoodIn wsX3_find (va_wsS RX3 44 yX3_in wsX3_in) := goodIn_app (goodIn_of _ (by decide +kernel)) ggX3_find_X3_in
set_option maxRecDepth 20000 in
theorem ggX3_find_X3_layPad : GoodIn wsX3_find wsX3_layPad := goodIn_r _ [16, 1, 17, 18, 19, 20, 21, 22, 23, 5, 24, 25, 26, 27, 78, 79, 80, 81, 82, 83, 84, 85, 86, 87, 88, 89, 90, 91, 92, 93] (by decide +kernel) (by decide +kernel)
set_option maxRecDepth 20000 in
theorem gX3_find_X3_layPad : GoodIn wsX3_find (wsV RX3 143 RX3 yX3_layPad wsX3_layPad) := goodIn_app (goodIn_of _ (by decide +kernel)) ggX3_find_X3_layPad
set_option maxRecDepth 20000 in
theorem ggX3_find_X3_goTo : GoodIn wsX3_find wsX3_goTo := goodIn_r _ [31, 2, 32, 33, 34, 5, 35, 36, 37, 78, 79, 80, 81, 82, 83, 84, 85, 86, 87, 88, 89, 90, 91, 92, 93] (by decide +kernel) (by decide +kernel)
set_option maxRecDepth 20000 in
theorem gX3_find_X3_goTo : GoodIn wsX3_find (wsV RX3 88 RX3 yX3_goTo wsX3_goTo) := goodIn_app (goodIn_of _ (by decide +kernel)) ggX3_find_X3_goTo
set_option maxRecDepth 20000 in
theorem ggX3_find_X3_sitesOf : GoodIn wsX3_find wsX3_sitesOf := goodIn_r _ [41, 36, 78, 79, 80, 81, 82, 83, 84, 85, 86, 87, 88, 89, 90, 91, 92, 93] (by decide +kernel) (by decide +kernel)
set_option maxRecDepth 20000 in
theorem gX3_find_X3_sitesOf : GoodIn wsX3_find (wsV RX3 70 RX3 yX3_sitesOf wsX3_sitesOf) := goodIn_app (goodIn_of _ (by decide +kernel)) ggX3_find_X3_sitesOf
set_option maxRecDepth 20000 in
theorem ggX3_find_X3_isLike : GoodIn wsX3_find wsX3_isLike := goodIn_r _ [45, 46, 47, 48, 5, 49, 50, 51, 52, 53, 54, 55, 56, 57, 37, 2, 58, 59, 60, 61, 22, 23, 24, 25, 26, 27, 62, 63, 64, 65, 17, 18, 66, 67, 68, 69, 21, 20, 70, 71, 72, 73, 74, 75, 76, 77, 78, 79, 80, 81, 82, 83, 84, 85, 86, 87, 88, 89, 90, 91, 92, 93] (by decide +kernel) (by decide +kernel)
set_option maxRecDepth 20000 in
theorem gX3_find_X3_isLike : GoodIn wsX3_find (wsV RX3 146 RX3 yX3_isLike wsX3_isLike) := goodIn_app (goodIn_of _ (by decide +kernel)) ggX3_find_X3_isLike
theorem dX3_find_0 : decode cX3_find 0 = .ok (.iload_n 1, 1) := by decide +kernel
theorem dX3_find_1 : decode cX3_find 1 = .ok (.iload_n 2, 1) := by decide +kernel
theorem dX3_find_2 : decode cX3_find 2 = .ok (.invokestatic 140, 3) := by decide +kernel
theorem dX3_find_5 : decode cX3_find 5 = .ok (.ifCond .eq 18, 3) := by decide +kernel
theorem dX3_find_8 : decode cX3_find 8 = .ok (.iload_n 3, 1) := by decide +kernel
theorem dX3_find_9 : decode cX3_find 9 = .ok (.iconst 0, 1) := by decide +kernel
theorem dX3_find_10 : decode cX3_find 10 = .ok (.iconst 2, 1) := by decide +kernel
theorem dX3_find_11 : decode cX3_find 11 = .ok (.invokestatic 44, 3) := by decide +kernel
theorem dX3_find_14 : decode cX3_find 14 = .ok (.ifCond .eq 9, 3) := by decide +kernel
theorem dX3_find_17 : decode cX3_find 17 = .ok (.iload 4, 2) := by decide +kernel
theorem dX3_find_19 : decode cX3_find 19 = .ok (.iconst (-1), 1) := by decide +kernel
theorem dX3_find_20 : decode cX3_find 20 = .ok (.if_icmp .ge 6, 3) := by decide +kernel
theorem dX3_find_23 : decode cX3_find 23 = .ok (.bipush (-2), 2) := by decide +kernel
theorem dX3_find_25 : decode cX3_find 25 = .ok (.ireturn, 1) := by decide +kernel
theorem dX3_find_26 : decode cX3_find 26 = .ok (.aload_n 0, 1) := by decide +kernel
theorem dX3_find_27 : decode cX3_find 27 = .ok (.getfield 48, 3) := by decide +kernel
theorem dX3_find_30 : decode cX3_find 30 = .ok (.ifCond .ne 6, 3) := by decide +kernel
theorem dX3_find_33 : decode cX3_find 33 = .ok (.bipush (-7), 2) := by decide +kernel
theorem dX3_find_35 : decode cX3_find 35 = .ok (.ireturn, 1) := by decide +kernel
theorem dX3_find_36 : decode cX3_find 36 = .ok (.aload_n 0, 1) := by decide +kernel
theorem dX3_find_37 : decode cX3_find 37 = .ok (.invokevirtual 143, 3) := by decide +kernel
theorem dX3_find_40 : decode cX3_find 40 = .ok (.iconst 0, 1) := by decide +kernel
theorem dX3_find_41 : decode cX3_find 41 = .ok (.istore 5, 2) := by decide +kernel
theorem dX3_find_43 : decode cX3_find 43 = .ok (.iload_n 1, 1) := by decide +kernel
theorem dX3_find_44 : decode cX3_find 44 = .ok (.istore 6, 2) := by decide +kernel
theorem dX3_find_46 : decode cX3_find 46 = .ok (.iload 6, 2) := by decide +kernel
theorem dX3_find_48 : decode cX3_find 48 = .ok (.iload_n 2, 1) := by decide +kernel
theorem dX3_find_49 : decode cX3_find 49 = .ok (.if_icmp .gt 69, 3) := by decide +kernel
theorem dX3_find_52 : decode cX3_find 52 = .ok (.aload_n 0, 1) := by decide +kernel
theorem dX3_find_53 : decode cX3_find 53 = .ok (.iload 6, 2) := by decide +kernel
theorem dX3_find_55 : decode cX3_find 55 = .ok (.invokevirtual 88, 3) := by decide +kernel
theorem dX3_find_58 : decode cX3_find 58 = .ok (.iconst 0, 1) := by decide +kernel
theorem dX3_find_59 : decode cX3_find 59 = .ok (.istore 7, 2) := by decide +kernel
theorem dX3_find_61 : decode cX3_find 61 = .ok (.iload 7, 2) := by decide +kernel
theorem dX3_find_63 : decode cX3_find 63 = .ok (.aload_n 0, 1) := by decide +kernel
theorem dX3_find_64 : decode cX3_find 64 = .ok (.getfield 7, 3) := by decide +kernel
theorem dX3_find_67 : decode cX3_find 67 = .ok (.sipush 421, 3) := by decide +kernel
theorem dX3_find_70 : decode cX3_find 70 = .ok (.iaload, 1) := by decide +kernel
theorem dX3_find_71 : decode cX3_find 71 = .ok (.if_icmp .ge 41, 3) := by decide +kernel
theorem dX3_find_74 : decode cX3_find 74 = .ok (.iload 5, 2) := by decide +kernel
theorem dX3_find_76 : decode cX3_find 76 = .ok (.aload_n 0, 1) := by decide +kernel
theorem dX3_find_77 : decode cX3_find 77 = .ok (.iload 7, 2) := by decide +kernel
theorem dX3_find_79 : decode cX3_find 79 = .ok (.invokevirtual 70, 3) := by decide +kernel
theorem dX3_find_82 : decode cX3_find 82 = .ok (.ifCond .eq 20, 3) := by decide +kernel
theorem dX3_find_85 : decode cX3_find 85 = .ok (.aload_n 0, 1) := by decide +kernel
theorem dX3_find_86 : decode cX3_find 86 = .ok (.iload 7, 2) := by decide +kernel
theorem dX3_find_88 : decode cX3_find 88 = .ok (.iload_n 3, 1) := by decide +kernel
theorem dX3_find_89 : decode cX3_find 89 = .ok (.invokevirtual 146, 3) := by decide +kernel
theorem dX3_find_92 : decode cX3_find 92 = .ok (.ifCond .eq 10, 3) := by decide +kernel
theorem dX3_find_95 : decode cX3_find 95 = .ok (.iconst 1, 1) := by decide +kernel
theorem dX3_find_96 : decode cX3_find 96 = .ok (.iload 7, 2) := by decide +kernel
theorem dX3_find_98 : decode cX3_find 98 = .ok (.ishl, 1) := by decide +kernel
theorem dX3_find_99 : decode cX3_find 99 = .ok (.goto 4, 3) := by decide +kernel
theorem dX3_find_102 : decode cX3_find 102 = .ok (.iconst 0, 1) := by decide +kernel
theorem dX3_find_103 : decode cX3_find 103 = .ok (.ior, 1) := by decide +kernel
theorem dX3_find_104 : decode cX3_find 104 = .ok (.istore 5, 2) := by decide +kernel
theorem dX3_find_106 : decode cX3_find 106 = .ok (.iinc 7 1, 3) := by decide +kernel
theorem dX3_find_109 : decode cX3_find 109 = .ok (.goto (-48), 3) := by decide +kernel
theorem dX3_find_112 : decode cX3_find 112 = .ok (.iinc 6 1, 3) := by decide +kernel
theorem dX3_find_115 : decode cX3_find 115 = .ok (.goto (-69), 3) := by decide +kernel
theorem dX3_find_118 : decode cX3_find 118 = .ok (.iconst 0, 1) := by decide +kernel
theorem dX3_find_119 : decode cX3_find 119 = .ok (.istore 6, 2) := by decide +kernel
theorem dX3_find_121 : decode cX3_find 121 = .ok (.iconst 0, 1) := by decide +kernel
theorem dX3_find_122 : decode cX3_find 122 = .ok (.istore 7, 2) := by decide +kernel
theorem dX3_find_124 : decode cX3_find 124 = .ok (.iload 7, 2) := by decide +kernel
theorem dX3_find_126 : decode cX3_find 126 = .ok (.bipush 16, 2) := by decide +kernel
theorem dX3_find_128 : decode cX3_find 128 = .ok (.if_icmp .ge 33, 3) := by decide +kernel
theorem dX3_find_131 : decode cX3_find 131 = .ok (.iload 5, 2) := by decide +kernel
theorem dX3_find_133 : decode cX3_find 133 = .ok (.iload 7, 2) := by decide +kernel
theorem dX3_find_135 : decode cX3_find 135 = .ok (.ishr, 1) := by decide +kernel
theorem dX3_find_136 : decode cX3_find 136 = .ok (.iconst 1, 1) := by decide +kernel
theorem dX3_find_137 : decode cX3_find 137 = .ok (.iand, 1) := by decide +kernel
theorem dX3_find_138 : decode cX3_find 138 = .ok (.iconst 1, 1) := by decide +kernel
theorem dX3_find_139 : decode cX3_find 139 = .ok (.if_icmp .ne 16, 3) := by decide +kernel
theorem dX3_find_142 : decode cX3_find 142 = .ok (.iload 6, 2) := by decide +kernel
theorem dX3_find_144 : decode cX3_find 144 = .ok (.iload 4, 2) := by decide +kernel
theorem dX3_find_146 : decode cX3_find 146 = .ok (.if_icmp .ne 6, 3) := by decide +kernel
theorem dX3_find_149 : decode cX3_find 149 = .ok (.iload 7, 2) := by decide +kernel
theorem dX3_find_151 : decode cX3_find 151 = .ok (.ireturn, 1) := by decide +kernel
theorem dX3_find_152 : decode cX3_find 152 = .ok (.iinc 6 1, 3) := by decide +kernel
theorem dX3_find_155 : decode cX3_find 155 = .ok (.iinc 7 1, 3) := by decide +kernel
theorem dX3_find_158 : decode cX3_find 158 = .ok (.goto (-34), 3) := by decide +kernel
theorem dX3_find_161 : decode cX3_find 161 = .ok (.iload 4, 2) := by decide +kernel
theorem dX3_find_163 : decode cX3_find 163 = .ok (.iconst (-1), 1) := by decide +kernel
theorem dX3_find_164 : decode cX3_find 164 = .ok (.if_icmp .ne 8, 3) := by decide +kernel
theorem dX3_find_167 : decode cX3_find 167 = .ok (.iload 6, 2) := by decide +kernel
theorem dX3_find_169 : decode cX3_find 169 = .ok (.goto 5, 3) := by decide +kernel
theorem dX3_find_172 : decode cX3_find 172 = .ok (.bipush (-6), 2) := by decide +kernel
theorem dX3_find_174 : decode cX3_find 174 = .ok (.ireturn, 1) := by decide +kernel
set_option maxRecDepth 20000 in
theorem ggX3_called_X3_isSite : GoodIn wsX3_called wsX3_isSite := goodIn_r _ [6, 7, 8, 5, 9] (by decide +kernel) (by decide +kernel)
set_option maxRecDepth 20000 in
theorem gX3_called_X3_isSite : GoodIn wsX3_called (va_wsS RX3 85 yX3_isSite wsX3_isSite) := goodIn_app (goodIn_of _ (by decide +kernel)) ggX3_called_X3_isSite
set_option maxRecDepth 20000 in
theorem ggX3_called_X3_areYears : GoodIn wsX3_called wsX3_areYears := goodIn_r _ [12, 13, 14, 5, 15, 7, 8, 9] (by decide +kernel) (by decide +kernel)
set_option maxRecDepth 20000 in
theorem gX3_called_X3_areYears : GoodIn wsX3_called (va_wsS RX3 140 yX3_areYears wsX3_areYears) := goodIn_app (goodIn_of _ (by decide +kernel)) ggX3_called_X3_areYears
set_option maxRecDepth 20000 in
theorem ggX3_called_X3_in : GoodIn wsX3_called wsX3_in := goodIn_r _ [9] (by decide +kernel) (by decide +kernel)
set_option maxRecDepth 20000 in
theorem gX3_called_X3_in : GoodIn wsX3_called (va_wsS RX3 44 yX3_in wsX3_in) := goodIn_app (goodIn_of _ (by decide +kernel)) ggX3_called_X3_in
set_option maxRecDepth 20000 in
theorem ggX3_called_X3_layPad : GoodIn wsX3_called wsX3_layPad := goodIn_r _ [19, 1, 20, 21, 22, 23, 24, 25, 26, 5, 27, 28, 29, 30, 77, 78, 79, 80, 81, 82, 83, 84, 85, 86, 87, 88, 89, 90, 91, 92] (by decide +kernel) (by decide +kernel)
set_option maxRecDepth 20000 in
theorem gX3_called_X3_layPad : GoodIn wsX3_called (wsV RX3 143 RX3 yX3_layPad wsX3_layPad) := goodIn_app (goodIn_of _ (by decide +kernel)) ggX3_called_X3_layPad
set_option maxRecDepth 20000 in
theorem ggX3_called_X3_goTo : GoodIn wsX3_called wsX3_goTo := goodIn_r _ [34, 35, 36, 37, 38, 5, 39, 2, 40, 77, 78, 79, 80, 81, 82, 83, 84, 85, 86, 87, 88, 89, 90, 91, 92] (by decide +kernel) (by decide +kernel)
set_option maxRecDepth 20000 in
theorem gX3_called_X3_goTo : GoodIn wsX3_called (wsV RX3 88 RX3 yX3_goTo wsX3_goTo) := goodIn_app (goodIn_of _ (by decide +kernel)) ggX3_called_X3_goTo
set_option maxRecDepth 20000 in
theorem ggX3_called_X3_isLike : GoodIn wsX3_called wsX3_isLike := goodIn_r _ [44, 45, 46, 47, 5, 48, 49, 50, 51, 52, 53, 54, 55, 56, 40, 35, 57, 58, 59, 60, 25, 26, 27, 28, 29, 30, 61, 62, 63, 64, 20, 21, 65, 66, 67, 68, 24, 23, 69, 70, 71, 72, 73, 74, 75, 76, 77, 78, 79, 80, 81, 82, 83, 84, 85, 86, 87, 88, 89, 90, 91, 92] (by decide +kernel) (by decide +kernel)
set_option maxRecDepth 20000 in
theorem gX3_called_X3_isLike : GoodIn wsX3_called (wsV RX3 146 RX3 yX3_isLike wsX3_isLike) := goodIn_app (goodIn_of _ (by decide +kernel)) ggX3_called_X3_isLike
theorem dX3_called_0 : decode cX3_called 0 = .ok (.iload_n 1, 1) := by decide +kernel
theorem dX3_called_1 : decode cX3_called 1 = .ok (.invokestatic 85, 3) := by decide +kernel
theorem dX3_called_4 : decode cX3_called 4 = .ok (.ifCond .ne 5, 3) := by decide +kernel
theorem dX3_called_7 : decode cX3_called 7 = .ok (.iconst (-1), 1) := by decide +kernel
theorem dX3_called_8 : decode cX3_called 8 = .ok (.ireturn, 1) := by decide +kernel
theorem dX3_called_9 : decode cX3_called 9 = .ok (.iload_n 2, 1) := by decide +kernel
theorem dX3_called_10 : decode cX3_called 10 = .ok (.iload_n 3, 1) := by decide +kernel
theorem dX3_called_11 : decode cX3_called 11 = .ok (.invokestatic 140, 3) := by decide +kernel
theorem dX3_called_14 : decode cX3_called 14 = .ok (.ifCond .eq 23, 3) := by decide +kernel
theorem dX3_called_17 : decode cX3_called 17 = .ok (.iload 4, 2) := by decide +kernel
theorem dX3_called_19 : decode cX3_called 19 = .ok (.iconst 0, 1) := by decide +kernel
theorem dX3_called_20 : decode cX3_called 20 = .ok (.iconst 2, 1) := by decide +kernel
theorem dX3_called_21 : decode cX3_called 21 = .ok (.invokestatic 44, 3) := by decide +kernel
theorem dX3_called_24 : decode cX3_called 24 = .ok (.ifCond .eq 13, 3) := by decide +kernel
theorem dX3_called_27 : decode cX3_called 27 = .ok (.iload 5, 2) := by decide +kernel
theorem dX3_called_29 : decode cX3_called 29 = .ok (.iconst 0, 1) := by decide +kernel
theorem dX3_called_30 : decode cX3_called 30 = .ok (.iconst 2, 1) := by decide +kernel
theorem dX3_called_31 : decode cX3_called 31 = .ok (.invokestatic 44, 3) := by decide +kernel
theorem dX3_called_34 : decode cX3_called 34 = .ok (.ifCond .ne 6, 3) := by decide +kernel
theorem dX3_called_37 : decode cX3_called 37 = .ok (.bipush (-2), 2) := by decide +kernel
theorem dX3_called_39 : decode cX3_called 39 = .ok (.ireturn, 1) := by decide +kernel
theorem dX3_called_40 : decode cX3_called 40 = .ok (.aload_n 0, 1) := by decide +kernel
theorem dX3_called_41 : decode cX3_called 41 = .ok (.getfield 48, 3) := by decide +kernel
theorem dX3_called_44 : decode cX3_called 44 = .ok (.ifCond .ne 6, 3) := by decide +kernel
theorem dX3_called_47 : decode cX3_called 47 = .ok (.bipush (-7), 2) := by decide +kernel
theorem dX3_called_49 : decode cX3_called 49 = .ok (.ireturn, 1) := by decide +kernel
theorem dX3_called_50 : decode cX3_called 50 = .ok (.aload_n 0, 1) := by decide +kernel
theorem dX3_called_51 : decode cX3_called 51 = .ok (.invokevirtual 143, 3) := by decide +kernel
theorem dX3_called_54 : decode cX3_called 54 = .ok (.iconst 0, 1) := by decide +kernel
theorem dX3_called_55 : decode cX3_called 55 = .ok (.istore 6, 2) := by decide +kernel
theorem dX3_called_57 : decode cX3_called 57 = .ok (.bipush (-6), 2) := by decide +kernel
theorem dX3_called_59 : decode cX3_called 59 = .ok (.istore 7, 2) := by decide +kernel
theorem dX3_called_61 : decode cX3_called 61 = .ok (.bipush (-6), 2) := by decide +kernel
theorem dX3_called_63 : decode cX3_called 63 = .ok (.istore 8, 2) := by decide +kernel
theorem dX3_called_65 : decode cX3_called 65 = .ok (.iload_n 2, 1) := by decide +kernel
end
section
theorem dX3_called_66 : decode cX3_called 66 = .ok (.istore 9, 2) := by decide +kernel
theorem dX3_called_68 : decode cX3_called 68 = .ok (.iload 9, 2) := by decide +kernel
theorem dX3_called_70 : decode cX3_called 70 = .ok (.iload_n 3, 1) := by decide +kernel
theorem dX3_called_71 : decode cX3_called 71 = .ok (.if_icmp .gt 51, 3) := by decide +kernel
theorem dX3_called_74 : decode cX3_called 74 = .ok (.aload_n 0, 1) := by decide +kernel
theorem dX3_called_75 : decode cX3_called 75 = .ok (.iload 9, 2) := by decide +kernel
theorem dX3_called_77 : decode cX3_called 77 = .ok (.invokevirtual 88, 3) := by decide +kernel
theorem dX3_called_80 : decode cX3_called 80 = .ok (.aload_n 0, 1) := by decide +kernel
theorem dX3_called_81 : decode cX3_called 81 = .ok (.aload_n 0, 1) := by decide +kernel
theorem dX3_called_82 : decode cX3_called 82 = .ok (.getfield 23, 3) := by decide +kernel
theorem dX3_called_85 : decode cX3_called 85 = .ok (.iload_n 1, 1) := by decide +kernel
theorem dX3_called_86 : decode cX3_called 86 = .ok (.iaload, 1) := by decide +kernel
theorem dX3_called_87 : decode cX3_called 87 = .ok (.iload 4, 2) := by decide +kernel
theorem dX3_called_89 : decode cX3_called 89 = .ok (.invokevirtual 146, 3) := by decide +kernel
theorem dX3_called_92 : decode cX3_called 92 = .ok (.ifCond .eq 24, 3) := by decide +kernel
theorem dX3_called_95 : decode cX3_called 95 = .ok (.iinc 6 1, 3) := by decide +kernel
theorem dX3_called_98 : decode cX3_called 98 = .ok (.iload 7, 2) := by decide +kernel
theorem dX3_called_100 : decode cX3_called 100 = .ok (.ifCond .ge 8, 3) := by decide +kernel
theorem dX3_called_103 : decode cX3_called 103 = .ok (.iload 9, 2) := by decide +kernel
theorem dX3_called_105 : decode cX3_called 105 = .ok (.goto 5, 3) := by decide +kernel
theorem dX3_called_108 : decode cX3_called 108 = .ok (.iload 7, 2) := by decide +kernel
theorem dX3_called_110 : decode cX3_called 110 = .ok (.istore 7, 2) := by decide +kernel
theorem dX3_called_112 : decode cX3_called 112 = .ok (.iload 9, 2) := by decide +kernel
theorem dX3_called_114 : decode cX3_called 114 = .ok (.istore 8, 2) := by decide +kernel
theorem dX3_called_116 : decode cX3_called 116 = .ok (.iinc 9 1, 3) := by decide +kernel
theorem dX3_called_119 : decode cX3_called 119 = .ok (.goto (-51), 3) := by decide +kernel
theorem dX3_called_122 : decode cX3_called 122 = .ok (.iload 5, 2) := by decide +kernel
theorem dX3_called_124 : decode cX3_called 124 = .ok (.ifCond .ne 8, 3) := by decide +kernel
theorem dX3_called_127 : decode cX3_called 127 = .ok (.iload 6, 2) := by decide +kernel
theorem dX3_called_129 : decode cX3_called 129 = .ok (.goto 16, 3) := by decide +kernel
theorem dX3_called_132 : decode cX3_called 132 = .ok (.iload 5, 2) := by decide +kernel
theorem dX3_called_134 : decode cX3_called 134 = .ok (.iconst 1, 1) := by decide +kernel
theorem dX3_called_135 : decode cX3_called 135 = .ok (.if_icmp .ne 8, 3) := by decide +kernel
theorem dX3_called_138 : decode cX3_called 138 = .ok (.iload 7, 2) := by decide +kernel
theorem dX3_called_140 : decode cX3_called 140 = .ok (.goto 5, 3) := by decide +kernel
theorem dX3_called_143 : decode cX3_called 143 = .ok (.iload 8, 2) := by decide +kernel
theorem dX3_called_145 : decode cX3_called 145 = .ok (.ireturn, 1) := by decide +kernel
set_option maxRecDepth 20000 in
theorem ggX3_off_X3_isParish : GoodIn wsX3_off wsX3_isParish := goodIn_r _ [6, 7, 8, 9, 5, 10, 67, 68, 69, 70, 71, 72, 73, 74, 75, 76, 77, 78, 79, 80, 81, 82] (by decide +kernel) (by decide +kernel)
set_option maxRecDepth 20000 in
theorem gX3_off_X3_isParish : GoodIn wsX3_off (wsV RX3 56 RX3 yX3_isParish wsX3_isParish) := goodIn_app (goodIn_of _ (by decide +kernel)) ggX3_off_X3_isParish
set_option maxRecDepth 20000 in
theorem ggX3_off_X3_isYear : GoodIn wsX3_off wsX3_isYear := goodIn_r _ [13, 8, 9, 5, 10] (by decide +kernel) (by decide +kernel)
set_option maxRecDepth 20000 in
theorem gX3_off_X3_isYear : GoodIn wsX3_off (va_wsS RX3 60 yX3_isYear wsX3_isYear) := goodIn_app (goodIn_of _ (by decide +kernel)) ggX3_off_X3_isYear
set_option maxRecDepth 20000 in
theorem ggX3_off_X3_goTo : GoodIn wsX3_off wsX3_goTo := goodIn_r _ [17, 7, 18, 19, 20, 5, 21, 22, 23, 67, 68, 69, 70, 71, 72, 73, 74, 75, 76, 77, 78, 79, 80, 81, 82] (by decide +kernel) (by decide +kernel)
set_option maxRecDepth 20000 in
theorem gX3_off_X3_goTo : GoodIn wsX3_off (wsV RX3 88 RX3 yX3_goTo wsX3_goTo) := goodIn_app (goodIn_of _ (by decide +kernel)) ggX3_off_X3_goTo
set_option maxRecDepth 20000 in
theorem ggX3_off_X3_sitesOf : GoodIn wsX3_off wsX3_sitesOf := goodIn_r _ [27, 22, 67, 68, 69, 70, 71, 72, 73, 74, 75, 76, 77, 78, 79, 80, 81, 82] (by decide +kernel) (by decide +kernel)
set_option maxRecDepth 20000 in
theorem gX3_off_X3_sitesOf : GoodIn wsX3_off (wsV RX3 70 RX3 yX3_sitesOf wsX3_sitesOf) := goodIn_app (goodIn_of _ (by decide +kernel)) ggX3_off_X3_sitesOf
set_option maxRecDepth 20000 in
theorem ggX3_off_X3_layPad : GoodIn wsX3_off wsX3_layPad := goodIn_r _ [31, 1, 32, 33, 34, 35, 36, 37, 38, 5, 39, 40, 41, 42, 67, 68, 69, 70, 71, 72, 73, 74, 75, 76, 77, 78, 79, 80, 81, 82] (by decide +kernel) (by decide +kernel)
set_option maxRecDepth 20000 in
theorem gX3_off_X3_layPad : GoodIn wsX3_off (wsV RX3 143 RX3 yX3_layPad wsX3_layPad) := goodIn_app (goodIn_of _ (by decide +kernel)) ggX3_off_X3_layPad
set_option maxRecDepth 20000 in
theorem ggX3_off_X3_layFirst : GoodIn wsX3_off wsX3_layFirst := goodIn_r _ [46, 47, 48, 49, 50, 51, 52, 53, 5, 54, 23, 7, 55, 56, 57, 58, 37, 38, 39, 40, 41, 42, 67, 68, 69, 70, 71, 72, 73, 74, 75, 76, 77, 78, 79, 80, 81, 82] (by decide +kernel) (by decide +kernel)
set_option maxRecDepth 20000 in
theorem gX3_off_X3_layFirst : GoodIn wsX3_off (wsV RX3 121 RX3 yX3_layFirst wsX3_layFirst) := goodIn_app (goodIn_of _ (by decide +kernel)) ggX3_off_X3_layFirst
set_option maxRecDepth 20000 in
theorem ggX3_off_X3_offNow : GoodIn wsX3_off wsX3_offNow := goodIn_r _ [62, 47, 32, 63, 48, 33, 64, 65, 5, 66, 67, 68, 69, 70, 71, 72, 73, 74, 75, 76, 77, 78, 79, 80, 81, 82] (by decide +kernel) (by decide +kernel)
set_option maxRecDepth 20000 in
theorem gX3_off_X3_offNow : GoodIn wsX3_off (wsV RX3 131 RX3 yX3_offNow wsX3_offNow) := goodIn_app (goodIn_of _ (by decide +kernel)) ggX3_off_X3_offNow
theorem dX3_off_0 : decode cX3_off 0 = .ok (.aload_n 0, 1) := by decide +kernel
theorem dX3_off_1 : decode cX3_off 1 = .ok (.iload_n 1, 1) := by decide +kernel
theorem dX3_off_2 : decode cX3_off 2 = .ok (.invokevirtual 56, 3) := by decide +kernel
theorem dX3_off_5 : decode cX3_off 5 = .ok (.ifCond .ne 5, 3) := by decide +kernel
theorem dX3_off_8 : decode cX3_off 8 = .ok (.iconst (-1), 1) := by decide +kernel
theorem dX3_off_9 : decode cX3_off 9 = .ok (.ireturn, 1) := by decide +kernel
theorem dX3_off_10 : decode cX3_off 10 = .ok (.iload_n 2, 1) := by decide +kernel
theorem dX3_off_11 : decode cX3_off 11 = .ok (.invokestatic 60, 3) := by decide +kernel
theorem dX3_off_14 : decode cX3_off 14 = .ok (.ifCond .ne 6, 3) := by decide +kernel
theorem dX3_off_17 : decode cX3_off 17 = .ok (.bipush (-2), 2) := by decide +kernel
theorem dX3_off_19 : decode cX3_off 19 = .ok (.ireturn, 1) := by decide +kernel
theorem dX3_off_20 : decode cX3_off 20 = .ok (.aload_n 0, 1) := by decide +kernel
theorem dX3_off_21 : decode cX3_off 21 = .ok (.getfield 48, 3) := by decide +kernel
theorem dX3_off_24 : decode cX3_off 24 = .ok (.ifCond .ne 6, 3) := by decide +kernel
theorem dX3_off_27 : decode cX3_off 27 = .ok (.bipush (-7), 2) := by decide +kernel
theorem dX3_off_29 : decode cX3_off 29 = .ok (.ireturn, 1) := by decide +kernel
theorem dX3_off_30 : decode cX3_off 30 = .ok (.aload_n 0, 1) := by decide +kernel
theorem dX3_off_31 : decode cX3_off 31 = .ok (.iload_n 2, 1) := by decide +kernel
theorem dX3_off_32 : decode cX3_off 32 = .ok (.invokevirtual 88, 3) := by decide +kernel
theorem dX3_off_35 : decode cX3_off 35 = .ok (.aload_n 0, 1) := by decide +kernel
theorem dX3_off_36 : decode cX3_off 36 = .ok (.iload_n 1, 1) := by decide +kernel
theorem dX3_off_37 : decode cX3_off 37 = .ok (.invokevirtual 70, 3) := by decide +kernel
theorem dX3_off_40 : decode cX3_off 40 = .ok (.ifCond .ne 6, 3) := by decide +kernel
theorem dX3_off_43 : decode cX3_off 43 = .ok (.bipush (-6), 2) := by decide +kernel
theorem dX3_off_45 : decode cX3_off 45 = .ok (.ireturn, 1) := by decide +kernel
theorem dX3_off_46 : decode cX3_off 46 = .ok (.aload_n 0, 1) := by decide +kernel
theorem dX3_off_47 : decode cX3_off 47 = .ok (.invokevirtual 143, 3) := by decide +kernel
theorem dX3_off_50 : decode cX3_off 50 = .ok (.aload_n 0, 1) := by decide +kernel
theorem dX3_off_51 : decode cX3_off 51 = .ok (.iload_n 1, 1) := by decide +kernel
theorem dX3_off_52 : decode cX3_off 52 = .ok (.invokevirtual 121, 3) := by decide +kernel
theorem dX3_off_55 : decode cX3_off 55 = .ok (.aload_n 0, 1) := by decide +kernel
theorem dX3_off_56 : decode cX3_off 56 = .ok (.invokevirtual 131, 3) := by decide +kernel
theorem dX3_off_59 : decode cX3_off 59 = .ok (.ireturn, 1) := by decide +kernel
theorem dX3_keepFirst_0 : decode cX3_keepFirst 0 = .ok (.aload_n 0, 1) := by decide +kernel
theorem dX3_keepFirst_1 : decode cX3_keepFirst 1 = .ok (.aload_n 0, 1) := by decide +kernel
theorem dX3_keepFirst_2 : decode cX3_keepFirst 2 = .ok (.getfield 101, 3) := by decide +kernel
theorem dX3_keepFirst_5 : decode cX3_keepFirst 5 = .ok (.putfield 111, 3) := by decide +kernel
theorem dX3_keepFirst_8 : decode cX3_keepFirst 8 = .ok (.iconst 0, 1) := by decide +kernel
theorem dX3_keepFirst_9 : decode cX3_keepFirst 9 = .ok (.istore_n 1, 1) := by decide +kernel
theorem dX3_keepFirst_10 : decode cX3_keepFirst 10 = .ok (.iload_n 1, 1) := by decide +kernel
theorem dX3_keepFirst_11 : decode cX3_keepFirst 11 = .ok (.aload_n 0, 1) := by decide +kernel
theorem dX3_keepFirst_12 : decode cX3_keepFirst 12 = .ok (.getfield 101, 3) := by decide +kernel
theorem dX3_keepFirst_15 : decode cX3_keepFirst 15 = .ok (.if_icmp .ge 21, 3) := by decide +kernel
theorem dX3_keepFirst_18 : decode cX3_keepFirst 18 = .ok (.aload_n 0, 1) := by decide +kernel
theorem dX3_keepFirst_19 : decode cX3_keepFirst 19 = .ok (.getfield 32, 3) := by decide +kernel
theorem dX3_keepFirst_22 : decode cX3_keepFirst 22 = .ok (.iload_n 1, 1) := by decide +kernel
theorem dX3_keepFirst_23 : decode cX3_keepFirst 23 = .ok (.aload_n 0, 1) := by decide +kernel
theorem dX3_keepFirst_24 : decode cX3_keepFirst 24 = .ok (.getfield 29, 3) := by decide +kernel
theorem dX3_keepFirst_27 : decode cX3_keepFirst 27 = .ok (.iload_n 1, 1) := by decide +kernel
theorem dX3_keepFirst_28 : decode cX3_keepFirst 28 = .ok (.iaload, 1) := by decide +kernel
theorem dX3_keepFirst_29 : decode cX3_keepFirst 29 = .ok (.iastore, 1) := by decide +kernel
theorem dX3_keepFirst_30 : decode cX3_keepFirst 30 = .ok (.iinc 1 1, 3) := by decide +kernel
theorem dX3_keepFirst_33 : decode cX3_keepFirst 33 = .ok (.goto (-23), 3) := by decide +kernel
theorem dX3_keepFirst_36 : decode cX3_keepFirst 36 = .ok (.return_, 1) := by decide +kernel
set_option maxRecDepth 20000 in
theorem ggX3_span_X3_isSite : GoodIn wsX3_span wsX3_isSite := goodIn_r _ [5, 6, 7, 4, 8] (by decide +kernel) (by decide +kernel)
set_option maxRecDepth 20000 in
theorem gX3_span_X3_isSite : GoodIn wsX3_span (va_wsS RX3 85 yX3_isSite wsX3_isSite) := goodIn_app (goodIn_of _ (by decide +kernel)) ggX3_span_X3_isSite
set_option maxRecDepth 20000 in
theorem ggX3_span_X3_in : GoodIn wsX3_span wsX3_in := goodIn_r _ [8] (by decide +kernel) (by decide +kernel)
set_option maxRecDepth 20000 in
theorem gX3_span_X3_in : GoodIn wsX3_span (va_wsS RX3 44 yX3_in wsX3_in) := goodIn_app (goodIn_of _ (by decide +kernel)) ggX3_span_X3_in
set_option maxRecDepth 20000 in
theorem ggX3_span_X3_goTo : GoodIn wsX3_span wsX3_goTo := goodIn_r _ [12, 13, 14, 15, 16, 4, 17, 1, 18, 51, 52, 53, 54, 55, 56, 57, 58, 59, 60, 61, 62, 63, 64, 65, 66] (by decide +kernel) (by decide +kernel)
set_option maxRecDepth 20000 in
theorem gX3_span_X3_goTo : GoodIn wsX3_span (wsV RX3 88 RX3 yX3_goTo wsX3_goTo) := goodIn_app (goodIn_of _ (by decide +kernel)) ggX3_span_X3_goTo
set_option maxRecDepth 20000 in
theorem ggX3_span_X3_layFirst : GoodIn wsX3_span wsX3_layFirst := goodIn_r _ [22, 23, 24, 25, 26, 27, 28, 29, 4, 30, 18, 13, 31, 32, 33, 34, 35, 36, 37, 38, 39, 40, 51, 52, 53, 54, 55, 56, 57, 58, 59, 60, 61, 62, 63, 64, 65, 66] (by decide +kernel) (by decide +kernel)
set_option maxRecDepth 20000 in
theorem gX3_span_X3_layFirst : GoodIn wsX3_span (wsV RX3 121 RX3 yX3_layFirst wsX3_layFirst) := goodIn_app (goodIn_of _ (by decide +kernel)) ggX3_span_X3_layFirst
set_option maxRecDepth 20000 in
theorem ggX3_span_X3_areSame : GoodIn wsX3_span wsX3_areSame := goodIn_r _ [44, 23, 45, 24, 46, 51, 52, 53, 54, 55, 56, 57, 58, 59, 60, 61, 62, 63, 64, 65, 66] (by decide +kernel) (by decide +kernel)
set_option maxRecDepth 20000 in
theorem gX3_span_X3_areSame : GoodIn wsX3_span (wsV RX3 124 RX3 yX3_areSame wsX3_areSame) := goodIn_app (goodIn_of _ (by decide +kernel)) ggX3_span_X3_areSame
set_option maxRecDepth 20000 in
theorem ggX3_span_X3_keepFirst : GoodIn wsX3_span wsX3_keepFirst := goodIn_r _ [50, 23, 45, 46, 24, 51, 52, 53, 54, 55, 56, 57, 58, 59, 60, 61, 62, 63, 64, 65, 66] (by decide +kernel) (by decide +kernel)
set_option maxRecDepth 20000 in
theorem gX3_span_X3_keepFirst : GoodIn wsX3_span (wsV RX3 149 RX3 yX3_keepFirst wsX3_keepFirst) := goodIn_app (goodIn_of _ (by decide +kernel)) ggX3_span_X3_keepFirst
theorem dX3_span_0 : decode cX3_span 0 = .ok (.iload_n 1, 1) := by decide +kernel
theorem dX3_span_1 : decode cX3_span 1 = .ok (.invokestatic 85, 3) := by decide +kernel
theorem dX3_span_4 : decode cX3_span 4 = .ok (.ifCond .ne 5, 3) := by decide +kernel
theorem dX3_span_7 : decode cX3_span 7 = .ok (.iconst (-1), 1) := by decide +kernel
theorem dX3_span_8 : decode cX3_span 8 = .ok (.ireturn, 1) := by decide +kernel
theorem dX3_span_9 : decode cX3_span 9 = .ok (.iload_n 2, 1) := by decide +kernel
theorem dX3_span_10 : decode cX3_span 10 = .ok (.iconst (-1), 1) := by decide +kernel
theorem dX3_span_11 : decode cX3_span 11 = .ok (.if_icmp .lt 12, 3) := by decide +kernel
theorem dX3_span_14 : decode cX3_span 14 = .ok (.iload_n 3, 1) := by decide +kernel
theorem dX3_span_15 : decode cX3_span 15 = .ok (.iconst 0, 1) := by decide +kernel
theorem dX3_span_16 : decode cX3_span 16 = .ok (.iconst 2, 1) := by decide +kernel
theorem dX3_span_17 : decode cX3_span 17 = .ok (.invokestatic 44, 3) := by decide +kernel
theorem dX3_span_20 : decode cX3_span 20 = .ok (.ifCond .ne 6, 3) := by decide +kernel
theorem dX3_span_23 : decode cX3_span 23 = .ok (.bipush (-2), 2) := by decide +kernel
theorem dX3_span_25 : decode cX3_span 25 = .ok (.ireturn, 1) := by decide +kernel
theorem dX3_span_26 : decode cX3_span 26 = .ok (.iconst 0, 1) := by decide +kernel
theorem dX3_span_27 : decode cX3_span 27 = .ok (.istore 4, 2) := by decide +kernel
theorem dX3_span_29 : decode cX3_span 29 = .ok (.iconst 0, 1) := by decide +kernel
theorem dX3_span_30 : decode cX3_span 30 = .ok (.istore 5, 2) := by decide +kernel
theorem dX3_span_32 : decode cX3_span 32 = .ok (.bipush (-6), 2) := by decide +kernel
theorem dX3_span_34 : decode cX3_span 34 = .ok (.istore 6, 2) := by decide +kernel
theorem dX3_span_36 : decode cX3_span 36 = .ok (.iconst 0, 1) := by decide +kernel
theorem dX3_span_37 : decode cX3_span 37 = .ok (.istore 7, 2) := by decide +kernel
theorem dX3_span_39 : decode cX3_span 39 = .ok (.iload 7, 2) := by decide +kernel
theorem dX3_span_41 : decode cX3_span 41 = .ok (.sipush 1000, 3) := by decide +kernel
theorem dX3_span_44 : decode cX3_span 44 = .ok (.if_icmp .ge 99, 3) := by decide +kernel
theorem dX3_span_47 : decode cX3_span 47 = .ok (.aload_n 0, 1) := by decide +kernel
theorem dX3_span_48 : decode cX3_span 48 = .ok (.iload 7, 2) := by decide +kernel
theorem dX3_span_50 : decode cX3_span 50 = .ok (.invokevirtual 88, 3) := by decide +kernel
theorem dX3_span_53 : decode cX3_span 53 = .ok (.aload_n 0, 1) := by decide +kernel
theorem dX3_span_54 : decode cX3_span 54 = .ok (.aload_n 0, 1) := by decide +kernel
theorem dX3_span_55 : decode cX3_span 55 = .ok (.getfield 23, 3) := by decide +kernel
theorem dX3_span_58 : decode cX3_span 58 = .ok (.iload_n 1, 1) := by decide +kernel
theorem dX3_span_59 : decode cX3_span 59 = .ok (.iaload, 1) := by decide +kernel
theorem dX3_span_60 : decode cX3_span 60 = .ok (.invokevirtual 121, 3) := by decide +kernel
theorem dX3_span_63 : decode cX3_span 63 = .ok (.aload_n 0, 1) := by decide +kernel
theorem dX3_span_64 : decode cX3_span 64 = .ok (.getfield 23, 3) := by decide +kernel
theorem dX3_span_67 : decode cX3_span 67 = .ok (.iload_n 1, 1) := by decide +kernel
theorem dX3_span_68 : decode cX3_span 68 = .ok (.iaload, 1) := by decide +kernel
theorem dX3_span_69 : decode cX3_span 69 = .ok (.iload 6, 2) := by decide +kernel
theorem dX3_span_71 : decode cX3_span 71 = .ok (.if_icmp .ne 10, 3) := by decide +kernel
theorem dX3_span_74 : decode cX3_span 74 = .ok (.aload_n 0, 1) := by decide +kernel
theorem dX3_span_75 : decode cX3_span 75 = .ok (.invokevirtual 124, 3) := by decide +kernel
theorem dX3_span_78 : decode cX3_span 78 = .ok (.ifCond .ne 59, 3) := by decide +kernel
theorem dX3_span_81 : decode cX3_span 81 = .ok (.iload 4, 2) := by decide +kernel
theorem dX3_span_83 : decode cX3_span 83 = .ok (.ifCond .le 35, 3) := by decide +kernel
theorem dX3_span_86 : decode cX3_span 86 = .ok (.iload 4, 2) := by decide +kernel
theorem dX3_span_88 : decode cX3_span 88 = .ok (.iconst 1, 1) := by decide +kernel
theorem dX3_span_89 : decode cX3_span 89 = .ok (.isub, 1) := by decide +kernel
theorem dX3_span_90 : decode cX3_span 90 = .ok (.iload_n 2, 1) := by decide +kernel
theorem dX3_span_91 : decode cX3_span 91 = .ok (.if_icmp .ne 27, 3) := by decide +kernel
theorem dX3_span_94 : decode cX3_span 94 = .ok (.iload_n 3, 1) := by decide +kernel
theorem dX3_span_95 : decode cX3_span 95 = .ok (.ifCond .ne 8, 3) := by decide +kernel
theorem dX3_span_98 : decode cX3_span 98 = .ok (.iload 5, 2) := by decide +kernel
theorem dX3_span_100 : decode cX3_span 100 = .ok (.goto 17, 3) := by decide +kernel
theorem dX3_span_103 : decode cX3_span 103 = .ok (.iload_n 3, 1) := by decide +kernel
theorem dX3_span_104 : decode cX3_span 104 = .ok (.iconst 1, 1) := by decide +kernel
theorem dX3_span_105 : decode cX3_span 105 = .ok (.if_icmp .ne 10, 3) := by decide +kernel
theorem dX3_span_108 : decode cX3_span 108 = .ok (.iload 7, 2) := by decide +kernel
theorem dX3_span_110 : decode cX3_span 110 = .ok (.iconst 1, 1) := by decide +kernel
theorem dX3_span_111 : decode cX3_span 111 = .ok (.isub, 1) := by decide +kernel
theorem dX3_span_112 : decode cX3_span 112 = .ok (.goto 5, 3) := by decide +kernel
theorem dX3_span_115 : decode cX3_span 115 = .ok (.iload 6, 2) := by decide +kernel
theorem dX3_span_117 : decode cX3_span 117 = .ok (.ireturn, 1) := by decide +kernel
theorem dX3_span_118 : decode cX3_span 118 = .ok (.iinc 4 1, 3) := by decide +kernel
theorem dX3_span_121 : decode cX3_span 121 = .ok (.iload 7, 2) := by decide +kernel
theorem dX3_span_123 : decode cX3_span 123 = .ok (.istore 5, 2) := by decide +kernel
theorem dX3_span_125 : decode cX3_span 125 = .ok (.aload_n 0, 1) := by decide +kernel
theorem dX3_span_126 : decode cX3_span 126 = .ok (.getfield 23, 3) := by decide +kernel
theorem dX3_span_129 : decode cX3_span 129 = .ok (.iload_n 1, 1) := by decide +kernel
theorem dX3_span_130 : decode cX3_span 130 = .ok (.iaload, 1) := by decide +kernel
theorem dX3_span_131 : decode cX3_span 131 = .ok (.istore 6, 2) := by decide +kernel
theorem dX3_span_133 : decode cX3_span 133 = .ok (.aload_n 0, 1) := by decide +kernel
theorem dX3_span_134 : decode cX3_span 134 = .ok (.invokevirtual 149, 3) := by decide +kernel
theorem dX3_span_137 : decode cX3_span 137 = .ok (.iinc 7 1, 3) := by decide +kernel
theorem dX3_span_140 : decode cX3_span 140 = .ok (.goto (-101), 3) := by decide +kernel
theorem dX3_span_143 : decode cX3_span 143 = .ok (.iload 4, 2) := by decide +kernel
theorem dX3_span_145 : decode cX3_span 145 = .ok (.iconst 1, 1) := by decide +kernel
theorem dX3_span_146 : decode cX3_span 146 = .ok (.isub, 1) := by decide +kernel
theorem dX3_span_147 : decode cX3_span 147 = .ok (.iload_n 2, 1) := by decide +kernel
theorem dX3_span_148 : decode cX3_span 148 = .ok (.if_icmp .ne 26, 3) := by decide +kernel
theorem dX3_span_151 : decode cX3_span 151 = .ok (.iload_n 3, 1) := by decide +kernel
theorem dX3_span_152 : decode cX3_span 152 = .ok (.ifCond .ne 8, 3) := by decide +kernel
theorem dX3_span_155 : decode cX3_span 155 = .ok (.iload 5, 2) := by decide +kernel
theorem dX3_span_157 : decode cX3_span 157 = .ok (.goto 16, 3) := by decide +kernel
theorem dX3_span_160 : decode cX3_span 160 = .ok (.iload_n 3, 1) := by decide +kernel
theorem dX3_span_161 : decode cX3_span 161 = .ok (.iconst 1, 1) := by decide +kernel
theorem dX3_span_162 : decode cX3_span 162 = .ok (.if_icmp .ne 9, 3) := by decide +kernel
theorem dX3_span_165 : decode cX3_span 165 = .ok (.sipush 999, 3) := by decide +kernel
theorem dX3_span_168 : decode cX3_span 168 = .ok (.goto 5, 3) := by decide +kernel
theorem dX3_span_171 : decode cX3_span 171 = .ok (.iload 6, 2) := by decide +kernel
theorem dX3_span_173 : decode cX3_span 173 = .ok (.ireturn, 1) := by decide +kernel
theorem dX3_span_174 : decode cX3_span 174 = .ok (.iload_n 2, 1) := by decide +kernel
theorem dX3_span_175 : decode cX3_span 175 = .ok (.iconst (-1), 1) := by decide +kernel
theorem dX3_span_176 : decode cX3_span 176 = .ok (.if_icmp .ne 8, 3) := by decide +kernel
theorem dX3_span_179 : decode cX3_span 179 = .ok (.iload 4, 2) := by decide +kernel
theorem dX3_span_181 : decode cX3_span 181 = .ok (.goto 5, 3) := by decide +kernel
theorem dX3_span_184 : decode cX3_span 184 = .ok (.bipush (-6), 2) := by decide +kernel
theorem dX3_span_186 : decode cX3_span 186 = .ok (.ireturn, 1) := by decide +kernel
set_option maxRecDepth 20000 in
theorem ggX3_heirs_X3_isParish : GoodIn wsX3_heirs wsX3_isParish := goodIn_r _ [6, 7, 8, 9, 5, 10, 27, 28, 29, 30, 31, 32, 33, 34, 35, 36, 37, 38, 39, 40, 41, 42] (by decide +kernel) (by decide +kernel)
set_option maxRecDepth 20000 in
theorem gX3_heirs_X3_isParish : GoodIn wsX3_heirs (wsV RX3 56 RX3 yX3_isParish wsX3_isParish) := goodIn_app (goodIn_of _ (by decide +kernel)) ggX3_heirs_X3_isParish
set_option maxRecDepth 20000 in
theorem ggX3_heirs_X3_isYear : GoodIn wsX3_heirs wsX3_isYear := goodIn_r _ [13, 8, 9, 5, 10] (by decide +kernel) (by decide +kernel)
set_option maxRecDepth 20000 in
theorem gX3_heirs_X3_isYear : GoodIn wsX3_heirs (va_wsS RX3 60 yX3_isYear wsX3_isYear) := goodIn_app (goodIn_of _ (by decide +kernel)) ggX3_heirs_X3_isYear
set_option maxRecDepth 20000 in
theorem ggX3_heirs_X3_goTo : GoodIn wsX3_heirs wsX3_goTo := goodIn_r _ [17, 7, 18, 19, 20, 5, 21, 1, 22, 27, 28, 29, 30, 31, 32, 33, 34, 35, 36, 37, 38, 39, 40, 41, 42] (by decide +kernel) (by decide +kernel)
set_option maxRecDepth 20000 in
theorem gX3_heirs_X3_goTo : GoodIn wsX3_heirs (wsV RX3 88 RX3 yX3_goTo wsX3_goTo) := goodIn_app (goodIn_of _ (by decide +kernel)) ggX3_heirs_X3_goTo
set_option maxRecDepth 20000 in
theorem ggX3_heirs_X3_sitesOf : GoodIn wsX3_heirs wsX3_sitesOf := goodIn_r _ [26, 1, 27, 28, 29, 30, 31, 32, 33, 34, 35, 36, 37, 38, 39, 40, 41, 42] (by decide +kernel) (by decide +kernel)
set_option maxRecDepth 20000 in
theorem gX3_heirs_X3_sitesOf : GoodIn wsX3_heirs (wsV RX3 70 RX3 yX3_sitesOf wsX3_sitesOf) := goodIn_app (goodIn_of _ (by decide +kernel)) ggX3_heirs_X3_sitesOf
theorem dX3_heirs_0 : decode cX3_heirs 0 = .ok (.aload_n 0, 1) := by decide +kernel
theorem dX3_heirs_1 : decode cX3_heirs 1 = .ok (.iload_n 1, 1) := by decide +kernel
theorem dX3_heirs_2 : decode cX3_heirs 2 = .ok (.invokevirtual 56, 3) := by decide +kernel
theorem dX3_heirs_5 : decode cX3_heirs 5 = .ok (.ifCond .ne 5, 3) := by decide +kernel
theorem dX3_heirs_8 : decode cX3_heirs 8 = .ok (.iconst (-1), 1) := by decide +kernel
theorem dX3_heirs_9 : decode cX3_heirs 9 = .ok (.ireturn, 1) := by decide +kernel
theorem dX3_heirs_10 : decode cX3_heirs 10 = .ok (.iload_n 2, 1) := by decide +kernel
theorem dX3_heirs_11 : decode cX3_heirs 11 = .ok (.invokestatic 60, 3) := by decide +kernel
theorem dX3_heirs_14 : decode cX3_heirs 14 = .ok (.ifCond .eq 10, 3) := by decide +kernel
theorem dX3_heirs_17 : decode cX3_heirs 17 = .ok (.iload_n 3, 1) := by decide +kernel
theorem dX3_heirs_18 : decode cX3_heirs 18 = .ok (.invokestatic 60, 3) := by decide +kernel
theorem dX3_heirs_21 : decode cX3_heirs 21 = .ok (.ifCond .ne 6, 3) := by decide +kernel
theorem dX3_heirs_24 : decode cX3_heirs 24 = .ok (.bipush (-2), 2) := by decide +kernel
theorem dX3_heirs_26 : decode cX3_heirs 26 = .ok (.ireturn, 1) := by decide +kernel
theorem dX3_heirs_27 : decode cX3_heirs 27 = .ok (.aload_n 0, 1) := by decide +kernel
theorem dX3_heirs_28 : decode cX3_heirs 28 = .ok (.iload_n 2, 1) := by decide +kernel
theorem dX3_heirs_29 : decode cX3_heirs 29 = .ok (.invokevirtual 88, 3) := by decide +kernel
theorem dX3_heirs_32 : decode cX3_heirs 32 = .ok (.aload_n 0, 1) := by decide +kernel
theorem dX3_heirs_33 : decode cX3_heirs 33 = .ok (.iload_n 1, 1) := by decide +kernel
theorem dX3_heirs_34 : decode cX3_heirs 34 = .ok (.invokevirtual 70, 3) := by decide +kernel
theorem dX3_heirs_37 : decode cX3_heirs 37 = .ok (.istore 4, 2) := by decide +kernel
theorem dX3_heirs_39 : decode cX3_heirs 39 = .ok (.aload_n 0, 1) := by decide +kernel
theorem dX3_heirs_40 : decode cX3_heirs 40 = .ok (.iload_n 3, 1) := by decide +kernel
theorem dX3_heirs_41 : decode cX3_heirs 41 = .ok (.invokevirtual 88, 3) := by decide +kernel
theorem dX3_heirs_44 : decode cX3_heirs 44 = .ok (.iconst 0, 1) := by decide +kernel
theorem dX3_heirs_45 : decode cX3_heirs 45 = .ok (.istore 5, 2) := by decide +kernel
theorem dX3_heirs_47 : decode cX3_heirs 47 = .ok (.iconst 0, 1) := by decide +kernel
theorem dX3_heirs_48 : decode cX3_heirs 48 = .ok (.istore 6, 2) := by decide +kernel
theorem dX3_heirs_50 : decode cX3_heirs 50 = .ok (.iload 6, 2) := by decide +kernel
theorem dX3_heirs_52 : decode cX3_heirs 52 = .ok (.bipush 12, 2) := by decide +kernel
theorem dX3_heirs_54 : decode cX3_heirs 54 = .ok (.if_icmp .ge 38, 3) := by decide +kernel
theorem dX3_heirs_57 : decode cX3_heirs 57 = .ok (.iload 5, 2) := by decide +kernel
theorem dX3_heirs_59 : decode cX3_heirs 59 = .ok (.iload 4, 2) := by decide +kernel
theorem dX3_heirs_61 : decode cX3_heirs 61 = .ok (.iload 6, 2) := by decide +kernel
theorem dX3_heirs_63 : decode cX3_heirs 63 = .ok (.ishr, 1) := by decide +kernel
theorem dX3_heirs_64 : decode cX3_heirs 64 = .ok (.iconst 1, 1) := by decide +kernel
theorem dX3_heirs_65 : decode cX3_heirs 65 = .ok (.iand, 1) := by decide +kernel
theorem dX3_heirs_66 : decode cX3_heirs 66 = .ok (.iconst 1, 1) := by decide +kernel
theorem dX3_heirs_67 : decode cX3_heirs 67 = .ok (.if_icmp .ne 15, 3) := by decide +kernel
theorem dX3_heirs_70 : decode cX3_heirs 70 = .ok (.iconst 1, 1) := by decide +kernel
theorem dX3_heirs_71 : decode cX3_heirs 71 = .ok (.aload_n 0, 1) := by decide +kernel
theorem dX3_heirs_72 : decode cX3_heirs 72 = .ok (.getfield 23, 3) := by decide +kernel
theorem dX3_heirs_75 : decode cX3_heirs 75 = .ok (.iload 6, 2) := by decide +kernel
theorem dX3_heirs_77 : decode cX3_heirs 77 = .ok (.iaload, 1) := by decide +kernel
theorem dX3_heirs_78 : decode cX3_heirs 78 = .ok (.ishl, 1) := by decide +kernel
theorem dX3_heirs_79 : decode cX3_heirs 79 = .ok (.goto 4, 3) := by decide +kernel
theorem dX3_heirs_82 : decode cX3_heirs 82 = .ok (.iconst 0, 1) := by decide +kernel
theorem dX3_heirs_83 : decode cX3_heirs 83 = .ok (.ior, 1) := by decide +kernel
theorem dX3_heirs_84 : decode cX3_heirs 84 = .ok (.istore 5, 2) := by decide +kernel
theorem dX3_heirs_86 : decode cX3_heirs 86 = .ok (.iinc 6 1, 3) := by decide +kernel
theorem dX3_heirs_89 : decode cX3_heirs 89 = .ok (.goto (-39), 3) := by decide +kernel
theorem dX3_heirs_92 : decode cX3_heirs 92 = .ok (.iload 5, 2) := by decide +kernel
theorem dX3_heirs_94 : decode cX3_heirs 94 = .ok (.ireturn, 1) := by decide +kernel
set_option maxRecDepth 20000 in
theorem ggX3_image_X3_in : GoodIn wsX3_image wsX3_in := goodIn_r _ [7] (by decide +kernel) (by decide +kernel)
set_option maxRecDepth 20000 in
theorem gX3_image_X3_in : GoodIn wsX3_image (va_wsS RX3 44 yX3_in wsX3_in) := goodIn_app (goodIn_of _ (by decide +kernel)) ggX3_image_X3_in
theorem dX3_image_0 : decode cX3_image 0 = .ok (.iload_n 1, 1) := by decide +kernel
theorem dX3_image_1 : decode cX3_image 1 = .ok (.iconst 0, 1) := by decide +kernel
theorem dX3_image_2 : decode cX3_image 2 = .ok (.iconst 1, 1) := by decide +kernel
theorem dX3_image_3 : decode cX3_image 3 = .ok (.invokestatic 44, 3) := by decide +kernel
theorem dX3_image_6 : decode cX3_image 6 = .ok (.ifCond .ne 6, 3) := by decide +kernel
theorem dX3_image_9 : decode cX3_image 9 = .ok (.bipush (-2), 2) := by decide +kernel
theorem dX3_image_11 : decode cX3_image 11 = .ok (.ireturn, 1) := by decide +kernel
theorem dX3_image_12 : decode cX3_image 12 = .ok (.iconst 0, 1) := by decide +kernel
theorem dX3_image_13 : decode cX3_image 13 = .ok (.istore_n 2, 1) := by decide +kernel
theorem dX3_image_14 : decode cX3_image 14 = .ok (.iload_n 2, 1) := by decide +kernel
theorem dX3_image_15 : decode cX3_image 15 = .ok (.sipush 422, 3) := by decide +kernel
theorem dX3_image_18 : decode cX3_image 18 = .ok (.if_icmp .ge 27, 3) := by decide +kernel
theorem dX3_image_21 : decode cX3_image 21 = .ok (.aload_n 0, 1) := by decide +kernel
theorem dX3_image_22 : decode cX3_image 22 = .ok (.getfield 13, 3) := by decide +kernel
theorem dX3_image_25 : decode cX3_image 25 = .ok (.sipush 422, 3) := by decide +kernel
theorem dX3_image_28 : decode cX3_image 28 = .ok (.iload_n 1, 1) := by decide +kernel
theorem dX3_image_29 : decode cX3_image 29 = .ok (.imul, 1) := by decide +kernel
theorem dX3_image_30 : decode cX3_image 30 = .ok (.iload_n 2, 1) := by decide +kernel
theorem dX3_image_31 : decode cX3_image 31 = .ok (.iadd, 1) := by decide +kernel
theorem dX3_image_32 : decode cX3_image 32 = .ok (.aload_n 0, 1) := by decide +kernel
theorem dX3_image_33 : decode cX3_image 33 = .ok (.getfield 7, 3) := by decide +kernel
theorem dX3_image_36 : decode cX3_image 36 = .ok (.iload_n 2, 1) := by decide +kernel
theorem dX3_image_37 : decode cX3_image 37 = .ok (.iaload, 1) := by decide +kernel
theorem dX3_image_38 : decode cX3_image 38 = .ok (.iastore, 1) := by decide +kernel
theorem dX3_image_39 : decode cX3_image 39 = .ok (.iinc 2 1, 3) := by decide +kernel
theorem dX3_image_42 : decode cX3_image 42 = .ok (.goto (-28), 3) := by decide +kernel
theorem dX3_image_45 : decode cX3_image 45 = .ok (.aload_n 0, 1) := by decide +kernel
theorem dX3_image_46 : decode cX3_image 46 = .ok (.getfield 16, 3) := by decide +kernel
theorem dX3_image_49 : decode cX3_image 49 = .ok (.iload_n 1, 1) := by decide +kernel
theorem dX3_image_50 : decode cX3_image 50 = .ok (.iconst 1, 1) := by decide +kernel
theorem dX3_image_51 : decode cX3_image 51 = .ok (.bastore, 1) := by decide +kernel
theorem dX3_image_52 : decode cX3_image 52 = .ok (.iconst 1, 1) := by decide +kernel
theorem dX3_image_53 : decode cX3_image 53 = .ok (.ireturn, 1) := by decide +kernel
set_option maxRecDepth 20000 in
theorem ggX3_restore_X3_in : GoodIn wsX3_restore wsX3_in := goodIn_r _ [7] (by decide +kernel) (by decide +kernel)
set_option maxRecDepth 20000 in
theorem gX3_restore_X3_in : GoodIn wsX3_restore (va_wsS RX3 44 yX3_in wsX3_in) := goodIn_app (goodIn_of _ (by decide +kernel)) ggX3_restore_X3_in
theorem dX3_restore_0 : decode cX3_restore 0 = .ok (.iload_n 1, 1) := by decide +kernel
theorem dX3_restore_1 : decode cX3_restore 1 = .ok (.iconst 0, 1) := by decide +kernel
theorem dX3_restore_2 : decode cX3_restore 2 = .ok (.iconst 1, 1) := by decide +kernel
theorem dX3_restore_3 : decode cX3_restore 3 = .ok (.invokestatic 44, 3) := by decide +kernel
theorem dX3_restore_6 : decode cX3_restore 6 = .ok (.ifCond .ne 6, 3) := by decide +kernel
theorem dX3_restore_9 : decode cX3_restore 9 = .ok (.bipush (-2), 2) := by decide +kernel
theorem dX3_restore_11 : decode cX3_restore 11 = .ok (.ireturn, 1) := by decide +kernel
theorem dX3_restore_12 : decode cX3_restore 12 = .ok (.aload_n 0, 1) := by decide +kernel
theorem dX3_restore_13 : decode cX3_restore 13 = .ok (.getfield 16, 3) := by decide +kernel
theorem dX3_restore_16 : decode cX3_restore 16 = .ok (.iload_n 1, 1) := by decide +kernel
theorem dX3_restore_17 : decode cX3_restore 17 = .ok (.baload, 1) := by decide +kernel
theorem dX3_restore_18 : decode cX3_restore 18 = .ok (.ifCond .ne 6, 3) := by decide +kernel
theorem dX3_restore_21 : decode cX3_restore 21 = .ok (.bipush (-3), 2) := by decide +kernel
theorem dX3_restore_23 : decode cX3_restore 23 = .ok (.ireturn, 1) := by decide +kernel
theorem dX3_restore_24 : decode cX3_restore 24 = .ok (.iconst 0, 1) := by decide +kernel
theorem dX3_restore_25 : decode cX3_restore 25 = .ok (.istore_n 2, 1) := by decide +kernel
theorem dX3_restore_26 : decode cX3_restore 26 = .ok (.iload_n 2, 1) := by decide +kernel
theorem dX3_restore_27 : decode cX3_restore 27 = .ok (.sipush 422, 3) := by decide +kernel
theorem dX3_restore_30 : decode cX3_restore 30 = .ok (.if_icmp .ge 27, 3) := by decide +kernel
theorem dX3_restore_33 : decode cX3_restore 33 = .ok (.aload_n 0, 1) := by decide +kernel
theorem dX3_restore_34 : decode cX3_restore 34 = .ok (.getfield 7, 3) := by decide +kernel
theorem dX3_restore_37 : decode cX3_restore 37 = .ok (.iload_n 2, 1) := by decide +kernel
theorem dX3_restore_38 : decode cX3_restore 38 = .ok (.aload_n 0, 1) := by decide +kernel
theorem dX3_restore_39 : decode cX3_restore 39 = .ok (.getfield 13, 3) := by decide +kernel
theorem dX3_restore_42 : decode cX3_restore 42 = .ok (.sipush 422, 3) := by decide +kernel
theorem dX3_restore_45 : decode cX3_restore 45 = .ok (.iload_n 1, 1) := by decide +kernel
theorem dX3_restore_46 : decode cX3_restore 46 = .ok (.imul, 1) := by decide +kernel
theorem dX3_restore_47 : decode cX3_restore 47 = .ok (.iload_n 2, 1) := by decide +kernel
theorem dX3_restore_48 : decode cX3_restore 48 = .ok (.iadd, 1) := by decide +kernel
theorem dX3_restore_49 : decode cX3_restore 49 = .ok (.iaload, 1) := by decide +kernel
theorem dX3_restore_50 : decode cX3_restore 50 = .ok (.iastore, 1) := by decide +kernel
theorem dX3_restore_51 : decode cX3_restore 51 = .ok (.iinc 2 1, 3) := by decide +kernel
theorem dX3_restore_54 : decode cX3_restore 54 = .ok (.goto (-28), 3) := by decide +kernel
theorem dX3_restore_57 : decode cX3_restore 57 = .ok (.iconst 1, 1) := by decide +kernel
theorem dX3_restore_58 : decode cX3_restore 58 = .ok (.ireturn, 1) := by decide +kernel
set_option maxRecDepth 20000 in
theorem ggX3_thereNow_X3_goToEnd : GoodIn wsX3_thereNow wsX3_goToEnd := goodIn_r _ [6, 1, 7, 8, 9, 5, 10, 11, 12, 17, 18, 19, 20, 21, 22, 23, 24, 25, 26, 27, 28, 29, 30, 31, 32] (by decide +kernel) (by decide +kernel)
set_option maxRecDepth 20000 in
theorem gX3_thereNow_X3_goToEnd : GoodIn wsX3_thereNow (wsV RX3 67 RX3 yX3_goToEnd wsX3_goToEnd) := goodIn_app (goodIn_of _ (by decide +kernel)) ggX3_thereNow_X3_goToEnd
set_option maxRecDepth 20000 in
theorem ggX3_thereNow_X3_sitesOf : GoodIn wsX3_thereNow wsX3_sitesOf := goodIn_r _ [16, 11, 17, 18, 19, 20, 21, 22, 23, 24, 25, 26, 27, 28, 29, 30, 31, 32] (by decide +kernel) (by decide +kernel)
set_option maxRecDepth 20000 in
theorem gX3_thereNow_X3_sitesOf : GoodIn wsX3_thereNow (wsV RX3 70 RX3 yX3_sitesOf wsX3_sitesOf) := goodIn_app (goodIn_of _ (by decide +kernel)) ggX3_thereNow_X3_sitesOf
theorem dX3_thereNow_0 : decode cX3_thereNow 0 = .ok (.aload_n 0, 1) := by decide +kernel
theorem dX3_thereNow_1 : decode cX3_thereNow 1 = .ok (.invokevirtual 67, 3) := by decide +kernel
theorem dX3_thereNow_4 : decode cX3_thereNow 4 = .ok (.iconst 0, 1) := by decide +kernel
theorem dX3_thereNow_5 : decode cX3_thereNow 5 = .ok (.istore_n 1, 1) := by decide +kernel
theorem dX3_thereNow_6 : decode cX3_thereNow 6 = .ok (.iconst 0, 1) := by decide +kernel
theorem dX3_thereNow_7 : decode cX3_thereNow 7 = .ok (.istore_n 2, 1) := by decide +kernel
theorem dX3_thereNow_8 : decode cX3_thereNow 8 = .ok (.iload_n 2, 1) := by decide +kernel
theorem dX3_thereNow_9 : decode cX3_thereNow 9 = .ok (.aload_n 0, 1) := by decide +kernel
theorem dX3_thereNow_10 : decode cX3_thereNow 10 = .ok (.getfield 7, 3) := by decide +kernel
theorem dX3_thereNow_13 : decode cX3_thereNow 13 = .ok (.sipush 421, 3) := by decide +kernel
theorem dX3_thereNow_16 : decode cX3_thereNow 16 = .ok (.iaload, 1) := by decide +kernel
theorem dX3_thereNow_17 : decode cX3_thereNow 17 = .ok (.if_icmp .ge 25, 3) := by decide +kernel
theorem dX3_thereNow_20 : decode cX3_thereNow 20 = .ok (.iload_n 1, 1) := by decide +kernel
theorem dX3_thereNow_21 : decode cX3_thereNow 21 = .ok (.aload_n 0, 1) := by decide +kernel
theorem dX3_thereNow_22 : decode cX3_thereNow 22 = .ok (.iload_n 2, 1) := by decide +kernel
theorem dX3_thereNow_23 : decode cX3_thereNow 23 = .ok (.invokevirtual 70, 3) := by decide +kernel
theorem dX3_thereNow_26 : decode cX3_thereNow 26 = .ok (.ifCond .eq 7, 3) := by decide +kernel
theorem dX3_thereNow_29 : decode cX3_thereNow 29 = .ok (.iconst 1, 1) := by decide +kernel
theorem dX3_thereNow_30 : decode cX3_thereNow 30 = .ok (.goto 4, 3) := by decide +kernel
theorem dX3_thereNow_33 : decode cX3_thereNow 33 = .ok (.iconst 0, 1) := by decide +kernel
theorem dX3_thereNow_34 : decode cX3_thereNow 34 = .ok (.iadd, 1) := by decide +kernel
theorem dX3_thereNow_35 : decode cX3_thereNow 35 = .ok (.istore_n 1, 1) := by decide +kernel
theorem dX3_thereNow_36 : decode cX3_thereNow 36 = .ok (.iinc 2 1, 3) := by decide +kernel
theorem dX3_thereNow_39 : decode cX3_thereNow 39 = .ok (.goto (-31), 3) := by decide +kernel
theorem dX3_thereNow_42 : decode cX3_thereNow 42 = .ok (.iload_n 1, 1) := by decide +kernel
theorem dX3_thereNow_43 : decode cX3_thereNow 43 = .ok (.ireturn, 1) := by decide +kernel
set_option maxRecDepth 20000 in
theorem ggX3_namesNow_X3_goToEnd : GoodIn wsX3_namesNow wsX3_goToEnd := goodIn_r _ [6, 1, 7, 8, 9, 5, 10, 11, 12, 49, 50, 51, 52, 53, 54, 55, 56, 57, 58, 59, 60, 61, 62, 63, 64] (by decide +kernel) (by decide +kernel)
set_option maxRecDepth 20000 in
theorem gX3_namesNow_X3_goToEnd : GoodIn wsX3_namesNow (wsV RX3 67 RX3 yX3_goToEnd wsX3_goToEnd) := goodIn_app (goodIn_of _ (by decide +kernel)) ggX3_namesNow_X3_goToEnd
set_option maxRecDepth 20000 in
theorem ggX3_namesNow_X3_sitesOf : GoodIn wsX3_namesNow wsX3_sitesOf := goodIn_r _ [16, 11, 49, 50, 51, 52, 53, 54, 55, 56, 57, 58, 59, 60, 61, 62, 63, 64] (by decide +kernel) (by decide +kernel)
set_option maxRecDepth 20000 in
theorem gX3_namesNow_X3_sitesOf : GoodIn wsX3_namesNow (wsV RX3 70 RX3 yX3_sitesOf wsX3_sitesOf) := goodIn_app (goodIn_of _ (by decide +kernel)) ggX3_namesNow_X3_sitesOf
set_option maxRecDepth 20000 in
theorem ggX3_namesNow_X3_layFirst : GoodIn wsX3_namesNow wsX3_layFirst := goodIn_r _ [20, 21, 22, 23, 24, 25, 26, 27, 5, 28, 12, 1, 29, 30, 31, 32, 33, 34, 35, 36, 37, 38, 49, 50, 51, 52, 53, 54, 55, 56, 57, 58, 59, 60, 61, 62, 63, 64] (by decide +kernel) (by decide +kernel)
set_option maxRecDepth 20000 in
theorem gX3_namesNow_X3_layFirst : GoodIn wsX3_namesNow (wsV RX3 121 RX3 yX3_layFirst wsX3_layFirst) := goodIn_app (goodIn_of _ (by decide +kernel)) ggX3_namesNow_X3_layFirst
set_option maxRecDepth 20000 in
theorem ggX3_namesNow_X3_keepFirst : GoodIn wsX3_namesNow wsX3_keepFirst := goodIn_r _ [42, 21, 43, 44, 22, 49, 50, 51, 52, 53, 54, 55, 56, 57, 58, 59, 60, 61, 62, 63, 64] (by decide +kernel) (by decide +kernel)
set_option maxRecDepth 20000 in
theorem gX3_namesNow_X3_keepFirst : GoodIn wsX3_namesNow (wsV RX3 149 RX3 yX3_keepFirst wsX3_keepFirst) := goodIn_app (goodIn_of _ (by decide +kernel)) ggX3_namesNow_X3_keepFirst
set_option maxRecDepth 20000 in
theorem ggX3_namesNow_X3_areSame : GoodIn wsX3_namesNow wsX3_areSame := goodIn_r _ [48, 21, 43, 22, 44, 49, 50, 51, 52, 53, 54, 55, 56, 57, 58, 59, 60, 61, 62, 63, 64] (by decide +kernel) (by decide +kernel)
set_option maxRecDepth 20000 in
theorem gX3_namesNow_X3_areSame : GoodIn wsX3_namesNow (wsV RX3 124 RX3 yX3_areSame wsX3_areSame) := goodIn_app (goodIn_of _ (by decide +kernel)) ggX3_namesNow_X3_areSame
theorem dX3_namesNow_0 : decode cX3_namesNow 0 = .ok (.aload_n 0, 1) := by decide +kernel
theorem dX3_namesNow_1 : decode cX3_namesNow 1 = .ok (.invokevirtual 67, 3) := by decide +kernel
theorem dX3_namesNow_4 : decode cX3_namesNow 4 = .ok (.iconst 0, 1) := by decide +kernel
theorem dX3_namesNow_5 : decode cX3_namesNow 5 = .ok (.istore_n 1, 1) := by decide +kernel
theorem dX3_namesNow_6 : decode cX3_namesNow 6 = .ok (.iconst 0, 1) := by decide +kernel
theorem dX3_namesNow_7 : decode cX3_namesNow 7 = .ok (.istore_n 2, 1) := by decide +kernel
theorem dX3_namesNow_8 : decode cX3_namesNow 8 = .ok (.iload_n 2, 1) := by decide +kernel
theorem dX3_namesNow_9 : decode cX3_namesNow 9 = .ok (.aload_n 0, 1) := by decide +kernel
theorem dX3_namesNow_10 : decode cX3_namesNow 10 = .ok (.getfield 7, 3) := by decide +kernel
theorem dX3_namesNow_13 : decode cX3_namesNow 13 = .ok (.sipush 421, 3) := by decide +kernel
theorem dX3_namesNow_16 : decode cX3_namesNow 16 = .ok (.iaload, 1) := by decide +kernel
theorem dX3_namesNow_17 : decode cX3_namesNow 17 = .ok (.if_icmp .ge 91, 3) := by decide +kernel
theorem dX3_namesNow_20 : decode cX3_namesNow 20 = .ok (.aload_n 0, 1) := by decide +kernel
theorem dX3_namesNow_21 : decode cX3_namesNow 21 = .ok (.iload_n 2, 1) := by decide +kernel
theorem dX3_namesNow_22 : decode cX3_namesNow 22 = .ok (.invokevirtual 70, 3) := by decide +kernel
theorem dX3_namesNow_25 : decode cX3_namesNow 25 = .ok (.ifCond .eq 7, 3) := by decide +kernel
theorem dX3_namesNow_28 : decode cX3_namesNow 28 = .ok (.iconst 1, 1) := by decide +kernel
theorem dX3_namesNow_29 : decode cX3_namesNow 29 = .ok (.goto 4, 3) := by decide +kernel
theorem dX3_namesNow_32 : decode cX3_namesNow 32 = .ok (.iconst 0, 1) := by decide +kernel
theorem dX3_namesNow_33 : decode cX3_namesNow 33 = .ok (.istore_n 3, 1) := by decide +kernel
theorem dX3_namesNow_34 : decode cX3_namesNow 34 = .ok (.iconst 0, 1) := by decide +kernel
theorem dX3_namesNow_35 : decode cX3_namesNow 35 = .ok (.istore 4, 2) := by decide +kernel
theorem dX3_namesNow_37 : decode cX3_namesNow 37 = .ok (.iload 4, 2) := by decide +kernel
theorem dX3_namesNow_39 : decode cX3_namesNow 39 = .ok (.iload_n 2, 1) := by decide +kernel
theorem dX3_namesNow_40 : decode cX3_namesNow 40 = .ok (.if_icmp .ge 50, 3) := by decide +kernel
theorem dX3_namesNow_43 : decode cX3_namesNow 43 = .ok (.iload_n 3, 1) := by decide +kernel
theorem dX3_namesNow_44 : decode cX3_namesNow 44 = .ok (.ifCond .eq 46, 3) := by decide +kernel
theorem dX3_namesNow_47 : decode cX3_namesNow 47 = .ok (.aload_n 0, 1) := by decide +kernel
theorem dX3_namesNow_48 : decode cX3_namesNow 48 = .ok (.iload 4, 2) := by decide +kernel
theorem dX3_namesNow_50 : decode cX3_namesNow 50 = .ok (.invokevirtual 121, 3) := by decide +kernel
theorem dX3_namesNow_53 : decode cX3_namesNow 53 = .ok (.aload_n 0, 1) := by decide +kernel
theorem dX3_namesNow_54 : decode cX3_namesNow 54 = .ok (.invokevirtual 149, 3) := by decide +kernel
theorem dX3_namesNow_57 : decode cX3_namesNow 57 = .ok (.aload_n 0, 1) := by decide +kernel
theorem dX3_namesNow_58 : decode cX3_namesNow 58 = .ok (.iload_n 2, 1) := by decide +kernel
theorem dX3_namesNow_59 : decode cX3_namesNow 59 = .ok (.invokevirtual 121, 3) := by decide +kernel
theorem dX3_namesNow_62 : decode cX3_namesNow 62 = .ok (.aload_n 0, 1) := by decide +kernel
theorem dX3_namesNow_63 : decode cX3_namesNow 63 = .ok (.iload 4, 2) := by decide +kernel
theorem dX3_namesNow_65 : decode cX3_namesNow 65 = .ok (.invokevirtual 70, 3) := by decide +kernel
theorem dX3_namesNow_68 : decode cX3_namesNow 68 = .ok (.ifCond .eq 10, 3) := by decide +kernel
theorem dX3_namesNow_71 : decode cX3_namesNow 71 = .ok (.aload_n 0, 1) := by decide +kernel
theorem dX3_namesNow_72 : decode cX3_namesNow 72 = .ok (.invokevirtual 124, 3) := by decide +kernel
theorem dX3_namesNow_75 : decode cX3_namesNow 75 = .ok (.ifCond .ne 7, 3) := by decide +kernel
theorem dX3_namesNow_78 : decode cX3_namesNow 78 = .ok (.iconst 1, 1) := by decide +kernel
theorem dX3_namesNow_79 : decode cX3_namesNow 79 = .ok (.goto 4, 3) := by decide +kernel
theorem dX3_namesNow_82 : decode cX3_namesNow 82 = .ok (.iconst 0, 1) := by decide +kernel
theorem dX3_namesNow_83 : decode cX3_namesNow 83 = .ok (.istore_n 3, 1) := by decide +kernel
theorem dX3_namesNow_84 : decode cX3_namesNow 84 = .ok (.iinc 4 1, 3) := by decide +kernel
theorem dX3_namesNow_87 : decode cX3_namesNow 87 = .ok (.goto (-50), 3) := by decide +kernel
theorem dX3_namesNow_90 : decode cX3_namesNow 90 = .ok (.iload_n 1, 1) := by decide +kernel
theorem dX3_namesNow_91 : decode cX3_namesNow 91 = .ok (.iload_n 3, 1) := by decide +kernel
theorem dX3_namesNow_92 : decode cX3_namesNow 92 = .ok (.ifCond .eq 7, 3) := by decide +kernel
theorem dX3_namesNow_95 : decode cX3_namesNow 95 = .ok (.iconst 1, 1) := by decide +kernel
theorem dX3_namesNow_96 : decode cX3_namesNow 96 = .ok (.goto 4, 3) := by decide +kernel
theorem dX3_namesNow_99 : decode cX3_namesNow 99 = .ok (.iconst 0, 1) := by decide +kernel
theorem dX3_namesNow_100 : decode cX3_namesNow 100 = .ok (.iadd, 1) := by decide +kernel
theorem dX3_namesNow_101 : decode cX3_namesNow 101 = .ok (.istore_n 1, 1) := by decide +kernel
theorem dX3_namesNow_102 : decode cX3_namesNow 102 = .ok (.iinc 2 1, 3) := by decide +kernel
theorem dX3_namesNow_105 : decode cX3_namesNow 105 = .ok (.goto (-97), 3) := by decide +kernel
theorem dX3_namesNow_108 : decode cX3_namesNow 108 = .ok (.iload_n 1, 1) := by decide +kernel
theorem dX3_namesNow_109 : decode cX3_namesNow 109 = .ok (.ireturn, 1) := by decide +kernel
theorem dX3_ofKind_0 : decode cX3_ofKind 0 = .ok (.iconst 0, 1) := by decide +kernel
theorem dX3_ofKind_1 : decode cX3_ofKind 1 = .ok (.istore_n 2, 1) := by decide +kernel
theorem dX3_ofKind_2 : decode cX3_ofKind 2 = .ok (.iconst 0, 1) := by decide +kernel
theorem dX3_ofKind_3 : decode cX3_ofKind 3 = .ok (.istore_n 3, 1) := by decide +kernel
theorem dX3_ofKind_4 : decode cX3_ofKind 4 = .ok (.iload_n 3, 1) := by decide +kernel
theorem dX3_ofKind_5 : decode cX3_ofKind 5 = .ok (.aload_n 0, 1) := by decide +kernel
theorem dX3_ofKind_6 : decode cX3_ofKind 6 = .ok (.getfield 7, 3) := by decide +kernel
theorem dX3_ofKind_9 : decode cX3_ofKind 9 = .ok (.sipush 420, 3) := by decide +kernel
theorem dX3_ofKind_12 : decode cX3_ofKind 12 = .ok (.iaload, 1) := by decide +kernel
theorem dX3_ofKind_13 : decode cX3_ofKind 13 = .ok (.if_icmp .ge 29, 3) := by decide +kernel
theorem dX3_ofKind_16 : decode cX3_ofKind 16 = .ok (.iload_n 2, 1) := by decide +kernel
theorem dX3_ofKind_17 : decode cX3_ofKind 17 = .ok (.aload_n 0, 1) := by decide +kernel
theorem dX3_ofKind_18 : decode cX3_ofKind 18 = .ok (.getfield 7, 3) := by decide +kernel
theorem dX3_ofKind_21 : decode cX3_ofKind 21 = .ok (.iconst 0, 1) := by decide +kernel
theorem dX3_ofKind_22 : decode cX3_ofKind 22 = .ok (.iload_n 3, 1) := by decide +kernel
theorem dX3_ofKind_23 : decode cX3_ofKind 23 = .ok (.iadd, 1) := by decide +kernel
theorem dX3_ofKind_24 : decode cX3_ofKind 24 = .ok (.iaload, 1) := by decide +kernel
theorem dX3_ofKind_25 : decode cX3_ofKind 25 = .ok (.iload_n 1, 1) := by decide +kernel
theorem dX3_ofKind_26 : decode cX3_ofKind 26 = .ok (.if_icmp .ne 7, 3) := by decide +kernel
theorem dX3_ofKind_29 : decode cX3_ofKind 29 = .ok (.iconst 1, 1) := by decide +kernel
theorem dX3_ofKind_30 : decode cX3_ofKind 30 = .ok (.goto 4, 3) := by decide +kernel
theorem dX3_ofKind_33 : decode cX3_ofKind 33 = .ok (.iconst 0, 1) := by decide +kernel
theorem dX3_ofKind_34 : decode cX3_ofKind 34 = .ok (.iadd, 1) := by decide +kernel
theorem dX3_ofKind_35 : decode cX3_ofKind 35 = .ok (.istore_n 2, 1) := by decide +kernel
theorem dX3_ofKind_36 : decode cX3_ofKind 36 = .ok (.iinc 3 1, 3) := by decide +kernel
theorem dX3_ofKind_39 : decode cX3_ofKind 39 = .ok (.goto (-35), 3) := by decide +kernel
theorem dX3_ofKind_42 : decode cX3_ofKind 42 = .ok (.iload_n 2, 1) := by decide +kernel
theorem dX3_ofKind_43 : decode cX3_ofKind 43 = .ok (.ireturn, 1) := by decide +kernel
set_option maxRecDepth 20000 in
theorem ggX3_count_X3_in : GoodIn wsX3_count wsX3_in := goodIn_r _ [7] (by decide +kernel) (by decide +kernel)
set_option maxRecDepth 20000 in
theorem gX3_count_X3_in : GoodIn wsX3_count (va_wsS RX3 44 yX3_in wsX3_in) := goodIn_app (goodIn_of _ (by decide +kernel)) ggX3_count_X3_in
set_option maxRecDepth 20000 in
theorem ggX3_count_X3_ofKind : GoodIn wsX3_count wsX3_ofKind := goodIn_r _ [11, 1, 70, 71, 72, 73, 74, 75, 76, 77, 78, 79, 80, 81, 82, 83, 84, 85] (by decide +kernel) (by decide +kernel)
set_option maxRecDepth 20000 in
theorem gX3_count_X3_ofKind : GoodIn wsX3_count (wsV RX3 152 RX3 yX3_ofKind wsX3_ofKind) := goodIn_app (goodIn_of _ (by decide +kernel)) ggX3_count_X3_ofKind
set_option maxRecDepth 20000 in
theorem ggX3_count_X3_lastYear : GoodIn wsX3_count wsX3_lastYear := goodIn_r _ [15, 1, 70, 71, 72, 73, 74, 75, 76, 77, 78, 79, 80, 81, 82, 83, 84, 85] (by decide +kernel) (by decide +kernel)
set_option maxRecDepth 20000 in
theorem gX3_count_X3_lastYear : GoodIn wsX3_count (wsV RX3 63 RX3 yX3_lastYear wsX3_lastYear) := goodIn_app (goodIn_of _ (by decide +kernel)) ggX3_count_X3_lastYear
set_option maxRecDepth 20000 in
theorem ggX3_count_X3_thereNow : GoodIn wsX3_count wsX3_thereNow := goodIn_r _ [19, 1, 20, 21, 22, 6, 23, 24, 25, 26, 27, 28, 29, 30, 31, 32, 33, 70, 71, 72, 73, 74, 75, 76, 77, 78, 79, 80, 81, 82, 83, 84, 85] (by decide +kernel) (by decide +kernel)
set_option maxRecDepth 20000 in
theorem gX3_count_X3_thereNow : GoodIn wsX3_count (wsV RX3 155 RX3 yX3_thereNow wsX3_thereNow) := goodIn_app (goodIn_of _ (by decide +kernel)) ggX3_count_X3_thereNow
set_option maxRecDepth 20000 in
theorem ggX3_count_X3_namesNow : GoodIn wsX3_count wsX3_namesNow := goodIn_r _ [37, 1, 20, 21, 22, 6, 23, 24, 25, 26, 27, 28, 29, 30, 31, 32, 33, 38, 39, 40, 41, 42, 43, 44, 45, 46, 47, 48, 49, 50, 51, 52, 53, 54, 55, 56, 57, 58, 59, 60, 61, 62, 63, 64, 65, 66, 67, 68, 69, 70, 71, 72, 73, 74, 75, 76, 77, 78, 79, 80, 81, 82, 83, 84, 85] (by decide +kernel) (by decide +kernel)
set_option maxRecDepth 20000 in
theorem gX3_count_X3_namesNow : GoodIn wsX3_count (wsV RX3 158 RX3 yX3_namesNow wsX3_namesNow) := goodIn_app (goodIn_of _ (by decide +kernel)) ggX3_count_X3_namesNow
theorem dX3_count_0 : decode cX3_count 0 = .ok (.iload_n 1, 1) := by decide +kernel
theorem dX3_count_1 : decode cX3_count 1 = .ok (.bipush 10, 2) := by decide +kernel
theorem dX3_count_3 : decode cX3_count 3 = .ok (.bipush 13, 2) := by decide +kernel
theorem dX3_count_5 : decode cX3_count 5 = .ok (.invokestatic 44, 3) := by decide +kernel
theorem dX3_count_8 : decode cX3_count 8 = .ok (.ifCond .eq 12, 3) := by decide +kernel
theorem dX3_count_11 : decode cX3_count 11 = .ok (.aload_n 0, 1) := by decide +kernel
theorem dX3_count_12 : decode cX3_count 12 = .ok (.iload_n 1, 1) := by decide +kernel
theorem dX3_count_13 : decode cX3_count 13 = .ok (.bipush 10, 2) := by decide +kernel
theorem dX3_count_15 : decode cX3_count 15 = .ok (.isub, 1) := by decide +kernel
theorem dX3_count_16 : decode cX3_count 16 = .ok (.invokevirtual 152, 3) := by decide +kernel
theorem dX3_count_19 : decode cX3_count 19 = .ok (.ireturn, 1) := by decide +kernel
theorem dX3_count_20 : decode cX3_count 20 = .ok (.iload_n 1, 1) := by decide +kernel
theorem dX3_count_21 : decode cX3_count 21 = .ok (.tableswitch 111 0 6 #[43, 52, 61, 66, 71, 76, 81], 43) := by decide +kernel
theorem dX3_count_64 : decode cX3_count 64 = .ok (.aload_n 0, 1) := by decide +kernel
theorem dX3_count_65 : decode cX3_count 65 = .ok (.getfield 7, 3) := by decide +kernel
theorem dX3_count_68 : decode cX3_count 68 = .ok (.sipush 420, 3) := by decide +kernel
theorem dX3_count_71 : decode cX3_count 71 = .ok (.iaload, 1) := by decide +kernel
theorem dX3_count_72 : decode cX3_count 72 = .ok (.ireturn, 1) := by decide +kernel
theorem dX3_count_73 : decode cX3_count 73 = .ok (.aload_n 0, 1) := by decide +kernel
theorem dX3_count_74 : decode cX3_count 74 = .ok (.getfield 7, 3) := by decide +kernel
theorem dX3_count_77 : decode cX3_count 77 = .ok (.sipush 421, 3) := by decide +kernel
theorem dX3_count_80 : decode cX3_count 80 = .ok (.iaload, 1) := by decide +kernel
theorem dX3_count_81 : decode cX3_count 81 = .ok (.ireturn, 1) := by decide +kernel
theorem dX3_count_82 : decode cX3_count 82 = .ok (.aload_n 0, 1) := by decide +kernel
theorem dX3_count_83 : decode cX3_count 83 = .ok (.getfield 48, 3) := by decide +kernel
theorem dX3_count_86 : decode cX3_count 86 = .ok (.ireturn, 1) := by decide +kernel
theorem dX3_count_87 : decode cX3_count 87 = .ok (.aload_n 0, 1) := by decide +kernel
theorem dX3_count_88 : decode cX3_count 88 = .ok (.invokevirtual 63, 3) := by decide +kernel
theorem dX3_count_91 : decode cX3_count 91 = .ok (.ireturn, 1) := by decide +kernel
theorem dX3_count_92 : decode cX3_count 92 = .ok (.aload_n 0, 1) := by decide +kernel
theorem dX3_count_93 : decode cX3_count 93 = .ok (.invokevirtual 155, 3) := by decide +kernel
theorem dX3_count_96 : decode cX3_count 96 = .ok (.ireturn, 1) := by decide +kernel
theorem dX3_count_97 : decode cX3_count 97 = .ok (.aload_n 0, 1) := by decide +kernel
theorem dX3_count_98 : decode cX3_count 98 = .ok (.invokevirtual 158, 3) := by decide +kernel
theorem dX3_count_101 : decode cX3_count 101 = .ok (.ireturn, 1) := by decide +kernel
theorem dX3_count_102 : decode cX3_count 102 = .ok (.aload_n 0, 1) := by decide +kernel
theorem dX3_count_103 : decode cX3_count 103 = .ok (.getfield 16, 3) := by decide +kernel
theorem dX3_count_106 : decode cX3_count 106 = .ok (.iconst 0, 1) := by decide +kernel
theorem dX3_count_107 : decode cX3_count 107 = .ok (.baload, 1) := by decide +kernel
theorem dX3_count_108 : decode cX3_count 108 = .ok (.ifCond .eq 7, 3) := by decide +kernel
theorem dX3_count_111 : decode cX3_count 111 = .ok (.iconst 1, 1) := by decide +kernel
theorem dX3_count_112 : decode cX3_count 112 = .ok (.goto 4, 3) := by decide +kernel
theorem dX3_count_115 : decode cX3_count 115 = .ok (.iconst 0, 1) := by decide +kernel
theorem dX3_count_116 : decode cX3_count 116 = .ok (.aload_n 0, 1) := by decide +kernel
theorem dX3_count_117 : decode cX3_count 117 = .ok (.getfield 16, 3) := by decide +kernel
theorem dX3_count_120 : decode cX3_count 120 = .ok (.iconst 1, 1) := by decide +kernel
theorem dX3_count_121 : decode cX3_count 121 = .ok (.baload, 1) := by decide +kernel
theorem dX3_count_122 : decode cX3_count 122 = .ok (.ifCond .eq 7, 3) := by decide +kernel
theorem dX3_count_125 : decode cX3_count 125 = .ok (.iconst 2, 1) := by decide +kernel
theorem dX3_count_126 : decode cX3_count 126 = .ok (.goto 4, 3) := by decide +kernel
theorem dX3_count_129 : decode cX3_count 129 = .ok (.iconst 0, 1) := by decide +kernel
theorem dX3_count_130 : decode cX3_count 130 = .ok (.iadd, 1) := by decide +kernel
theorem dX3_count_131 : decode cX3_count 131 = .ok (.ireturn, 1) := by decide +kernel
theorem dX3_count_132 : decode cX3_count 132 = .ok (.bipush (-2), 2) := by decide +kernel
theorem dX3_count_134 : decode cX3_count 134 = .ok (.ireturn, 1) := by decide +kernel
end
section
/-! the words of every contract: the tables' rows that all methods share, the start, calls that change nothing -/
def pn_KB (D : va_G) (cI cL cZ cO : ClassId) (U : State) : Prop := va_K D vwCl [(cI, .int), (cL, .long), (cZ, .boolean), (cO, .object RX0)] U ∧ va_Nw (.methodLinkNest RX0 76 yX2_has RX2) U
def pn_Pr (D : va_G) (cI cL cZ cO : ClassId) (WS : va_W) (U : State) : Prop := va_P D vwCl WS U.heap ∧ pn_KB D cI cL cZ cO U
theorem pn_KB.warm {D : va_G} {cI cL cZ cO : ClassId} {s U : State} (h : pn_KB D cI cL cZ cO s) (hW : s.WarmedH U.vm) : pn_KB D cI cL cZ cO U := ⟨va_K.moved hW.alike h.1, h.2.warmM hW⟩
theorem pn_fb {D : va_G} {cI cL cZ cO : ClassId} {WS : va_W} {av : List Value} : FrameBlind (va_Pc av (pn_Pr D cI cL cZ cO WS)) := by
  rintro a U g mk ⟨h1, h2, h3, h4⟩
  exact ⟨h1, h2, va_K.moved (u := U) (U := U.calling g mk a) (Vm.Alike.refl U.vm) h3, va_Nw.same rfl rfl h4⟩
theorem pn_ps {D : va_G} {cI cL cZ cO : ClassId} {WS : va_W} {As : List Value} {s : State} {H : Heap} (hP : va_P D vwCl WS H) (hK : pn_KB D cI cL cZ cO s) : PreS s H (va_Pc As (pn_Pr D cI cL cZ cO WS)) As :=
  ⟨pn_fb, fun U hU hW => ⟨rfl, by rw [hU]; exact hP, hK.warm hW⟩⟩
theorem pn_pv {D : va_G} {cI cL cZ cO : ClassId} {WS : va_W} {As : List Value} {s : State} {H : Heap} {a q0 ci : Nat} {q : vw_C} {fs : List Value} (hP : va_P D vwCl WS H) (hK : pn_KB D cI cL cZ cO s) (he : WS[q0]? = some (a, .inr (ci, fs))) (hc : vwCl[ci]? = some q) : PreV s H q.1 a (va_Pc (.ref a :: As) (pn_Pr D cI cL cZ cO WS)) As :=
  ⟨pn_fb, va_recv hK.1 hP hc he, fun U hU hW => ⟨rfl, by rw [hU]; exact hP, hK.warm hW⟩⟩
/-- a contract out of the walk of the body -/
theorem pn_mk {l : Launch} {D : va_G} {cI cL cZ cO : ClassId} {WS : va_W} {y : MethodName} {ws ws' : List Cond} {rm : Room} {Qc : Array Value → State → Outcome → State → Prop} {A : Addr → Prop} {cc : ByteArray} {maxL : Nat} {ret : Option FieldType} {av : List Value}
    (hy : plainName y.cls = true) (hw : ws = Cond.code y cc maxL ret :: ws') (hlen : (lg_sl av).length ≤ maxL)
    (body : ∀ (p : Program) (e : Env) (s : State) (m : MethodId) (below : List Frame) (meth : Method) (c : Code) (ls : Array Slot), p.tables.exec = Jvm.exec → c.code = cc → meth.sig.returnType = ret → c.maxLocals = maxL → s.vm.findClass y.cls = some m.cls → (∀ w ∈ ws, w.before av.toArray s = true) → meth.locks = false → pn_KB D cI cL cZ cO s → va_P D vwCl WS s.heap → lv_has ls maxL (lv_args 0 av) →
      W p l e rm s m av.toArray below meth c s.heap [] 0 0 (MQ below Qc av.toArray s 0 0 A) (F0 m 0 ls [])) : Met l y ws rm (va_Pc av (pn_Pr D cI cL cZ cO WS)) Qc 0 0 A := by
  refine Met.ofW (cc := cc) (maxL := maxL) (ret := ret) hy hw ?_
  intro p e s m args below meth c s₁ B hml hv
  obtain ⟨rfl, hP, hK⟩ := hv
  have hl := lv_entry av (n := maxL) hlen
  rw [lg_entry_eq]
  exact body p e s m below meth c _ B.exec B.bytes B.returns hml (findClass_of_methodNamed B.named) (atoms_spec (ws := ws) B.pre) B.notSynchronized hK hP hl
def pn_No : Nat → Prop := fun _ => False
theorem pn_kept {D : va_G} {cl : List vw_C} {ws : va_W} {H H1 : Heap} (h : va_P D cl ws H) (hk : ∀ q : Nat, q < H.size → H1[q]? = H[q]?) : va_P D cl ws H1 := fun k q hq => (h k q hq).kept (hk q.1 (h k q hq).lt)
section PNC
variable {p : Program} {l : Launch} {e : Env} {R : Room} {s : State} {m : MethodId} {args : Array Value} {below : List Frame} {meth : Method} {c : Code} {H : Heap} {locs : List Loc} {cells slots : Nat} {Q : State → Prop}
variable {pc : Nat} {ls : Array Slot} {rest st0 : List Value} {a : Array Value} {A0 : Nat → Prop} {H0 : Heap} {D : va_G} {w : va_W}
/-- a call that changes nothing and answers an int -/
theorem pn_roi {f : Int32} (hP : va_P D vwCl w H) (hS : va_S A0 H0 H locs) (hr : va_Run p l e R s m args below meth c H locs cells slots 0 0 (F0 m pc ls st0) rest (va_Qi (fun r (_ : Unit) => r = f) (fun _ _ => True) pn_No a) pn_No)
    (kk : ∀ (H1 : Heap) (locs1 : List Loc), va_P D vwCl w H1 → va_S A0 H0 H1 locs1 → W p l e R s m args below meth c H1 locs1 cells slots Q (F0 m (pc + 3) ls (.int f :: rest))) : W p l e R s m args below meth c H locs cells slots Q (F0 m pc ls st0) := by
  refine va_calli hr hS (fun q _ h => h.elim) (fun q h => h.elim) (fun r u t H1 locs1 ht hvm hp hB hz hk hS1 => ?_)
  subst hp
  exact kk H1 locs1 (pn_kept hP (fun q h => hk q h id)) hS1
theorem pn_rol {f : Int64} (hP : va_P D vwCl w H) (hS : va_S A0 H0 H locs) (hr : va_Run p l e R s m args below meth c H locs cells slots 0 0 (F0 m pc ls st0) rest (va_Ql (fun r (_ : Unit) => r = f) (fun _ _ => True) pn_No a) pn_No)
    (kk : ∀ (H1 : Heap) (locs1 : List Loc), va_P D vwCl w H1 → va_S A0 H0 H1 locs1 → W p l e R s m args below meth c H1 locs1 cells slots Q (F0 m (pc + 3) ls (.long f :: rest))) : W p l e R s m args below meth c H locs cells slots Q (F0 m pc ls st0) := by
  refine va_calll hr hS (fun q _ h => h.elim) (fun q h => h.elim) (fun r u t H1 locs1 ht hvm hp hB hz hk hS1 => ?_)
  subst hp
  exact kk H1 locs1 (pn_kept hP (fun q h => hk q h id)) hS1
/-- a call that changes cells of one world; the world behind it stands in its end -/
theorem pn_wri {S : Type} {post : Int32 → S → Prop} {w1 : S → va_W} {A1 : Nat → Prop} (hS : va_S A0 H0 H locs) (hA : ∀ q, A1 q → A0 q) (hr : va_Run p l e R s m args below meth c H locs cells slots 0 0 (F0 m pc ls st0) rest (va_Qi post (fun u t => va_P D vwCl (w1 u) t.heap) A1 a) A1)
    (kk : ∀ (r : Int32) (u : S) (H1 : Heap) (locs1 : List Loc), post r u → va_P D vwCl (w1 u) H1 → (∀ q : Nat, q < H.size → ¬ A1 q → H1[q]? = H[q]?) → va_S A0 H0 H1 locs1 → W p l e R s m args below meth c H1 locs1 cells slots Q (F0 m (pc + 3) ls (.int r :: rest))) : W p l e R s m args below meth c H locs cells slots Q (F0 m pc ls st0) := by
  refine va_calli hr hS (fun q _ h => hA q h) hA (fun r u t H1 locs1 ht hvm hp hB hz hk hS1 => ?_)
  rw [ht] at hB
  exact kk r u H1 locs1 hp hB hk hS1
theorem pn_wrl {S : Type} {post : Int64 → S → Prop} {w1 : S → va_W} {A1 : Nat → Prop} (hS : va_S A0 H0 H locs) (hA : ∀ q, A1 q → A0 q) (hr : va_Run p l e R s m args below meth c H locs cells slots 0 0 (F0 m pc ls st0) rest (va_Ql post (fun u t => va_P D vwCl (w1 u) t.heap) A1 a) A1)
    (kk : ∀ (r : Int64) (u : S) (H1 : Heap) (locs1 : List Loc), post r u → va_P D vwCl (w1 u) H1 → (∀ q : Nat, q < H.size → ¬ A1 q → H1[q]? = H[q]?) → va_S A0 H0 H1 locs1 → W p l e R s m args below meth c H1 locs1 cells slots Q (F0 m (pc + 3) ls (.long r :: rest))) : W p l e R s m args below meth c H locs cells slots Q (F0 m pc ls st0) := by
  refine va_calll hr hS (fun q _ h => hA q h) hA (fun r u t H1 locs1 ht hvm hp hB hz hk hS1 => ?_)
  rw [ht] at hB
  exact kk r u H1 locs1 hp hB hk hS1
theorem pn_wrv {S : Type} {post : S → Prop} {w1 : S → va_W} {A1 : Nat → Prop} (hS : va_S A0 H0 H locs) (hA : ∀ q, A1 q → A0 q) (hr : va_Run p l e R s m args below meth c H locs cells slots 0 0 (F0 m pc ls st0) rest (va_Qv post (fun u t => va_P D vwCl (w1 u) t.heap) A1 a) A1)
    (kk : ∀ (u : S) (H1 : Heap) (locs1 : List Loc), post u → va_P D vwCl (w1 u) H1 → (∀ q : Nat, q < H.size → ¬ A1 q → H1[q]? = H[q]?) → va_S A0 H0 H1 locs1 → W p l e R s m args below meth c H1 locs1 cells slots Q (F0 m (pc + 3) ls rest)) : W p l e R s m args below meth c H locs cells slots Q (F0 m pc ls st0) := by
  refine va_callv hr hS (fun q _ h => hA q h) hA (fun u t H1 locs1 ht hvm hp hB hz hk hS1 => ?_)
  rw [ht] at hB
  exact kk u H1 locs1 hp hB hk hS1
end PNC
/-- the addresses of a world are apart -/
def pn_ad (ws : va_W) : List Nat := ws.map (fun q => q.1)
def pn_In (L : List Nat) : Nat → Prop := fun q => q ∈ L
theorem pn_D {L : List Nat} {ws : va_W} (h : L.Nodup) (e : pn_ad ws = L) : va_D (pn_In L) ws := by
  subst e
  refine ⟨fun i j p q hp hq hpq => ?_, fun k q hk => List.mem_map.mpr ⟨q, List.mem_of_getElem? hk, rfl⟩⟩
  have h1 : (pn_ad ws)[i]? = some p.1 := by unfold pn_ad; rw [List.getElem?_map, hp]; rfl
  have h2 : (pn_ad ws)[j]? = some q.1 := by unfold pn_ad; rw [List.getElem?_map, hq]; rfl
  have hi : i < (pn_ad ws).length := (List.getElem?_eq_some_iff.mp h1).1
  exact (List.getElem?_inj hi h).mp (by rw [h1, h2, hpq])
/-- what the callee's cells are not stays, and stands beside the callee's world -/
theorem pn_join {D : va_G} {cl : List vw_C} {ws wr w1 : va_W} {A0 A1 : Nat → Prop} {H H1 : Heap} (hP : va_P D cl ws H) (hD : va_D A0 ws) (isC isR : List Nat) (hA : ∀ q, A1 q → ∃ i ∈ isC, ∃ e, ws[i]? = some (q, e)) (hR : isR.map (fun i => ws[i]?) = wr.map some) (hdis : ∀ i ∈ isR, i ∉ isC)
    (hk : ∀ q : Nat, q < H.size → ¬ A1 q → H1[q]? = H[q]?) (hP1 : va_P D cl w1 H1) : va_P D cl (wr ++ w1) H1 := by
  refine va_P.app (fun k q hq => ?_) hP1
  have h1 : (isR.map (fun i => ws[i]?))[k]? = some (some q) := by rw [hR, List.getElem?_map, hq]; rfl
  rw [List.getElem?_map] at h1
  cases hi : isR[k]? with
  | none => rw [hi] at h1; cases h1
  | some i =>
    rw [hi] at h1
    have h2 : ws[i]? = some q := Option.some.inj h1
    refine (hP i q h2).kept (hk q.1 (hP i q h2).lt (fun ha => ?_))
    obtain ⟨j, hj, e, he⟩ := hA q.1 ha
    have := hD.1 i j q (q.1, e) h2 he rfl
    subst this
    exact hdis i (List.mem_of_getElem? hi) hj
theorem pn_inA {ws wc : va_W} {L : List Nat} (isC : List Nat) (hC : isC.map (fun i => ws[i]?) = wc.map some) (hL : pn_ad wc = L) : ∀ q, pn_In L q → ∃ i ∈ isC, ∃ e, ws[i]? = some (q, e) := by
  intro q hq
  subst hL
  obtain ⟨x, hx, rfl⟩ := List.mem_map.mp hq
  have h1 : some x ∈ isC.map (fun i => ws[i]?) := by rw [hC]; exact List.mem_map.mpr ⟨x, hx, rfl⟩
  obtain ⟨i, hi, e⟩ := List.mem_map.mp h1
  exact ⟨i, hi, x.2, e⟩
/-- an array's numbers may be told otherwise, where they are the same in its range -/
theorem pn_cgI {D : va_G} {cl : List vw_C} {ws : va_W} {H : Heap} {q a n : Nat} {cA : ClassId} {f g : Nat → Int32} (hP : va_P D cl ws H) (he : ws[q]? = some (a, .inl (cA, n, .inl f))) (h : ∀ i, i < n → f i = g i) : va_P D cl (ws.set q (a, .inl (cA, n, .inl g))) H := by
  intro k x hx
  by_cases hk : k = q
  · subst hk
    have hlt : k < ws.length := (List.getElem?_eq_some_iff.mp he).1
    rw [List.getElem?_set_self hlt] at hx
    cases hx
    have h0 := hP k _ he
    show H[a]? = some (vp_cell _ _)
    have h0 : H[a]? = some (vp_cell cA (n, .inl f)) := h0
    rw [h0]
    congr 1
    show vp_cell cA (n, .inl f) = vp_cell cA (n, .inl g)
    rw [vp_cell_i, vp_cell_i]
    unfold arrV
    congr 1
    apply Array.ext
    · simp
    · intro i h1 h2
      simp at h1
      simp [h i h1]
  · rw [List.getElem?_set_ne (fun h => hk h.symm)] at hx
    exact hP k x hx
section PNI
variable {p : Program} {l : Launch} {e : Env} {R : Room} {s : State} {m : MethodId} {args : Array Value} {below : List Frame} {meth : Method} {c : Code} {H : Heap} {locs : List Loc} {cells slots : Nat} {Q : State → Prop}
variable {cc : ByteArray} {pc : Nat} {ls : Array Slot} {rest : List Value} {D : va_G} {cl : List vw_C} {A : Nat → Prop} {a : Nat} {tys : List (ClassId × FieldType)} {ws : va_W} {H0 : Heap}
theorem pn_iald (hexec : p.tables.exec = Jvm.exec) (hb : c.code = cc) (hK : va_K D cl tys s) (hP : va_P D cl ws H) (q0 t0 : Nat) {cA : ClassId} {n : Nat} {f : Nat → Int32} (ha : ws[q0]? = some (a, .inl (cA, n, .inl f))) (ht : tys[t0]? = some (cA, .int)) {i : Nat} (hin : i < n) (hn : n < 2 ^ 31) (hdg : decode cc pc = .ok (.iaload, 1))
    (kk : W p l e R s m args below meth c H locs cells slots Q (F0 m (pc + 1) ls (.int (f i) :: rest))) : W p l e R s m args below meth c H locs cells slots Q (F0 m pc ls (.int (nI i) :: .ref a :: rest)) := by
  refine va_iald hexec hb hK hP q0 t0 ha ht (vp_in_nI hin hn) hdg ?_
  rw [nI_clamp (Nat.lt_trans hin hn)]; exact kk
theorem pn_zald (hexec : p.tables.exec = Jvm.exec) (hb : c.code = cc) (hK : va_K D cl tys s) (hP : va_P D cl ws H) (q0 t0 : Nat) {cA : ClassId} {n : Nat} {f : Nat → Int32} (ha : ws[q0]? = some (a, .inl (cA, n, .inl f))) (ht : tys[t0]? = some (cA, .boolean)) {i : Nat} (hin : i < n) (hn : n < 2 ^ 31) (hdg : decode cc pc = .ok (.baload, 1))
    (kk : W p l e R s m args below meth c H locs cells slots Q (F0 m (pc + 1) ls (.int (f i) :: rest))) : W p l e R s m args below meth c H locs cells slots Q (F0 m pc ls (.int (nI i) :: .ref a :: rest)) := by
  refine va_zald hexec hb hK hP q0 t0 ha ht (vp_in_nI hin hn) hdg ?_
  rw [nI_clamp (Nat.lt_trans hin hn)]; exact kk
theorem pn_lald (hexec : p.tables.exec = Jvm.exec) (hb : c.code = cc) (hK : va_K D cl tys s) (hP : va_P D cl ws H) (q0 t0 : Nat) {cA : ClassId} {n : Nat} {f : Nat → Int64} (ha : ws[q0]? = some (a, .inl (cA, n, .inr (.inl f)))) (ht : tys[t0]? = some (cA, .long)) {i : Nat} (hin : i < n) (hn : n < 2 ^ 31) (hdg : decode cc pc = .ok (.laload, 1))
    (kk : W p l e R s m args below meth c H locs cells slots Q (F0 m (pc + 1) ls (.long (f i) :: rest))) : W p l e R s m args below meth c H locs cells slots Q (F0 m pc ls (.int (nI i) :: .ref a :: rest)) := by
  refine va_lald hexec hb hK hP q0 t0 ha ht (vp_in_nI hin hn) hdg ?_
  rw [nI_clamp (Nat.lt_trans hin hn)]; exact kk
theorem pn_iast (hexec : p.tables.exec = Jvm.exec) (hb : c.code = cc) (hK : va_K D cl tys s) (hP : va_P D cl ws H) (hD : va_D A ws) (hS : va_S A H0 H locs) (q0 t0 : Nat) {cA : ClassId} {n : Nat} {f : Nat → Int32} (ha : ws[q0]? = some (a, .inl (cA, n, .inl f))) (ht : tys[t0]? = some (cA, .int)) {i : Nat} {x : Int32} (hin : i < n) (hn : n < 2 ^ 31) (hdg : decode cc pc = .ok (.iastore, 1))
    (kk : ∀ (H1 : Heap) (locs1 : List Loc), va_P D cl (ws.set q0 (a, .inl (cA, n, .inl (upd f i x)))) H1 → va_S A H0 H1 locs1 → W p l e R s m args below meth c H1 locs1 cells slots Q (F0 m (pc + 1) ls rest)) : W p l e R s m args below meth c H locs cells slots Q (F0 m pc ls (.int x :: .int (nI i) :: .ref a :: rest)) := by
  refine va_iast hexec hb hK hP hD hS q0 t0 ha ht (vp_in_nI hin hn) hdg (fun H1 locs1 h1 _ h3 => ?_)
  rw [nI_clamp (Nat.lt_trans hin hn)] at h1; exact kk H1 locs1 h1 h3
theorem pn_last (hexec : p.tables.exec = Jvm.exec) (hb : c.code = cc) (hK : va_K D cl tys s) (hP : va_P D cl ws H) (hD : va_D A ws) (hS : va_S A H0 H locs) (q0 t0 : Nat) {cA : ClassId} {n : Nat} {f : Nat → Int64} (ha : ws[q0]? = some (a, .inl (cA, n, .inr (.inl f)))) (ht : tys[t0]? = some (cA, .long)) {i : Nat} {x : Int64} (hin : i < n) (hn : n < 2 ^ 31) (hdg : decode cc pc = .ok (.lastore, 1))
    (kk : ∀ (H1 : Heap) (locs1 : List Loc), va_P D cl (ws.set q0 (a, .inl (cA, n, .inr (.inl (vp_updL f i x))))) H1 → va_S A H0 H1 locs1 → W p l e R s m args below meth c H1 locs1 cells slots Q (F0 m (pc + 1) ls rest)) : W p l e R s m args below meth c H locs cells slots Q (F0 m pc ls (.long x :: .int (nI i) :: .ref a :: rest)) := by
  refine va_last hexec hb hK hP hD hS q0 t0 ha ht (vp_in_nI hin hn) hdg (fun H1 locs1 h1 _ h3 => ?_)
  rw [nI_clamp (Nat.lt_trans hin hn)] at h1; exact kk H1 locs1 h1 h3
theorem pn_iadd (hexec : p.tables.exec = Jvm.exec) (hb : c.code = cc) {x y : Nat} (hdg : decode cc pc = .ok (.iadd, 1)) (k : W p l e R s m args below meth c H locs cells slots Q (F0 m (pc + 1) ls (.int (nI (x + y)) :: rest))) : W p l e R s m args below meth c H locs cells slots Q (F0 m pc ls (.int (nI y) :: .int (nI x) :: rest)) :=
  lv_iadd hexec hb hdg (by rw [nI_add]; exact k)
theorem pn_isub (hexec : p.tables.exec = Jvm.exec) (hb : c.code = cc) {x y : Nat} (hxy : y ≤ x) (hdg : decode cc pc = .ok (.isub, 1)) (k : W p l e R s m args below meth c H locs cells slots Q (F0 m (pc + 1) ls (.int (nI (x - y)) :: rest))) : W p l e R s m args below meth c H locs cells slots Q (F0 m pc ls (.int (nI y) :: .int (nI x) :: rest)) :=
  lv_isub hexec hb hdg (by rw [pk_sub hxy]; exact k)
theorem pn_imul (hexec : p.tables.exec = Jvm.exec) (hb : c.code = cc) {x y : Nat} (hdg : decode cc pc = .ok (.imul, 1)) (k : W p l e R s m args below meth c H locs cells slots Q (F0 m (pc + 1) ls (.int (nI (x * y)) :: rest))) : W p l e R s m args below meth c H locs cells slots Q (F0 m pc ls (.int (nI y) :: .int (nI x) :: rest)) :=
  lv_imul hexec hb hdg (by rw [pk_mul]; exact k)
theorem pn_top {x y : Int32} (h : x = y) (k : W p l e R s m args below meth c H locs cells slots Q (F0 m pc ls (.int y :: rest))) : W p l e R s m args below meth c H locs cells slots Q (F0 m pc ls (.int x :: rest)) := by rw [h]; exact k
theorem pn_topL {x y : Int64} (h : x = y) (k : W p l e R s m args below meth c H locs cells slots Q (F0 m pc ls (.long y :: rest))) : W p l e R s m args below meth c H locs cells slots Q (F0 m pc ls (.long x :: rest)) := by rw [h]; exact k
end PNI
theorem pn_le {a b : Nat} (ha : a < 2 ^ 31) (hb : b < 2 ^ 31) : nI a ≤ nI b ↔ a ≤ b := nI_leI ha hb
theorem pn_lt {a b : Nat} (ha : a < 2 ^ 31) (hb : b < 2 ^ 31) : nI a < nI b ↔ a < b := nI_ltI ha hb
theorem pn_eq {a b : Nat} (ha : a < 2 ^ 31) (hb : b < 2 ^ 31) : nI a = nI b ↔ a = b := nI_eq ha hb
end
section
/-! numbers of the walks: truth values, switches, counting while -/
noncomputable def pn_b (P : Prop) : Int32 := @ite Int32 P (Classical.propDecidable P) (nI 1) (nI 0)
theorem pn_b0 {P : Prop} : pn_b P = 0 ↔ ¬ P := by
  unfold pn_b
  by_cases h : P
  · rw [if_pos h]; exact ⟨fun q => absurd q (by decide), fun q => absurd h q⟩
  · rw [if_neg h]; exact ⟨fun _ => h, fun _ => rfl⟩
theorem pn_b1 {P : Prop} : ¬ pn_b P = 0 ↔ P := by rw [pn_b0]; exact Classical.not_not
theorem pn_bt {P : Prop} (h : P) : nI 1 = pn_b P := by unfold pn_b; rw [if_pos h]
theorem pn_bf {P : Prop} (h : ¬ P) : nI 0 = pn_b P := by unfold pn_b; rw [if_neg h]
theorem pn_nz {P : Prop} : narrow .boolean (.int (pn_b P)) = .int (pn_b P) := by
  unfold pn_b
  by_cases h : P
  · rw [if_pos h]; decide
  · rw [if_neg h]; decide
theorem pn_cmp0 {x y : Int64} : lg_cmp x y = 0 ↔ x = y := by
  unfold lg_cmp
  by_cases h1 : y < x
  · rw [if_pos h1]
    refine ⟨fun h => absurd h (by decide), fun h => ?_⟩
    subst h
    exact absurd h1 (Int64.lt_irrefl)
  · rw [if_neg h1]
    by_cases h2 : x = y
    · rw [if_pos h2]; exact ⟨fun _ => h2, fun _ => rfl⟩
    · rw [if_neg h2]; exact ⟨fun h => absurd h (by decide), fun h => absurd h h2⟩
theorem pn_sw (x : Int32) {lo hi : Nat} : (x.toInt < (lo : Int) ∨ (hi : Int) < x.toInt) ∨ ∃ k : Nat, (lo ≤ k ∧ k ≤ hi) ∧ x.toInt = (k : Int) := by
  by_cases h1 : x.toInt < (lo : Int)
  · exact Or.inl (Or.inl h1)
  · by_cases h2 : (hi : Int) < x.toInt
    · exact Or.inl (Or.inr h2)
    · exact Or.inr ⟨x.toInt.toNat, ⟨by omega, by omega⟩, by omega⟩
theorem pn_swe {x : Int32} {k : Nat} (h : x.toInt = (k : Int)) (hk : k < 2 ^ 31) : x = nI k := Int32.toInt_inj.mp (by rw [h, nI_toInt hk])
theorem pn_toI {k : Nat} (hk : k < 2 ^ 31) : (nI k).toInt = (k : Int) := nI_toInt hk
theorem pn_nd {L : List Nat} (h : L.Nodup) (is : List Nat) {L' : List Nat} (e : is.filterMap (fun i => L[i]?) = L') (hd : is.Nodup := by decide) : L'.Nodup := by
  subst e
  rw [List.nodup_iff_pairwise_ne] at *
  refine List.Pairwise.filterMap _ (fun a b hab x hx y hy hxy => ?_) hd
  subst hxy
  have hi : a < L.length := (List.getElem?_eq_some_iff.mp hx).1
  have hn : L.Nodup := h
  exact hab ((List.getElem?_inj hi hn).mp (by rw [hx, hy]))
theorem pn_sA {L L' : List Nat} (is : List Nat) (e : is.filterMap (fun i => L[i]?) = L') : ∀ q, pn_In L' q → pn_In L q := by
  subst e
  intro q hq
  obtain ⟨i, -, hi⟩ := List.mem_filterMap.mp hq
  exact List.mem_of_getElem? hi
/-- how far from 0 on something holds, below n -/
def pn_cw (P : Nat → Bool) : Nat → Nat
  | 0 => 0
  | n + 1 => if pn_cw P n = n ∧ P n = true then n + 1 else pn_cw P n
theorem pn_cw_le (P : Nat → Bool) (n : Nat) : pn_cw P n ≤ n := by
  induction n with
  | zero => exact Nat.le_refl _
  | succ n ih =>
    unfold pn_cw
    split
    · exact Nat.le_refl _
    · omega
theorem pn_cw_lt (P : Nat → Bool) (n : Nat) : ∀ i, i < pn_cw P n → P i = true := by
  induction n with
  | zero => intro i h; exact absurd h (Nat.not_lt_zero _)
  | succ n ih =>
    intro i h
    unfold pn_cw at h
    split at h
    · rename_i q
      by_cases hi : i = n
      · subst hi; exact q.2
      · exact ih i (by rw [q.1]; omega)
    · exact ih i h
theorem pn_cw_no (P : Nat → Bool) (n : Nat) (h : pn_cw P n < n) : ¬ P (pn_cw P n) = true := by
  induction n with
  | zero => exact absurd h (Nat.not_lt_zero _)
  | succ n ih =>
    have hle := pn_cw_le P n
    unfold pn_cw at h ⊢
    split
    · rename_i q; rw [if_pos q] at h; exact absurd h (Nat.lt_irrefl _)
    · rename_i q
      rw [if_neg q] at h
      by_cases hn : pn_cw P n = n
      · rw [hn]; exact fun hp => q ⟨hn, hp⟩
      · exact ih (by omega)
theorem pn_cw_eq {P : Nat → Bool} {n k : Nat} (h1 : ∀ i, i < k → P i = true) (hk : k ≤ n) (h2 : k = n ∨ ¬ P k = true) : pn_cw P n = k := by
  have a := pn_cw_le P n
  have b := pn_cw_lt P n
  have c := pn_cw_no P n
  by_cases h : pn_cw P n < k
  · exact absurd (h1 _ h) (c (by omega))
  · by_cases h3 : k < pn_cw P n
    · rcases h2 with h2 | h2
      · omega
      · exact absurd (b k h3) h2
    · omega
/-! names as numbers -/
def pn_let (nm : Int64) (k : Nat) : Int32 := ((nm.toUInt64 >>> ((nI (8 * k)).toInt64.toUInt64 &&& Int64.toUInt64 63)).toInt64.toInt32 &&& nI 255)
def pn_wl (nm : Int64) (k : Nat) (x : Int32) : Int64 := (nm ||| (x.toInt64 <<< ((nI (8 * k)).toInt64 &&& 63)))
def pn_len (nm : Int64) : Nat := pn_cw (fun i => decide (¬ pn_let nm i = 0)) 8
theorem pn_len8 (nm : Int64) : pn_len nm ≤ 8 := pn_cw_le _ _
def pn_cls (x : Int32) : Int32 :=
  if x = nI 98 ∨ x = nI 102 ∨ x = nI 112 ∨ x = nI 118 then nI 1
  else if x = nI 99 ∨ x = nI 103 ∨ x = nI 106 ∨ x = nI 107 ∨ x = nI 113 ∨ x = nI 115 ∨ x = nI 120 ∨ x = nI 122 then nI 2
  else if x = nI 100 ∨ x = nI 116 then nI 3
  else if x = nI 108 then nI 4
  else if x = nI 109 ∨ x = nI 110 then nI 5
  else if x = nI 114 then nI 6
  else nI 0
theorem pn_cls_out {x : Int32} (h : x.toInt < ((98 : Nat) : Int) ∨ ((122 : Nat) : Int) < x.toInt) : nI 0 = pn_cls x := by
  have ne : ∀ k : Nat, 98 ≤ k → k ≤ 122 → ¬ x = nI k := by
    intro k h1 h2 e
    rw [e, nI_toInt (by omega)] at h
    omega
  unfold pn_cls
  simp [ne 98, ne 99, ne 100, ne 102, ne 103, ne 106, ne 107, ne 108, ne 109, ne 110, ne 112, ne 113, ne 114, ne 115, ne 116, ne 118, ne 120, ne 122]
def pn_cs (h : Int32) (k : Nat) : Int32 := (((h.toUInt32 >>> ((nI (4 * k)).toUInt32 &&& Int32.toUInt32 31)).toInt32 &&& nI 15) - nI 1)
def pn_lsd (h : Int32) : Nat := pn_cw (fun i => decide (¬ pn_cs h i < 0)) 4
theorem pn_lsd4 (h : Int32) : pn_lsd h ≤ 4 := pn_cw_le _ _
/-- what is heard, and how many classes, behind letter j -/
def pn_sd (nm : Int64) : Nat → Int32 × Nat
  | 0 => (pn_cls (pn_let nm 0) + nI 1, 1)
  | j + 1 => if (pn_sd nm j).2 < 4 ∧ ¬ pn_cls (pn_let nm (j + 1)) = 0 ∧ ¬ pn_cls (pn_let nm (j + 1)) = pn_cls (pn_let nm j)
      then ((pn_sd nm j).1 ||| ((pn_cls (pn_let nm (j + 1)) + nI 1) <<< (nI (4 * (pn_sd nm j).2) &&& 31)), (pn_sd nm j).2 + 1)
      else pn_sd nm j
def pn_snd (nm : Int64) : Int32 := (pn_sd nm (pn_len nm - 1)).1
theorem pn_sd4 (nm : Int64) (j : Nat) : 1 ≤ (pn_sd nm j).2 ∧ (pn_sd nm j).2 ≤ 4 := by
  induction j with
  | zero => exact ⟨Nat.le_refl 1, by show 1 ≤ 4; omega⟩
  | succ j ih =>
    unfold pn_sd
    split
    · rename_i h; exact ⟨by show 1 ≤ _ + 1; omega, by show _ + 1 ≤ 4; omega⟩
    · exact ih
theorem pn_sd_s (nm : Int64) (j : Nat) : pn_sd nm (j + 1) = if (pn_sd nm j).2 < 4 ∧ ¬ pn_cls (pn_let nm (j + 1)) = 0 ∧ ¬ pn_cls (pn_let nm (j + 1)) = pn_cls (pn_let nm j)
      then ((pn_sd nm j).1 ||| ((pn_cls (pn_let nm (j + 1)) + nI 1) <<< (nI (4 * (pn_sd nm j).2) &&& 31)), (pn_sd nm j).2 + 1)
      else pn_sd nm j := rfl
theorem pn_sd_stop (nm : Int64) {j : Nat} (h : 4 ≤ (pn_sd nm j).2) : ∀ d, pn_sd nm (j + d) = pn_sd nm j := by
  intro d
  induction d with
  | zero => rfl
  | succ d ih =>
    show pn_sd nm ((j + d) + 1) = _
    rw [pn_sd_s, if_neg (by rw [ih]; omega)]
    exact ih
/-- how many letters must change -/
def pn_lev (a b : Nat → Int32) : Nat → Nat → Nat
  | 0, j => j
  | i + 1, 0 => i + 1
  | i + 1, j + 1 => min (if a i = b j then pn_lev a b i j else pn_lev a b i j + 1) (min (pn_lev a b i (j + 1)) (pn_lev a b (i + 1) j) + 1)
theorem pn_lev_le (a b : Nat → Int32) : ∀ i j, pn_lev a b i j ≤ i + j := by
  intro i
  induction i with
  | zero => intro j; unfold pn_lev; omega
  | succ i ih =>
    intro j
    cases j with
    | zero => unfold pn_lev; omega
    | succ j =>
      have h1 := ih j
      unfold pn_lev
      split <;> omega
theorem pn_lev_i0 (a b : Nat → Int32) (i : Nat) : pn_lev a b i 0 = i := by
  cases i <;> rw [pn_lev]
theorem pn_lev_0j (a b : Nat → Int32) (j : Nat) : pn_lev a b 0 j = j := by
  cases j <;> rw [pn_lev]
theorem pn_lev_ss (a b : Nat → Int32) (i j : Nat) : pn_lev a b (i + 1) (j + 1) = min (if a i = b j then pn_lev a b i j else pn_lev a b i j + 1) (min (pn_lev a b i (j + 1)) (pn_lev a b (i + 1) j) + 1) := by rw [pn_lev]
theorem pn_lev_sym (a b : Nat → Int32) : ∀ i j, pn_lev a b i j = pn_lev b a j i := by
  intro i
  induction i with
  | zero => intro j; rw [pn_lev_i0, pn_lev_0j]
  | succ i ih =>
    intro j
    induction j with
    | zero => rw [pn_lev_i0, pn_lev_0j]
    | succ j ihj =>
      rw [pn_lev_ss a b, pn_lev_ss b a, ih j, ih (j + 1), ihj]
      by_cases h : a i = b j
      · rw [if_pos h, if_pos h.symm, Nat.min_comm (pn_lev b a (j + 1) i)]
      · rw [if_neg h, if_neg (fun q => h q.symm), Nat.min_comm (pn_lev b a (j + 1) i)]
/-- HOW a name is like another one -/
def pn_like (x y : Int64) (how : Int32) : Prop := (how = 0 ∧ x = y) ∨ (how = nI 1 ∧ pn_snd x = pn_snd y) ∨ (¬ how = 0 ∧ ¬ how = nI 1 ∧ pn_lev (pn_let x) (pn_let y) (pn_len x) (pn_len y) ≤ 1)
end
section
set_option maxHeartbeats 4000000 in
set_option maxRecDepth 100000 in
theorem c_X1_letterOf (l : Launch) (D : va_G) (cI cL cZ cO : ClassId)  (nm : Int64) (k : Nat) : Met l yX1_letterOf wsX1_letterOf ({ frames := 0, cells := 0, slots := 0, locals := 0 }) (va_Pc [.long nm, .int (nI k)] (pn_Pr D cI cL cZ cO [])) (va_Qi (fun r (_ : Unit) => r = (pn_let nm k)) (fun _ _ => True) pn_No) 0 0 pn_No := by
  refine pn_mk (by decide) rfl (Nat.le_of_ble_eq_true rfl) ?_
  intro p e s m below meth c ls hx hb hr hml hown hts hlocks hK hP hl
  have hown : s.vm.findClass RX1 = some m.cls := hown
  have hS : va_S pn_No s.heap s.heap [] := va_S.rf
  have hl : lv_has ls 3 [(0, .long nm), (2, .int (nI k))] := hl
  refine lv_lload_n hx hb dX1_letterOf_0 rfl (lv_at hl 0 rfl) ?_
  refine lv_bipush (v := (nI 8)) hx hb dX1_letterOf_1 (by decide) ?_
  refine lv_iload_n hx hb dX1_letterOf_3 rfl (lv_at hl 1 rfl) ?_
  refine pn_imul hx hb dX1_letterOf_4 ?_
  refine lv_lushr hx hb dX1_letterOf_5 rfl ?_
  refine lv_l2i hx hb dX1_letterOf_6 rfl ?_
  refine lv_sipush (v := (nI 255)) hx hb dX1_letterOf_7 (by decide) ?_
  refine lv_iand hx hb dX1_letterOf_10 ?_
  exact W.iret hx hb hr (fun t ht hW => ⟨⟨_, (), rfl, rfl, trivial⟩, hS.F ht⟩) hS.2.2 dX1_letterOf_11 hlocks

set_option maxHeartbeats 4000000 in
set_option maxRecDepth 100000 in
theorem c_X1_withLetter (l : Launch) (D : va_G) (cI cL cZ cO : ClassId)  (nm : Int64) (k : Nat) (x : Int32) : Met l yX1_withLetter wsX1_withLetter ({ frames := 0, cells := 0, slots := 0, locals := 0 }) (va_Pc [.long nm, .int (nI k), .int x] (pn_Pr D cI cL cZ cO [])) (va_Ql (fun r (_ : Unit) => r = (pn_wl nm k x)) (fun _ _ => True) pn_No) 0 0 pn_No := by
  refine pn_mk (by decide) rfl (Nat.le_of_ble_eq_true rfl) ?_
  intro p e s m below meth c ls hx hb hr hml hown hts hlocks hK hP hl
  have hown : s.vm.findClass RX1 = some m.cls := hown
  have hS : va_S pn_No s.heap s.heap [] := va_S.rf
  have hl : lv_has ls 4 [(0, .long nm), (2, .int (nI k)), (3, .int x)] := hl
  refine lv_lload_n hx hb dX1_withLetter_0 rfl (lv_at hl 0 rfl) ?_
  refine lv_iload_n hx hb dX1_withLetter_1 rfl (lv_at hl 2 rfl) ?_
  refine lv_i2l hx hb dX1_withLetter_2 rfl ?_
  refine lv_bipush (v := (nI 8)) hx hb dX1_withLetter_3 (by decide) ?_
  refine lv_iload_n hx hb dX1_withLetter_5 rfl (lv_at hl 1 rfl) ?_
  refine pn_imul hx hb dX1_withLetter_6 ?_
  refine lv_lshl hx hb dX1_withLetter_7 rfl ?_
  refine lv_lor hx hb dX1_withLetter_8 ?_
  exact W.lret hx hb hr (fun t ht hW => ⟨⟨_, (), rfl, rfl, trivial⟩, hS.F ht⟩) hS.2.2 dX1_withLetter_9 hlocks

set_option maxHeartbeats 4000000 in
set_option maxRecDepth 100000 in
theorem c_X1_lengthOf (l : Launch) (D : va_G) (cI cL cZ cO : ClassId)  (nm : Int64) : Met l yX1_lengthOf wsX1_lengthOf ({ frames := 1, cells := 0, slots := 0, locals := 22 }) (va_Pc [.long nm] (pn_Pr D cI cL cZ cO [])) (va_Qi (fun r (_ : Unit) => r = (nI (pn_len nm))) (fun _ _ => True) pn_No) 0 0 pn_No := by
  refine pn_mk (by decide) rfl (Nat.le_of_ble_eq_true rfl) ?_
  intro p e s m below meth c ls hx hb hr hml hown hts hlocks hK hP hl
  have hown : s.vm.findClass RX1 = some m.cls := hown
  have hS : va_S pn_No s.heap s.heap [] := va_S.rf
  have hl : lv_has ls 3 [(0, .long nm)] := hl
  refine lv_iconst (v := (nI 0)) hx hb dX1_lengthOf_0 (by decide) ?_
  refine lv_istore_n (lv' := [(2, .int (nI 0)), (0, .long nm)]) hx hb dX1_lengthOf_1 rfl hl (by decide) rfl (fun ls hl => ?_)
  have lp2_1 : ∀ (fu : Nat) (k : Nat), 8 - k < fu → (k ≤ 8) → (∀ i, i < k → ¬ pn_let nm i = 0) → ∀ (H : Heap) (locs : List Loc) (ls : Array Slot), va_P D vwCl [] H → va_S pn_No s.heap H locs → lv_has ls 3 [(0, .long nm), (2, .int (nI k))] → W p l e ({ frames := 1, cells := 0, slots := 0, locals := 22 }) s m (List.toArray [.long nm]) below meth c H locs 0 0 (MQ below (va_Qi (fun r (_ : Unit) => r = (nI (pn_len nm))) (fun _ _ => True) pn_No) (List.toArray [.long nm]) s 0 0 pn_No) (F0 m 2 ls []) := by
    intro fu
    induction fu with
    | zero => intro k hfu; exact absurd hfu (Nat.not_lt_zero _)
    | succ fu ih2_1 =>
      intro k hfu hk hp H locs ls hP hS hl
      refine lv_iload_n hx hb dX1_lengthOf_2 rfl (lv_at hl 1 rfl) ?_
      refine lv_bipush (v := (nI 8)) hx hb dX1_lengthOf_3 (by decide) ?_
      refine lv_icmp_ge (tgt := 22) hx hb dX1_lengthOf_5 (by decide) (fun c_2 => ?_) (fun c_2 => ?_)
      · have c_2 : 8 ≤ k := (pn_le (by omega) (by omega)).mp (show nI 8 ≤ nI k from c_2)
        refine lv_iload_n hx hb dX1_lengthOf_22 rfl (lv_at hl 1 rfl) ?_
        exact W.iret hx hb hr (fun t ht hW => ⟨⟨_, (), rfl, (congrArg nI (pn_cw_eq (fun i h => decide_eq_true (hp i h)) (by omega) (by first | exact Or.inl (by omega) | exact Or.inr (by simp_all))).symm), trivial⟩, hS.F ht⟩) hS.2.2 dX1_lengthOf_23 hlocks
      · have c_2 : ¬ 8 ≤ k := fun h => (show ¬ nI 8 ≤ nI k from c_2) ((pn_le (by omega) (by omega)).mpr h)
        refine lv_lload_n hx hb dX1_lengthOf_8 rfl (lv_at hl 0 rfl) ?_
        refine lv_iload_n hx hb dX1_lengthOf_9 rfl (lv_at hl 1 rfl) ?_
        refine pn_roi (w := []) hP hS (va_runS (As := [.long nm, .int (nI k)]) (rest := []) ⟨hx, hb, hml, hown, hts⟩ (c_X1_letterOf l D cI cL cZ cO nm k) (va_cwS 2 hts gX1_lengthOf_X1_letterOf rfl rfl rfl (by decide +kernel) ⟨Nat.le_of_ble_eq_true rfl, Nat.le_of_ble_eq_true rfl⟩) (pn_ps (WS := []) (fun k q h => by simp at h) hK) rfl rfl hl.1 rfl (lv_room (Nat.le_of_ble_eq_true rfl)) dX1_lengthOf_10 ⟨Nat.le_of_ble_eq_true rfl, Nat.le_of_ble_eq_true rfl⟩) (fun H locs hP hS => ?_)
        refine lv_if_eq (tgt := 22) hx hb dX1_lengthOf_13 (by decide) (fun c_3 => ?_) (fun c_3 => ?_)
        · refine lv_iload_n hx hb dX1_lengthOf_22 rfl (lv_at hl 1 rfl) ?_
          exact W.iret hx hb hr (fun t ht hW => ⟨⟨_, (), rfl, (congrArg nI (pn_cw_eq (fun i h => decide_eq_true (hp i h)) (by omega) (by first | exact Or.inl (by omega) | exact Or.inr (by simp_all))).symm), trivial⟩, hS.F ht⟩) hS.2.2 dX1_lengthOf_23 hlocks
        · refine lv_iinc (v := (nI (k + 1))) (lv' := [(2, .int (nI (k + 1))), (0, .long nm)]) hx hb dX1_lengthOf_16 hl (k := 1) rfl (nI_add k 1) (by decide) rfl (fun ls hl => ?_)
          refine lv_goto (tgt := 2) hx hb dX1_lengthOf_19 (by decide) ?_
          exact ih2_1 (k + 1) (by omega) (by first | assumption | omega | grind | simp_all) (lt_s hp (by assumption)) _ _ _ hP hS (lv_sub hl [1, 0] rfl)
  exact lp2_1 ((8 - 0) + 1) 0 (Nat.lt_succ_self _) (by first | assumption | omega | grind | simp_all) (fun i h => absurd h (Nat.not_lt_zero _)) _ _ _ hP hS (lv_sub hl [1, 0] rfl)

set_option maxHeartbeats 4000000 in
set_option maxRecDepth 100000 in
theorem c_X1_classOf (l : Launch) (D : va_G) (cI cL cZ cO : ClassId)  (x : Int32) : Met l yX1_classOf wsX1_classOf ({ frames := 0, cells := 0, slots := 0, locals := 0 }) (va_Pc [.int x] (pn_Pr D cI cL cZ cO [])) (va_Qi (fun r (_ : Unit) => r = (pn_cls x)) (fun _ _ => True) pn_No) 0 0 pn_No := by
  refine pn_mk (by decide) rfl (Nat.le_of_ble_eq_true rfl) ?_
  intro p e s m below meth c ls hx hb hr hml hown hts hlocks hK hP hl
  have hown : s.vm.findClass RX1 = some m.cls := hown
  have hS : va_S pn_No s.heap s.heap [] := va_S.rf
  have hl : lv_has ls 1 [(0, .int x)] := hl
  refine lv_iload_n hx hb dX1_classOf_0 rfl (lv_at hl 0 rfl) ?_
  rcases pn_sw x (lo := 98) (hi := 122) with c_1 | c_1
  · refine lv_tableOut (tgt := 129) hx hb dX1_classOf_1 c_1 (by decide) ?_
    refine lv_iconst (v := (nI 0)) hx hb dX1_classOf_129 (by decide) ?_
    exact W.iret hx hb hr (fun t ht hW => ⟨⟨_, (), rfl, (by first | exact pn_cls_out (by assumption) | (simp only [*]; decide)), trivial⟩, hS.F ht⟩) hS.2.2 dX1_classOf_130 hlocks
  · obtain ⟨k_1, hk_1, c_1⟩ := c_1
    have hk_1 : k_1 = 98 ∨ k_1 = 99 ∨ k_1 = 100 ∨ k_1 = 101 ∨ k_1 = 102 ∨ k_1 = 103 ∨ k_1 = 104 ∨ k_1 = 105 ∨ k_1 = 106 ∨ k_1 = 107 ∨ k_1 = 108 ∨ k_1 = 109 ∨ k_1 = 110 ∨ k_1 = 111 ∨ k_1 = 112 ∨ k_1 = 113 ∨ k_1 = 114 ∨ k_1 = 115 ∨ k_1 = 116 ∨ k_1 = 117 ∨ k_1 = 118 ∨ k_1 = 119 ∨ k_1 = 120 ∨ k_1 = 121 ∨ k_1 = 122 := by omega
    rcases hk_1 with rfl | rfl | rfl | rfl | rfl | rfl | rfl | rfl | rfl | rfl | rfl | rfl | rfl | rfl | rfl | rfl | rfl | rfl | rfl | rfl | rfl | rfl | rfl | rfl | rfl
    · refine lv_tableIn (tgt := 116) hx hb dX1_classOf_1 (by rw [c_1]; decide) (by rw [c_1]; decide) (by rw [c_1]; rfl) (by decide) ?_
      have c_1 : x = 98 := pn_swe c_1 (by decide)
      refine lv_iconst (v := (nI 1)) hx hb dX1_classOf_116 (by decide) ?_
      exact W.iret hx hb hr (fun t ht hW => ⟨⟨_, (), rfl, (by first | exact pn_cls_out (by assumption) | (simp only [*]; decide)), trivial⟩, hS.F ht⟩) hS.2.2 dX1_classOf_117 hlocks
    · refine lv_tableIn (tgt := 118) hx hb dX1_classOf_1 (by rw [c_1]; decide) (by rw [c_1]; decide) (by rw [c_1]; rfl) (by decide) ?_
      have c_1 : x = 99 := pn_swe c_1 (by decide)
      refine lv_iconst (v := (nI 2)) hx hb dX1_classOf_118 (by decide) ?_
      exact W.iret hx hb hr (fun t ht hW => ⟨⟨_, (), rfl, (by first | exact pn_cls_out (by assumption) | (simp only [*]; decide)), trivial⟩, hS.F ht⟩) hS.2.2 dX1_classOf_119 hlocks
    · refine lv_tableIn (tgt := 120) hx hb dX1_classOf_1 (by rw [c_1]; decide) (by rw [c_1]; decide) (by rw [c_1]; rfl) (by decide) ?_
      have c_1 : x = 100 := pn_swe c_1 (by decide)
      refine lv_iconst (v := (nI 3)) hx hb dX1_classOf_120 (by decide) ?_
      exact W.iret hx hb hr (fun t ht hW => ⟨⟨_, (), rfl, (by first | exact pn_cls_out (by assumption) | (simp only [*]; decide)), trivial⟩, hS.F ht⟩) hS.2.2 dX1_classOf_121 hlocks
    · refine lv_tableIn (tgt := 129) hx hb dX1_classOf_1 (by rw [c_1]; decide) (by rw [c_1]; decide) (by rw [c_1]; rfl) (by decide) ?_
      have c_1 : x = 101 := pn_swe c_1 (by decide)
      refine lv_iconst (v := (nI 0)) hx hb dX1_classOf_129 (by decide) ?_
      exact W.iret hx hb hr (fun t ht hW => ⟨⟨_, (), rfl, (by first | exact pn_cls_out (by assumption) | (simp only [*]; decide)), trivial⟩, hS.F ht⟩) hS.2.2 dX1_classOf_130 hlocks
    · refine lv_tableIn (tgt := 116) hx hb dX1_classOf_1 (by rw [c_1]; decide) (by rw [c_1]; decide) (by rw [c_1]; rfl) (by decide) ?_
      have c_1 : x = 102 := pn_swe c_1 (by decide)
      refine lv_iconst (v := (nI 1)) hx hb dX1_classOf_116 (by decide) ?_
      exact W.iret hx hb hr (fun t ht hW => ⟨⟨_, (), rfl, (by first | exact pn_cls_out (by assumption) | (simp only [*]; decide)), trivial⟩, hS.F ht⟩) hS.2.2 dX1_classOf_117 hlocks
    · refine lv_tableIn (tgt := 118) hx hb dX1_classOf_1 (by rw [c_1]; decide) (by rw [c_1]; decide) (by rw [c_1]; rfl) (by decide) ?_
      have c_1 : x = 103 := pn_swe c_1 (by decide)
      refine lv_iconst (v := (nI 2)) hx hb dX1_classOf_118 (by decide) ?_
      exact W.iret hx hb hr (fun t ht hW => ⟨⟨_, (), rfl, (by first | exact pn_cls_out (by assumption) | (simp only [*]; decide)), trivial⟩, hS.F ht⟩) hS.2.2 dX1_classOf_119 hlocks
    · refine lv_tableIn (tgt := 129) hx hb dX1_classOf_1 (by rw [c_1]; decide) (by rw [c_1]; decide) (by rw [c_1]; rfl) (by decide) ?_
      have c_1 : x = 104 := pn_swe c_1 (by decide)
      refine lv_iconst (v := (nI 0)) hx hb dX1_classOf_129 (by decide) ?_
      exact W.iret hx hb hr (fun t ht hW => ⟨⟨_, (), rfl, (by first | exact pn_cls_out (by assumption) | (simp only [*]; decide)), trivial⟩, hS.F ht⟩) hS.2.2 dX1_classOf_130 hlocks
    · refine lv_tableIn (tgt := 129) hx hb dX1_classOf_1 (by rw [c_1]; decide) (by rw [c_1]; decide) (by rw [c_1]; rfl) (by decide) ?_
      have c_1 : x = 105 := pn_swe c_1 (by decide)
      refine lv_iconst (v := (nI 0)) hx hb dX1_classOf_129 (by decide) ?_
      exact W.iret hx hb hr (fun t ht hW => ⟨⟨_, (), rfl, (by first | exact pn_cls_out (by assumption) | (simp only [*]; decide)), trivial⟩, hS.F ht⟩) hS.2.2 dX1_classOf_130 hlocks
    · refine lv_tableIn (tgt := 118) hx hb dX1_classOf_1 (by rw [c_1]; decide) (by rw [c_1]; decide) (by rw [c_1]; rfl) (by decide) ?_
      have c_1 : x = 106 := pn_swe c_1 (by decide)
      refine lv_iconst (v := (nI 2)) hx hb dX1_classOf_118 (by decide) ?_
      exact W.iret hx hb hr (fun t ht hW => ⟨⟨_, (), rfl, (by first | exact pn_cls_out (by assumption) | (simp only [*]; decide)), trivial⟩, hS.F ht⟩) hS.2.2 dX1_classOf_119 hlocks
    · refine lv_tableIn (tgt := 118) hx hb dX1_classOf_1 (by rw [c_1]; decide) (by rw [c_1]; decide) (by rw [c_1]; rfl) (by decide) ?_
      have c_1 : x = 107 := pn_swe c_1 (by decide)
      refine lv_iconst (v := (nI 2)) hx hb dX1_classOf_118 (by decide) ?_
      exact W.iret hx hb hr (fun t ht hW => ⟨⟨_, (), rfl, (by first | exact pn_cls_out (by assumption) | (simp only [*]; decide)), trivial⟩, hS.F ht⟩) hS.2.2 dX1_classOf_119 hlocks
    · refine lv_tableIn (tgt := 122) hx hb dX1_classOf_1 (by rw [c_1]; decide) (by rw [c_1]; decide) (by rw [c_1]; rfl) (by decide) ?_
      have c_1 : x = 108 := pn_swe c_1 (by decide)
      refine lv_iconst (v := (nI 4)) hx hb dX1_classOf_122 (by decide) ?_
      exact W.iret hx hb hr (fun t ht hW => ⟨⟨_, (), rfl, (by first | exact pn_cls_out (by assumption) | (simp only [*]; decide)), trivial⟩, hS.F ht⟩) hS.2.2 dX1_classOf_123 hlocks
    · refine lv_tableIn (tgt := 124) hx hb dX1_classOf_1 (by rw [c_1]; decide) (by rw [c_1]; decide) (by rw [c_1]; rfl) (by decide) ?_
      have c_1 : x = 109 := pn_swe c_1 (by decide)
      refine lv_iconst (v := (nI 5)) hx hb dX1_classOf_124 (by decide) ?_
      exact W.iret hx hb hr (fun t ht hW => ⟨⟨_, (), rfl, (by first | exact pn_cls_out (by assumption) | (simp only [*]; decide)), trivial⟩, hS.F ht⟩) hS.2.2 dX1_classOf_125 hlocks
    · refine lv_tableIn (tgt := 124) hx hb dX1_classOf_1 (by rw [c_1]; decide) (by rw [c_1]; decide) (by rw [c_1]; rfl) (by decide) ?_
      have c_1 : x = 110 := pn_swe c_1 (by decide)
      refine lv_iconst (v := (nI 5)) hx hb dX1_classOf_124 (by decide) ?_
      exact W.iret hx hb hr (fun t ht hW => ⟨⟨_, (), rfl, (by first | exact pn_cls_out (by assumption) | (simp only [*]; decide)), trivial⟩, hS.F ht⟩) hS.2.2 dX1_classOf_125 hlocks
    · refine lv_tableIn (tgt := 129) hx hb dX1_classOf_1 (by rw [c_1]; decide) (by rw [c_1]; decide) (by rw [c_1]; rfl) (by decide) ?_
      have c_1 : x = 111 := pn_swe c_1 (by decide)
      refine lv_iconst (v := (nI 0)) hx hb dX1_classOf_129 (by decide) ?_
      exact W.iret hx hb hr (fun t ht hW => ⟨⟨_, (), rfl, (by first | exact pn_cls_out (by assumption) | (simp only [*]; decide)), trivial⟩, hS.F ht⟩) hS.2.2 dX1_classOf_130 hlocks
    · refine lv_tableIn (tgt := 116) hx hb dX1_classOf_1 (by rw [c_1]; decide) (by rw [c_1]; decide) (by rw [c_1]; rfl) (by decide) ?_
      have c_1 : x = 112 := pn_swe c_1 (by decide)
      refine lv_iconst (v := (nI 1)) hx hb dX1_classOf_116 (by decide) ?_
      exact W.iret hx hb hr (fun t ht hW => ⟨⟨_, (), rfl, (by first | exact pn_cls_out (by assumption) | (simp only [*]; decide)), trivial⟩, hS.F ht⟩) hS.2.2 dX1_classOf_117 hlocks
    · refine lv_tableIn (tgt := 118) hx hb dX1_classOf_1 (by rw [c_1]; decide) (by rw [c_1]; decide) (by rw [c_1]; rfl) (by decide) ?_
      have c_1 : x = 113 := pn_swe c_1 (by decide)
      refine lv_iconst (v := (nI 2)) hx hb dX1_classOf_118 (by decide) ?_
      exact W.iret hx hb hr (fun t ht hW => ⟨⟨_, (), rfl, (by first | exact pn_cls_out (by assumption) | (simp only [*]; decide)), trivial⟩, hS.F ht⟩) hS.2.2 dX1_classOf_119 hlocks
    · refine lv_tableIn (tgt := 126) hx hb dX1_classOf_1 (by rw [c_1]; decide) (by rw [c_1]; decide) (by rw [c_1]; rfl) (by decide) ?_
      have c_1 : x = 114 := pn_swe c_1 (by decide)
      refine lv_bipush (v := (nI 6)) hx hb dX1_classOf_126 (by decide) ?_
      exact W.iret hx hb hr (fun t ht hW => ⟨⟨_, (), rfl, (by first | exact pn_cls_out (by assumption) | (simp only [*]; decide)), trivial⟩, hS.F ht⟩) hS.2.2 dX1_classOf_128 hlocks
    · refine lv_tableIn (tgt := 118) hx hb dX1_classOf_1 (by rw [c_1]; decide) (by rw [c_1]; decide) (by rw [c_1]; rfl) (by decide) ?_
      have c_1 : x = 115 := pn_swe c_1 (by decide)
      refine lv_iconst (v := (nI 2)) hx hb dX1_classOf_118 (by decide) ?_
      exact W.iret hx hb hr (fun t ht hW => ⟨⟨_, (), rfl, (by first | exact pn_cls_out (by assumption) | (simp only [*]; decide)), trivial⟩, hS.F ht⟩) hS.2.2 dX1_classOf_119 hlocks
    · refine lv_tableIn (tgt := 120) hx hb dX1_classOf_1 (by rw [c_1]; decide) (by rw [c_1]; decide) (by rw [c_1]; rfl) (by decide) ?_
      have c_1 : x = 116 := pn_swe c_1 (by decide)
      refine lv_iconst (v := (nI 3)) hx hb dX1_classOf_120 (by decide) ?_
      exact W.iret hx hb hr (fun t ht hW => ⟨⟨_, (), rfl, (by first | exact pn_cls_out (by assumption) | (simp only [*]; decide)), trivial⟩, hS.F ht⟩) hS.2.2 dX1_classOf_121 hlocks
    · refine lv_tableIn (tgt := 129) hx hb dX1_classOf_1 (by rw [c_1]; decide) (by rw [c_1]; decide) (by rw [c_1]; rfl) (by decide) ?_
      have c_1 : x = 117 := pn_swe c_1 (by decide)
      refine lv_iconst (v := (nI 0)) hx hb dX1_classOf_129 (by decide) ?_
      exact W.iret hx hb hr (fun t ht hW => ⟨⟨_, (), rfl, (by first | exact pn_cls_out (by assumption) | (simp only [*]; decide)), trivial⟩, hS.F ht⟩) hS.2.2 dX1_classOf_130 hlocks
    · refine lv_tableIn (tgt := 116) hx hb dX1_classOf_1 (by rw [c_1]; decide) (by rw [c_1]; decide) (by rw [c_1]; rfl) (by decide) ?_
      have c_1 : x = 118 := pn_swe c_1 (by decide)
      refine lv_iconst (v := (nI 1)) hx hb dX1_classOf_116 (by decide) ?_
      exact W.iret hx hb hr (fun t ht hW => ⟨⟨_, (), rfl, (by first | exact pn_cls_out (by assumption) | (simp only [*]; decide)), trivial⟩, hS.F ht⟩) hS.2.2 dX1_classOf_117 hlocks
    · refine lv_tableIn (tgt := 129) hx hb dX1_classOf_1 (by rw [c_1]; decide) (by rw [c_1]; decide) (by rw [c_1]; rfl) (by decide) ?_
      have c_1 : x = 119 := pn_swe c_1 (by decide)
      refine lv_iconst (v := (nI 0)) hx hb dX1_classOf_129 (by decide) ?_
      exact W.iret hx hb hr (fun t ht hW => ⟨⟨_, (), rfl, (by first | exact pn_cls_out (by assumption) | (simp only [*]; decide)), trivial⟩, hS.F ht⟩) hS.2.2 dX1_classOf_130 hlocks
    · refine lv_tableIn (tgt := 118) hx hb dX1_classOf_1 (by rw [c_1]; decide) (by rw [c_1]; decide) (by rw [c_1]; rfl) (by decide) ?_
      have c_1 : x = 120 := pn_swe c_1 (by decide)
      refine lv_iconst (v := (nI 2)) hx hb dX1_classOf_118 (by decide) ?_
      exact W.iret hx hb hr (fun t ht hW => ⟨⟨_, (), rfl, (by first | exact pn_cls_out (by assumption) | (simp only [*]; decide)), trivial⟩, hS.F ht⟩) hS.2.2 dX1_classOf_119 hlocks
    · refine lv_tableIn (tgt := 129) hx hb dX1_classOf_1 (by rw [c_1]; decide) (by rw [c_1]; decide) (by rw [c_1]; rfl) (by decide) ?_
      have c_1 : x = 121 := pn_swe c_1 (by decide)
      refine lv_iconst (v := (nI 0)) hx hb dX1_classOf_129 (by decide) ?_
      exact W.iret hx hb hr (fun t ht hW => ⟨⟨_, (), rfl, (by first | exact pn_cls_out (by assumption) | (simp only [*]; decide)), trivial⟩, hS.F ht⟩) hS.2.2 dX1_classOf_130 hlocks
    · refine lv_tableIn (tgt := 118) hx hb dX1_classOf_1 (by rw [c_1]; decide) (by rw [c_1]; decide) (by rw [c_1]; rfl) (by decide) ?_
      have c_1 : x = 122 := pn_swe c_1 (by decide)
      refine lv_iconst (v := (nI 2)) hx hb dX1_classOf_118 (by decide) ?_
      exact W.iret hx hb hr (fun t ht hW => ⟨⟨_, (), rfl, (by first | exact pn_cls_out (by assumption) | (simp only [*]; decide)), trivial⟩, hS.F ht⟩) hS.2.2 dX1_classOf_119 hlocks

set_option maxHeartbeats 4000000 in
set_option maxRecDepth 100000 in
theorem c_X1_classOfSound (l : Launch) (D : va_G) (cI cL cZ cO : ClassId)  (h : Int32) (k : Nat) : Met l yX1_classOfSound wsX1_classOfSound ({ frames := 0, cells := 0, slots := 0, locals := 0 }) (va_Pc [.int h, .int (nI k)] (pn_Pr D cI cL cZ cO [])) (va_Qi (fun r (_ : Unit) => r = (pn_cs h k)) (fun _ _ => True) pn_No) 0 0 pn_No := by
  refine pn_mk (by decide) rfl (Nat.le_of_ble_eq_true rfl) ?_
  intro p e s m below meth c ls hx hb hr hml hown hts hlocks hK hP hl
  have hown : s.vm.findClass RX1 = some m.cls := hown
  have hS : va_S pn_No s.heap s.heap [] := va_S.rf
  have hl : lv_has ls 2 [(0, .int h), (1, .int (nI k))] := hl
  refine lv_iload_n hx hb dX1_classOfSound_0 rfl (lv_at hl 0 rfl) ?_
  refine lv_iconst (v := (nI 4)) hx hb dX1_classOfSound_1 (by decide) ?_
  refine lv_iload_n hx hb dX1_classOfSound_2 rfl (lv_at hl 1 rfl) ?_
  refine pn_imul hx hb dX1_classOfSound_3 ?_
  refine lv_iushr hx hb dX1_classOfSound_4 rfl ?_
  refine lv_bipush (v := (nI 15)) hx hb dX1_classOfSound_5 (by decide) ?_
  refine lv_iand hx hb dX1_classOfSound_7 ?_
  refine lv_iconst (v := (nI 1)) hx hb dX1_classOfSound_8 (by decide) ?_
  refine lv_isub hx hb dX1_classOfSound_9 ?_
  exact W.iret hx hb hr (fun t ht hW => ⟨⟨_, (), rfl, rfl, trivial⟩, hS.F ht⟩) hS.2.2 dX1_classOfSound_10 hlocks

set_option maxHeartbeats 4000000 in
set_option maxRecDepth 100000 in
theorem c_X1_lengthOfSound (l : Launch) (D : va_G) (cI cL cZ cO : ClassId)  (h : Int32) : Met l yX1_lengthOfSound wsX1_lengthOfSound ({ frames := 1, cells := 0, slots := 0, locals := 21 }) (va_Pc [.int h] (pn_Pr D cI cL cZ cO [])) (va_Qi (fun r (_ : Unit) => r = (nI (pn_lsd h))) (fun _ _ => True) pn_No) 0 0 pn_No := by
  refine pn_mk (by decide) rfl (Nat.le_of_ble_eq_true rfl) ?_
  intro p e s m below meth c ls hx hb hr hml hown hts hlocks hK hP hl
  have hown : s.vm.findClass RX1 = some m.cls := hown
  have hS : va_S pn_No s.heap s.heap [] := va_S.rf
  have hl : lv_has ls 2 [(0, .int h)] := hl
  refine lv_iconst (v := (nI 0)) hx hb dX1_lengthOfSound_0 (by decide) ?_
  refine lv_istore_n (lv' := [(1, .int (nI 0)), (0, .int h)]) hx hb dX1_lengthOfSound_1 rfl hl (by decide) rfl (fun ls hl => ?_)
  have lp2_1 : ∀ (fu : Nat) (k : Nat), 4 - k < fu → (k ≤ 4) → (∀ i, i < k → ¬ pn_cs h i < 0) → ∀ (H : Heap) (locs : List Loc) (ls : Array Slot), va_P D vwCl [] H → va_S pn_No s.heap H locs → lv_has ls 2 [(0, .int h), (1, .int (nI k))] → W p l e ({ frames := 1, cells := 0, slots := 0, locals := 21 }) s m (List.toArray [.int h]) below meth c H locs 0 0 (MQ below (va_Qi (fun r (_ : Unit) => r = (nI (pn_lsd h))) (fun _ _ => True) pn_No) (List.toArray [.int h]) s 0 0 pn_No) (F0 m 2 ls []) := by
    intro fu
    induction fu with
    | zero => intro k hfu; exact absurd hfu (Nat.not_lt_zero _)
    | succ fu ih2_1 =>
      intro k hfu hk hp H locs ls hP hS hl
      refine lv_iload_n hx hb dX1_lengthOfSound_2 rfl (lv_at hl 1 rfl) ?_
      refine lv_iconst (v := (nI 4)) hx hb dX1_lengthOfSound_3 (by decide) ?_
      refine lv_icmp_ge (tgt := 21) hx hb dX1_lengthOfSound_4 (by decide) (fun c_2 => ?_) (fun c_2 => ?_)
      · have c_2 : 4 ≤ k := (pn_le (by omega) (by omega)).mp (show nI 4 ≤ nI k from c_2)
        refine lv_iload_n hx hb dX1_lengthOfSound_21 rfl (lv_at hl 1 rfl) ?_
        exact W.iret hx hb hr (fun t ht hW => ⟨⟨_, (), rfl, (congrArg nI (pn_cw_eq (fun i h => decide_eq_true (hp i h)) (by omega) (by first | exact Or.inl (by omega) | exact Or.inr (by simp_all))).symm), trivial⟩, hS.F ht⟩) hS.2.2 dX1_lengthOfSound_22 hlocks
      · have c_2 : ¬ 4 ≤ k := fun h => (show ¬ nI 4 ≤ nI k from c_2) ((pn_le (by omega) (by omega)).mpr h)
        refine lv_iload_n hx hb dX1_lengthOfSound_7 rfl (lv_at hl 0 rfl) ?_
        refine lv_iload_n hx hb dX1_lengthOfSound_8 rfl (lv_at hl 1 rfl) ?_
        refine pn_roi (w := []) hP hS (va_runS (As := [.int h, .int (nI k)]) (rest := []) ⟨hx, hb, hml, hown, hts⟩ (c_X1_classOfSound l D cI cL cZ cO h k) (va_cwS 2 hts gX1_lengthOfSound_X1_classOfSound rfl rfl rfl (by decide +kernel) ⟨Nat.le_of_ble_eq_true rfl, Nat.le_of_ble_eq_true rfl⟩) (pn_ps (WS := []) (fun k q h => by simp at h) hK) rfl rfl hl.1 rfl (lv_room (Nat.le_of_ble_eq_true rfl)) dX1_lengthOfSound_9 ⟨Nat.le_of_ble_eq_true rfl, Nat.le_of_ble_eq_true rfl⟩) (fun H locs hP hS => ?_)
        refine lv_if_lt (tgt := 21) hx hb dX1_lengthOfSound_12 (by decide) (fun c_3 => ?_) (fun c_3 => ?_)
        · refine lv_iload_n hx hb dX1_lengthOfSound_21 rfl (lv_at hl 1 rfl) ?_
          exact W.iret hx hb hr (fun t ht hW => ⟨⟨_, (), rfl, (congrArg nI (pn_cw_eq (fun i h => decide_eq_true (hp i h)) (by omega) (by first | exact Or.inl (by omega) | exact Or.inr (by simp_all))).symm), trivial⟩, hS.F ht⟩) hS.2.2 dX1_lengthOfSound_22 hlocks
        · refine lv_iinc (v := (nI (k + 1))) (lv' := [(1, .int (nI (k + 1))), (0, .int h)]) hx hb dX1_lengthOfSound_15 hl (k := 1) rfl (nI_add k 1) (by decide) rfl (fun ls hl => ?_)
          refine lv_goto (tgt := 2) hx hb dX1_lengthOfSound_18 (by decide) ?_
          exact ih2_1 (k + 1) (by omega) (by first | assumption | omega | grind | simp_all) (lt_s hp (by assumption)) _ _ _ hP hS (lv_sub hl [1, 0] rfl)
  exact lp2_1 ((4 - 0) + 1) 0 (Nat.lt_succ_self _) (by first | assumption | omega | grind | simp_all) (fun i h => absurd h (Nat.not_lt_zero _)) _ _ _ hP hS (lv_sub hl [1, 0] rfl)

set_option maxHeartbeats 4000000 in
set_option maxRecDepth 100000 in
theorem c_X1_soundOf (l : Launch) (D : va_G) (cI cL cZ cO : ClassId)  (nm : Int64) : Met l yX1_soundOf wsX1_soundOf ({ frames := 2, cells := 0, slots := 0, locals := 44 }) (va_Pc [.long nm] (pn_Pr D cI cL cZ cO [])) (va_Qi (fun r (_ : Unit) => r = (pn_snd nm)) (fun _ _ => True) pn_No) 0 0 pn_No := by
  refine pn_mk (by decide) rfl (Nat.le_of_ble_eq_true rfl) ?_
  intro p e s m below meth c ls hx hb hr hml hown hts hlocks hK hP hl
  have hown : s.vm.findClass RX1 = some m.cls := hown
  have hS : va_S pn_No s.heap s.heap [] := va_S.rf
  have hl : lv_has ls 8 [(0, .long nm)] := hl
  refine lv_lload_n hx hb dX1_soundOf_0 rfl (lv_at hl 0 rfl) ?_
  refine lv_iconst (v := (nI 0)) hx hb dX1_soundOf_1 (by decide) ?_
  refine pn_roi (w := []) hP hS (va_runS (As := [.long nm, .int (nI 0)]) (rest := []) ⟨hx, hb, hml, hown, hts⟩ (c_X1_letterOf l D cI cL cZ cO nm 0) (va_cwS 2 hts gX1_soundOf_X1_letterOf rfl rfl rfl (by decide +kernel) ⟨Nat.le_of_ble_eq_true rfl, Nat.le_of_ble_eq_true rfl⟩) (pn_ps (WS := []) (fun k q h => by simp at h) hK) rfl rfl hl.1 rfl (lv_room (Nat.le_of_ble_eq_true rfl)) dX1_soundOf_2 ⟨Nat.le_of_ble_eq_true rfl, Nat.le_of_ble_eq_true rfl⟩) (fun H locs hP hS => ?_)
  refine pn_roi (w := []) hP hS (va_runS (As := [.int (pn_let nm 0)]) (rest := []) ⟨hx, hb, hml, hown, hts⟩ (c_X1_classOf l D cI cL cZ cO (pn_let nm 0)) (va_cwS 1 hts gX1_soundOf_X1_classOf rfl rfl rfl (by decide +kernel) ⟨Nat.le_of_ble_eq_true rfl, Nat.le_of_ble_eq_true rfl⟩) (pn_ps (WS := []) (fun k q h => by simp at h) hK) rfl rfl hl.1 rfl (lv_room (Nat.le_of_ble_eq_true rfl)) dX1_soundOf_5 ⟨Nat.le_of_ble_eq_true rfl, Nat.le_of_ble_eq_true rfl⟩) (fun H locs hP hS => ?_)
  refine lv_istore_n (lv' := [(2, .int (pn_cls (pn_let nm 0))), (0, .long nm)]) hx hb dX1_soundOf_8 rfl hl (by decide) rfl (fun ls hl => ?_)
  refine lv_iload_n hx hb dX1_soundOf_9 rfl (lv_at hl 0 rfl) ?_
  refine lv_iconst (v := (nI 1)) hx hb dX1_soundOf_10 (by decide) ?_
  refine lv_iadd hx hb dX1_soundOf_11 ?_
  refine lv_istore_n (lv' := [(3, .int ((pn_cls (pn_let nm 0)) + (nI 1))), (2, .int (pn_cls (pn_let nm 0))), (0, .long nm)]) hx hb dX1_soundOf_12 rfl hl (by decide) rfl (fun ls hl => ?_)
  refine lv_iconst (v := (nI 1)) hx hb dX1_soundOf_13 (by decide) ?_
  refine lv_istore (lv' := [(4, .int (nI 1)), (3, .int ((pn_cls (pn_let nm 0)) + (nI 1))), (2, .int (pn_cls (pn_let nm 0))), (0, .long nm)]) hx hb dX1_soundOf_14 hl (by decide) rfl (fun ls hl => ?_)
  refine lv_lload_n hx hb dX1_soundOf_16 rfl (lv_at hl 3 rfl) ?_
  refine pn_roi (w := []) hP hS (va_runS (As := [.long nm]) (rest := []) ⟨hx, hb, hml, hown, hts⟩ (c_X1_lengthOf l D cI cL cZ cO nm) (va_cwS 1 hts gX1_soundOf_X1_lengthOf rfl rfl rfl (by decide +kernel) ⟨Nat.le_of_ble_eq_true rfl, Nat.le_of_ble_eq_true rfl⟩) (pn_ps (WS := []) (fun k q h => by simp at h) hK) rfl rfl hl.1 rfl (lv_room (Nat.le_of_ble_eq_true rfl)) dX1_soundOf_17 ⟨Nat.le_of_ble_eq_true rfl, Nat.le_of_ble_eq_true rfl⟩) (fun H locs hP hS => ?_)
  refine lv_istore (lv' := [(5, .int (nI (pn_len nm))), (4, .int (nI 1)), (3, .int ((pn_cls (pn_let nm 0)) + (nI 1))), (2, .int (pn_cls (pn_let nm 0))), (0, .long nm)]) hx hb dX1_soundOf_20 hl (by decide) rfl (fun ls hl => ?_)
  refine lv_iconst (v := (nI 1)) hx hb dX1_soundOf_22 (by decide) ?_
  refine lv_istore (lv' := [(6, .int (nI 1)), (5, .int (nI (pn_len nm))), (4, .int (nI 1)), (3, .int ((pn_cls (pn_let nm 0)) + (nI 1))), (2, .int (pn_cls (pn_let nm 0))), (0, .long nm)]) hx hb dX1_soundOf_23 hl (by decide) rfl (fun ls hl => ?_)
  have lp25_1 : ∀ (fu : Nat) (j : Nat) (bf : Int32) (hd : Int32) (ct : Nat), 9 - j < fu → (j + 1 ≤ pn_len nm ∨ j = 0) → (bf = pn_cls (pn_let nm j)) → (hd = (pn_sd nm j).1) → (ct = (pn_sd nm j).2) → ∀ (H : Heap) (locs : List Loc) (ls : Array Slot), va_P D vwCl [] H → va_S pn_No s.heap H locs → lv_has ls 8 [(0, .long nm), (2, .int bf), (3, .int hd), (4, .int (nI ct)), (5, .int (nI (pn_len nm))), (6, .int (nI (j + 1)))] → W p l e ({ frames := 2, cells := 0, slots := 0, locals := 44 }) s m (List.toArray [.long nm]) below meth c H locs 0 0 (MQ below (va_Qi (fun r (_ : Unit) => r = (pn_snd nm)) (fun _ _ => True) pn_No) (List.toArray [.long nm]) s 0 0 pn_No) (F0 m 25 ls []) := by
    intro fu
    induction fu with
    | zero => intro j bf hd ct hfu; exact absurd hfu (Nat.not_lt_zero _)
    | succ fu ih25_1 =>
      intro j bf hd ct hfu hk e1 e2 e3 H locs ls hP hS hl
      have h8 := pn_len8 nm
      have h4 := pn_sd4 nm j
      refine lv_iload hx hb dX1_soundOf_25 (lv_at hl 5 rfl) ?_
      refine lv_iload hx hb dX1_soundOf_27 (lv_at hl 4 rfl) ?_
      refine lv_icmp_ge (tgt := 84) hx hb dX1_soundOf_29 (by decide) (fun c_2 => ?_) (fun c_2 => ?_)
      · have c_2 : (pn_len nm) ≤ (j + 1) := (pn_le (by omega) (by omega)).mp (show nI (pn_len nm) ≤ nI (j + 1) from c_2)
        refine lv_iload_n hx hb dX1_soundOf_84 rfl (lv_at hl 2 rfl) ?_
        exact W.iret hx hb hr (fun t ht hW => ⟨⟨_, (), rfl, (by rw [e2]; unfold pn_snd; first | (rw [show pn_len nm - 1 = j by omega]) | (have hs := pn_sd_stop nm (j := j) (by omega) (pn_len nm - 1 - j); rw [show j + (pn_len nm - 1 - j) = pn_len nm - 1 by omega] at hs; rw [hs])), trivial⟩, hS.F ht⟩) hS.2.2 dX1_soundOf_85 hlocks
      · have c_2 : ¬ (pn_len nm) ≤ (j + 1) := fun h => (show ¬ nI (pn_len nm) ≤ nI (j + 1) from c_2) ((pn_le (by omega) (by omega)).mpr h)
        refine lv_iload hx hb dX1_soundOf_32 (lv_at hl 3 rfl) ?_
        refine lv_iconst (v := (nI 4)) hx hb dX1_soundOf_34 (by decide) ?_
        refine lv_icmp_ge (tgt := 84) hx hb dX1_soundOf_35 (by decide) (fun c_3 => ?_) (fun c_3 => ?_)
        · have c_3 : 4 ≤ ct := (pn_le (by omega) (by omega)).mp (show nI 4 ≤ nI ct from c_3)
          refine lv_iload_n hx hb dX1_soundOf_84 rfl (lv_at hl 2 rfl) ?_
          exact W.iret hx hb hr (fun t ht hW => ⟨⟨_, (), rfl, (by rw [e2]; unfold pn_snd; first | (rw [show pn_len nm - 1 = j by omega]) | (have hs := pn_sd_stop nm (j := j) (by omega) (pn_len nm - 1 - j); rw [show j + (pn_len nm - 1 - j) = pn_len nm - 1 by omega] at hs; rw [hs])), trivial⟩, hS.F ht⟩) hS.2.2 dX1_soundOf_85 hlocks
        · have c_3 : ¬ 4 ≤ ct := fun h => (show ¬ nI 4 ≤ nI ct from c_3) ((pn_le (by omega) (by omega)).mpr h)
          refine lv_lload_n hx hb dX1_soundOf_38 rfl (lv_at hl 0 rfl) ?_
          refine lv_iload hx hb dX1_soundOf_39 (lv_at hl 5 rfl) ?_
          refine pn_roi (w := []) hP hS (va_runS (As := [.long nm, .int (nI (j + 1))]) (rest := []) ⟨hx, hb, hml, hown, hts⟩ (c_X1_letterOf l D cI cL cZ cO nm (j + 1)) (va_cwS 2 hts gX1_soundOf_X1_letterOf rfl rfl rfl (by decide +kernel) ⟨Nat.le_of_ble_eq_true rfl, Nat.le_of_ble_eq_true rfl⟩) (pn_ps (WS := []) (fun k q h => by simp at h) hK) rfl rfl hl.1 rfl (lv_room (Nat.le_of_ble_eq_true rfl)) dX1_soundOf_41 ⟨Nat.le_of_ble_eq_true rfl, Nat.le_of_ble_eq_true rfl⟩) (fun H locs hP hS => ?_)
          refine pn_roi (w := []) hP hS (va_runS (As := [.int (pn_let nm (j + 1))]) (rest := []) ⟨hx, hb, hml, hown, hts⟩ (c_X1_classOf l D cI cL cZ cO (pn_let nm (j + 1))) (va_cwS 1 hts gX1_soundOf_X1_classOf rfl rfl rfl (by decide +kernel) ⟨Nat.le_of_ble_eq_true rfl, Nat.le_of_ble_eq_true rfl⟩) (pn_ps (WS := []) (fun k q h => by simp at h) hK) rfl rfl hl.1 rfl (lv_room (Nat.le_of_ble_eq_true rfl)) dX1_soundOf_44 ⟨Nat.le_of_ble_eq_true rfl, Nat.le_of_ble_eq_true rfl⟩) (fun H locs hP hS => ?_)
          refine lv_istore (lv' := [(7, .int (pn_cls (pn_let nm (j + 1)))), (0, .long nm), (2, .int bf), (3, .int hd), (4, .int (nI ct)), (5, .int (nI (pn_len nm))), (6, .int (nI (j + 1)))]) hx hb dX1_soundOf_47 hl (by decide) rfl (fun ls hl => ?_)
          refine lv_iload hx hb dX1_soundOf_49 (lv_at hl 0 rfl) ?_
          refine lv_if_eq (tgt := 75) hx hb dX1_soundOf_51 (by decide) (fun c_4 => ?_) (fun c_4 => ?_)
          · refine lv_iload hx hb dX1_soundOf_75 (lv_at hl 0 rfl) ?_
            refine lv_istore_n (lv' := [(2, .int (pn_cls (pn_let nm (j + 1)))), (7, .int (pn_cls (pn_let nm (j + 1)))), (0, .long nm), (3, .int hd), (4, .int (nI ct)), (5, .int (nI (pn_len nm))), (6, .int (nI (j + 1)))]) hx hb dX1_soundOf_77 rfl hl (by decide) rfl (fun ls hl => ?_)
            refine lv_iinc (v := (nI ((j + 1) + 1))) (lv' := [(6, .int (nI ((j + 1) + 1))), (2, .int (pn_cls (pn_let nm (j + 1)))), (7, .int (pn_cls (pn_let nm (j + 1)))), (0, .long nm), (3, .int hd), (4, .int (nI ct)), (5, .int (nI (pn_len nm)))]) hx hb dX1_soundOf_78 hl (k := 6) rfl (nI_add (j + 1) 1) (by decide) rfl (fun ls hl => ?_)
            refine lv_goto (tgt := 25) hx hb dX1_soundOf_81 (by decide) ?_
            exact ih25_1 (j + 1) (pn_cls (pn_let nm (j + 1))) hd ct (by omega) (Or.inl (by omega)) rfl (by rw [pn_sd_s]; split <;> rename_i hh <;> first | (rw [e2, e3]; done) | exact e2 | (exfalso; exact hh.2.1 (by assumption)) | (exfalso; exact hh.2.2 (by rw [← e1]; assumption)) | (exfalso; exact hh ⟨by omega, by assumption, by rw [← e1]; assumption⟩)) (by rw [pn_sd_s]; split <;> rename_i hh <;> first | (rw [e3]; done) | exact e3 | (exfalso; exact hh.2.1 (by assumption)) | (exfalso; exact hh.2.2 (by rw [← e1]; assumption)) | (exfalso; exact hh ⟨by omega, by assumption, by rw [← e1]; assumption⟩)) _ _ _ hP hS (lv_sub hl [3, 1, 4, 5, 6, 0] rfl)
          · refine lv_iload hx hb dX1_soundOf_54 (lv_at hl 0 rfl) ?_
            refine lv_iload_n hx hb dX1_soundOf_56 rfl (lv_at hl 2 rfl) ?_
            refine lv_icmp_eq (tgt := 75) hx hb dX1_soundOf_57 (by decide) (fun c_5 => ?_) (fun c_5 => ?_)
            · refine lv_iload hx hb dX1_soundOf_75 (lv_at hl 0 rfl) ?_
              refine lv_istore_n (lv' := [(2, .int (pn_cls (pn_let nm (j + 1)))), (7, .int (pn_cls (pn_let nm (j + 1)))), (0, .long nm), (3, .int hd), (4, .int (nI ct)), (5, .int (nI (pn_len nm))), (6, .int (nI (j + 1)))]) hx hb dX1_soundOf_77 rfl hl (by decide) rfl (fun ls hl => ?_)
              refine lv_iinc (v := (nI ((j + 1) + 1))) (lv' := [(6, .int (nI ((j + 1) + 1))), (2, .int (pn_cls (pn_let nm (j + 1)))), (7, .int (pn_cls (pn_let nm (j + 1)))), (0, .long nm), (3, .int hd), (4, .int (nI ct)), (5, .int (nI (pn_len nm)))]) hx hb dX1_soundOf_78 hl (k := 6) rfl (nI_add (j + 1) 1) (by decide) rfl (fun ls hl => ?_)
              refine lv_goto (tgt := 25) hx hb dX1_soundOf_81 (by decide) ?_
              exact ih25_1 (j + 1) (pn_cls (pn_let nm (j + 1))) hd ct (by omega) (Or.inl (by omega)) rfl (by rw [pn_sd_s]; split <;> rename_i hh <;> first | (rw [e2, e3]; done) | exact e2 | (exfalso; exact hh.2.1 (by assumption)) | (exfalso; exact hh.2.2 (by rw [← e1]; assumption)) | (exfalso; exact hh ⟨by omega, by assumption, by rw [← e1]; assumption⟩)) (by rw [pn_sd_s]; split <;> rename_i hh <;> first | (rw [e3]; done) | exact e3 | (exfalso; exact hh.2.1 (by assumption)) | (exfalso; exact hh.2.2 (by rw [← e1]; assumption)) | (exfalso; exact hh ⟨by omega, by assumption, by rw [← e1]; assumption⟩)) _ _ _ hP hS (lv_sub hl [3, 1, 4, 5, 6, 0] rfl)
            · refine lv_iload_n hx hb dX1_soundOf_60 rfl (lv_at hl 3 rfl) ?_
              refine lv_iload hx hb dX1_soundOf_61 (lv_at hl 0 rfl) ?_
              refine lv_iconst (v := (nI 1)) hx hb dX1_soundOf_63 (by decide) ?_
              refine lv_iadd hx hb dX1_soundOf_64 ?_
              refine lv_iconst (v := (nI 4)) hx hb dX1_soundOf_65 (by decide) ?_
              refine lv_iload hx hb dX1_soundOf_66 (lv_at hl 4 rfl) ?_
              refine pn_imul hx hb dX1_soundOf_68 ?_
              refine lv_ishl hx hb dX1_soundOf_69 ?_
              refine lv_ior hx hb dX1_soundOf_70 ?_
              refine lv_istore_n (lv' := [(3, .int (hd ||| (((pn_cls (pn_let nm (j + 1))) + (nI 1)) <<< ((nI (4 * ct)) &&& 31)))), (7, .int (pn_cls (pn_let nm (j + 1)))), (0, .long nm), (2, .int bf), (4, .int (nI ct)), (5, .int (nI (pn_len nm))), (6, .int (nI (j + 1)))]) hx hb dX1_soundOf_71 rfl hl (by decide) rfl (fun ls hl => ?_)
              refine lv_iinc (v := (nI (ct + 1))) (lv' := [(4, .int (nI (ct + 1))), (3, .int (hd ||| (((pn_cls (pn_let nm (j + 1))) + (nI 1)) <<< ((nI (4 * ct)) &&& 31)))), (7, .int (pn_cls (pn_let nm (j + 1)))), (0, .long nm), (2, .int bf), (5, .int (nI (pn_len nm))), (6, .int (nI (j + 1)))]) hx hb dX1_soundOf_72 hl (k := 4) rfl (nI_add ct 1) (by decide) rfl (fun ls hl => ?_)
              refine lv_iload hx hb dX1_soundOf_75 (lv_at hl 2 rfl) ?_
              refine lv_istore_n (lv' := [(2, .int (pn_cls (pn_let nm (j + 1)))), (4, .int (nI (ct + 1))), (3, .int (hd ||| (((pn_cls (pn_let nm (j + 1))) + (nI 1)) <<< ((nI (4 * ct)) &&& 31)))), (7, .int (pn_cls (pn_let nm (j + 1)))), (0, .long nm), (5, .int (nI (pn_len nm))), (6, .int (nI (j + 1)))]) hx hb dX1_soundOf_77 rfl hl (by decide) rfl (fun ls hl => ?_)
              refine lv_iinc (v := (nI ((j + 1) + 1))) (lv' := [(6, .int (nI ((j + 1) + 1))), (2, .int (pn_cls (pn_let nm (j + 1)))), (4, .int (nI (ct + 1))), (3, .int (hd ||| (((pn_cls (pn_let nm (j + 1))) + (nI 1)) <<< ((nI (4 * ct)) &&& 31)))), (7, .int (pn_cls (pn_let nm (j + 1)))), (0, .long nm), (5, .int (nI (pn_len nm)))]) hx hb dX1_soundOf_78 hl (k := 6) rfl (nI_add (j + 1) 1) (by decide) rfl (fun ls hl => ?_)
              refine lv_goto (tgt := 25) hx hb dX1_soundOf_81 (by decide) ?_
              exact ih25_1 (j + 1) (pn_cls (pn_let nm (j + 1))) (hd ||| (((pn_cls (pn_let nm (j + 1))) + (nI 1)) <<< ((nI (4 * ct)) &&& 31))) (ct + 1) (by omega) (Or.inl (by omega)) rfl (by rw [pn_sd_s]; split <;> rename_i hh <;> first | (rw [e2, e3]; done) | exact e2 | (exfalso; exact hh.2.1 (by assumption)) | (exfalso; exact hh.2.2 (by rw [← e1]; assumption)) | (exfalso; exact hh ⟨by omega, by assumption, by rw [← e1]; assumption⟩)) (by rw [pn_sd_s]; split <;> rename_i hh <;> first | (rw [e3]; done) | exact e3 | (exfalso; exact hh.2.1 (by assumption)) | (exfalso; exact hh.2.2 (by rw [← e1]; assumption)) | (exfalso; exact hh ⟨by omega, by assumption, by rw [← e1]; assumption⟩)) _ _ _ hP hS (lv_sub hl [5, 1, 3, 2, 6, 0] rfl)
  exact lp25_1 ((9 - 0) + 1) 0 (pn_cls (pn_let nm 0)) (pn_cls (pn_let nm 0) + nI 1) 1 (Nat.lt_succ_self _) (Or.inr rfl) rfl rfl rfl _ _ _ hP hS (lv_sub hl [5, 4, 3, 2, 1, 0] rfl)
end
section
/-! what the events tell, as the class plays them: n events, F parishes, six rows -/
def pn_st (Y : Nat → Int32) (yr : Int32) (n : Nat) : Nat := pn_cw (fun i => decide (Y i ≤ yr)) n
theorem pn_st_le (Y : Nat → Int32) (yr : Int32) (n : Nat) : pn_st Y yr n ≤ n := pn_cw_le _ _
def pn_fy (Y : Nat → Int32) (n j : Nat) : Int32 := if j = 0 ∨ n < j then nI 0 else Y (j - 1)
def pn_ly (Y : Nat → Int32) (n j : Nat) : Int32 := if n ≤ j then nI 999 else Y j - nI 1
def pn_factN (K Y P S O : Nat → Int32) (k : Nat) (wh : Nat) : Int32 := match wh with
  | 0 => K k
  | 1 => Y k
  | 2 => P k
  | 3 => if K k = 0 then (-6) else S k
  | _ => if K k = 0 then (-6) else O k
def pn_fact (K Y P S O : Nat → Int32) (n : Nat) (i : Int32) (wh : Nat) : Int32 := if i < 0 ∨ nI n ≤ i then (-6) else pn_factN K Y P S O i.toNatClampNeg wh
theorem pn_fact_in {K Y P S O : Nat → Int32} {n k wh : Nat} (hk : k < n) (hn : n < 2 ^ 31) : pn_fact K Y P S O n (nI k) wh = pn_factN K Y P S O k wh := by
  unfold pn_fact
  rw [if_neg (by rintro (h | h); exact nI_pos (by omega) h; exact nI_ge hk hn h), nI_clamp (by omega)]
theorem pn_ofI {x : Int32} {n : Nat} (h0 : ¬ x < 0) (h : x < nI n) (hn : n < 2 ^ 31) : ∃ k : Nat, k < n ∧ x = nI k := by
  obtain ⟨j, hj, rfl⟩ := nI_of h0
  exact ⟨j, (nI_ltI hj hn).mp h, rfl⟩
theorem pn_ofJ {x : Int32} {n : Nat} (h0 : ¬ x < 0) (h : ¬ nI n ≤ x) (hn : n < 2 ^ 31) : ∃ k : Nat, k < n ∧ x = nI k := pn_ofI h0 (Int32.not_le.mp h) hn
theorem pn_ofK {x : Int32} {n : Nat} (h0 : ¬ x < 0) (h : ¬ nI n < x) (hn : n < 2 ^ 31) : ∃ k : Nat, k ≤ n ∧ x = nI k := by
  obtain ⟨j, hj, rfl⟩ := nI_of h0
  exact ⟨j, Nat.le_of_not_lt (fun q => h ((nI_ltI hn hj).mpr q)), rfl⟩
theorem pn_outI {x : Int32} {lo hi : Nat} (h : x.toInt < (lo : Int) ∨ (hi : Int) < x.toInt) {k : Nat} (h1 : lo ≤ k) (h2 : k ≤ hi) (h3 : hi < 2 ^ 31) : ¬ x = nI k := by
  intro e
  rw [e, nI_toInt (by omega)] at h
  omega
def pn_sit0 (pa : Int32) : Int32 := if pa = 0 then nI 4095 else nI 0
def pn_nam0 (pa : Int32) : Int64 := if pa = 0 then pn_wl 0 0 (nI 97) else 0
def pn_sitT (P S O : Nat → Int32) (i : Nat) (pa hd : Int32) : Int32 := if P i = pa then (hd &&& (S i ^^^ (-1))) else if O i = pa then (hd ||| S i) else hd
def pn_namT (K P O : Nat → Int32) (N : Nat → Int64) (i : Nat) (pa : Int32) (nm : Int64) : Int64 := if K i = 0 ∧ P i = pa then N i else if K i = nI 1 ∧ O i = pa then N i else nm
def pn_sit (P S O : Nat → Int32) (pa : Int32) : Nat → Int32
  | 0 => pn_sit0 pa
  | k + 1 => pn_sitT P S O k pa (pn_sit P S O pa k)
def pn_nam (K P O : Nat → Int32) (N : Nat → Int64) (pa : Int32) : Nat → Int64
  | 0 => pn_nam0 pa
  | k + 1 => pn_namT K P O N k pa (pn_nam K P O N pa k)
def pn_bit (x : Int32) (k : Nat) : Int32 := ((x.toUInt32 >>> ((nI k).toUInt32 &&& Int32.toUInt32 31)).toInt32 &&& nI 1)
def pn_own (S O : Nat → Int32) (t : Nat) : Nat → Int32
  | 0 => nI 0
  | k + 1 => if ¬ pn_bit (S k) t = 0 then O k else pn_own S O t k
def pn_nin (K Y P S O : Nat → Int32) (N : Nat → Int64) (n : Nat) (pa yr : Int32) : Int64 := if pn_sit P S O pa (pn_st Y yr n) = 0 then 0 else pn_nam K P O N pa (pn_st Y yr n)
noncomputable def pn_cnt (P : Nat → Prop) : Nat → Nat
  | 0 => 0
  | n + 1 => @ite Nat (P n) (Classical.propDecidable _) (pn_cnt P n + 1) (pn_cnt P n)
theorem pn_cnt_le (P : Nat → Prop) (n : Nat) : pn_cnt P n ≤ n := by
  induction n with
  | zero => exact Nat.le_refl _
  | succ n ih => unfold pn_cnt; split <;> omega
def pn_nol (K P S O : Nat → Int32) (N : Nat → Int64) (n b : Nat) : Prop := ∃ i, i < b ∧ ¬ pn_sit P S O (nI i) n = 0 ∧ pn_nam K P O N (nI i) n = pn_nam K P O N (nI b) n
theorem pn_maxI {a b : Nat} (ha : a < 2 ^ 31) (hb : b < 2 ^ 31) : (if nI a < nI b then nI b else nI a) = nI (max a b) := by
  by_cases h : a < b
  · rw [if_pos ((nI_ltI ha hb).mpr h), Nat.max_eq_right (Nat.le_of_lt h)]
  · rw [if_neg (fun q => h ((nI_ltI ha hb).mp q)), Nat.max_eq_left (Nat.le_of_not_lt h)]
theorem pn_minI {a b : Nat} (ha : a < 2 ^ 31) (hb : b < 2 ^ 31) : (if nI b < nI a then nI b else nI a) = nI (min a b) := by
  by_cases h : b < a
  · rw [if_pos ((nI_ltI hb ha).mpr h), Nat.min_eq_right (Nat.le_of_lt h)]
  · rw [if_neg (fun q => h ((nI_ltI hb ha).mp q)), Nat.min_eq_left (Nat.le_of_not_lt h)]
theorem pn_cpy {α : Type} {f g : Nat → α} (i : Nat) (h : i < 30) : va_cpy f g (nI 0).toNatClampNeg (nI 0).toNatClampNeg (nI 30).toNatClampNeg i = f i := by
  rw [show (nI 0).toNatClampNeg = 0 from nI_clamp (by decide), show (nI 30).toNatClampNeg = 30 from nI_clamp (by decide), pk_cpy_in (Nat.zero_le _) (by omega)]
  congr 1
  omega
theorem pn_cgL {D : va_G} {cl : List vw_C} {ws : va_W} {H : Heap} {q a n : Nat} {cA : ClassId} {f g : Nat → Int64} (hP : va_P D cl ws H) (he : ws[q]? = some (a, .inl (cA, n, .inr (.inl f)))) (h : ∀ i, i < n → f i = g i) : va_P D cl (ws.set q (a, .inl (cA, n, .inr (.inl g)))) H := by
  intro k x hx
  by_cases hk : k = q
  · subst hk
    have hlt : k < ws.length := (List.getElem?_eq_some_iff.mp he).1
    rw [List.getElem?_set_self hlt] at hx
    cases hx
    have h0 := hP k _ he
    show H[a]? = some (vp_cell _ _)
    have h0 : H[a]? = some (vp_cell cA (n, .inr (.inl f))) := h0
    rw [h0]
    congr 1
    show vp_cell cA (n, .inr (.inl f)) = vp_cell cA (n, .inr (.inl g))
    rw [vp_cell_l, vp_cell_l]
    unfold arrV
    congr 1
    apply Array.ext
    · simp
    · intro i h1 h2
      simp at h1
      simp [h i h1]
  · rw [List.getElem?_set_ne (fun h => hk h.symm)] at hx
    exact hP k x hx
/-- the number of bits, as the library counts it -/
def pn_bc (x : Int32) : Int32 :=
  let x1 := x - (((x.toUInt32 >>> ((nI 1).toUInt32 &&& Int32.toUInt32 31)).toInt32) &&& 1431655765)
  let x2 := (x1 &&& 858993459) + (((x1.toUInt32 >>> ((nI 2).toUInt32 &&& Int32.toUInt32 31)).toInt32) &&& 858993459)
  let x3 := (x2 + ((x2.toUInt32 >>> ((nI 4).toUInt32 &&& Int32.toUInt32 31)).toInt32)) &&& 252645135
  let x4 := x3 + ((x3.toUInt32 >>> ((nI 8).toUInt32 &&& Int32.toUInt32 31)).toInt32)
  let x5 := x4 + ((x4.toUInt32 >>> ((nI 16).toUInt32 &&& Int32.toUInt32 31)).toInt32)
  x5 &&& nI 63
def pn_life (Y P S O : Nat → Int32) (n : Nat) (pa : Int32) : Nat → Int32 × Int32 × Int32 × Int32
  | 0 => ((-6), (-6), nI 0, nI 0)
  | k + 1 => if pn_sit P S O pa k = 0 ∨ ¬ pn_fy Y n k ≤ pn_ly Y n k then pn_life Y P S O n pa k else
      ((if (pn_life Y P S O n pa k).2.2.1 = 0 then pn_fy Y n k else (pn_life Y P S O n pa k).1), pn_ly Y n k, (pn_life Y P S O n pa k).2.2.1 + ((pn_ly Y n k - pn_fy Y n k) + nI 1), (pn_life Y P S O n pa k).2.2.2 ||| pn_sit P S O pa k)
def pn_lifeR (Y P S O : Nat → Int32) (n : Nat) (pa : Int32) (wh : Nat) : Int32 := match wh with
  | 0 => (pn_life Y P S O n pa (n + 1)).1
  | 1 => (pn_life Y P S O n pa (n + 1)).2.1
  | 2 => (pn_life Y P S O n pa (n + 1)).2.2.1
  | _ => pn_bc (pn_life Y P S O n pa (n + 1)).2.2.2
theorem pn_life_t {Y P S O : Nat → Int32} {n k : Nat} {pa f la lv ev hd : Int32} (e : (f, la, lv, ev) = pn_life Y P S O n pa k) (eh : hd = pn_sit P S O pa k) (h1 : ¬ hd = 0) (h2 : pn_fy Y n k ≤ pn_ly Y n k) : ((if lv = 0 then pn_fy Y n k else f), pn_ly Y n k, lv + ((pn_ly Y n k - pn_fy Y n k) + nI 1), ev ||| hd) = pn_life Y P S O n pa (k + 1) := by
  subst eh
  rw [pn_life, if_neg (c := pn_sit P S O pa k = 0 ∨ ¬ pn_fy Y n k ≤ pn_ly Y n k) (fun q => q.elim h1 (fun r => r h2)), ← e]
theorem pn_life_f {Y P S O : Nat → Int32} {n k : Nat} {pa f la lv ev : Int32} (e : (f, la, lv, ev) = pn_life Y P S O n pa k) (h : pn_sit P S O pa k = 0 ∨ ¬ pn_fy Y n k ≤ pn_ly Y n k) : (f, la, lv, ev) = pn_life Y P S O n pa (k + 1) := by
  rw [pn_life, if_pos h, ← e]
/-- the site t is otherwise in stage j, which holds, than in stage g -/
def pn_chg (K Y P S O : Nat → Int32) (N : Nat → Int64) (n t g j : Nat) : Prop := pn_fy Y n j ≤ pn_ly Y n j ∧ ¬ (pn_own S O t j = pn_own S O t g ∧ pn_nam K P O N (pn_own S O t j) j = pn_nam K P O N (pn_own S O t g) g)
noncomputable def pn_nxt (K Y P S O : Nat → Int32) (N : Nat → Int64) (n t g : Nat) : Nat := g + 1 + pn_cw (fun i => @decide (¬ pn_chg K Y P S O N n t g (g + 1 + i)) (Classical.propDecidable _)) (n - g)
theorem pn_nxt_eq {K Y P S O : Nat → Int32} {N : Nat → Int64} {n t g k : Nat} (hg : g ≤ n) (h0 : g + 1 ≤ k) (h1 : k ≤ n + 1) (h2 : ∀ i, g + 1 ≤ i → i < k → ¬ pn_chg K Y P S O N n t g i) (h3 : k = n + 1 ∨ pn_chg K Y P S O N n t g k) : k = pn_nxt K Y P S O N n t g := by
  unfold pn_nxt
  rw [pn_cw_eq (k := k - (g + 1)) (fun i hi => @decide_eq_true _ (Classical.propDecidable _) (h2 _ (by omega) (by omega))) (by omega) (by
    rcases h3 with h3 | h3
    · exact Or.inl (by omega)
    · refine Or.inr (fun q => ?_)
      have q := @of_decide_eq_true _ (Classical.propDecidable _) q
      rw [show g + 1 + (k - (g + 1)) = k by omega] at q
      exact q h3)]
  omega
theorem pn_lts {Q : Nat → Prop} {a k : Nat} (h : ∀ i, a ≤ i → i < k → ¬ Q i) (hk : ¬ Q k) : ∀ i, a ≤ i → i < k + 1 → ¬ Q i := by
  intro i h1 h2
  by_cases hi : i < k
  · exact h i h1 hi
  · obtain rfl : i = k := by omega
    exact hk
theorem pn_upk {R : Nat → Int32} {k : Nat} (h : ∀ i, i < k → R i = nI i) : ∀ i, i < k + 1 → upd R k (nI k) i = nI i := by
  intro i hi
  by_cases e : i = k
  · subst e; exact pk_us
  · rw [pk_un e]; exact h i (by omega)
theorem pn_row3 {R : Nat → Int32} {f : Nat → Nat} {j v : Nat} (h : ∀ t, t ≤ j → R t = nI (f t)) (e : v = f (j + 1)) : ∀ t, t ≤ j + 1 → upd R (j + 1) (nI v) t = nI (f t) := by
  intro t ht
  by_cases q : t = j + 1
  · subst q; rw [pk_us, e]
  · rw [pk_un q]; exact h t (by omega)
theorem pn_atH {D : va_G} {cl : List vw_C} {ws : va_W} {H : Heap} {t : State} (h : t.heap = H) (p : va_P D cl ws H) : va_P D cl ws t.heap := by rw [h]; exact p
theorem pn_lev_t {a b : Nat → Int32} {i j : Nat} (h : a i = b j) : min (pn_lev a b i j) (min (pn_lev a b i (j + 1)) (pn_lev a b (i + 1) j) + 1) = pn_lev a b (i + 1) (j + 1) := by rw [pn_lev_ss, if_pos h]
theorem pn_lev_f {a b : Nat → Int32} {i j : Nat} (h : ¬ a i = b j) : min (pn_lev a b i j + 1) (min (pn_lev a b i (j + 1)) (pn_lev a b (i + 1) j) + 1) = pn_lev a b (i + 1) (j + 1) := by rw [pn_lev_ss, if_neg h]
theorem pn_like0 {x y : Int64} {how : Int32} (h : how = 0) : pn_like x y how ↔ x = y := by
  unfold pn_like
  constructor
  · rintro (q | q | q)
    · exact q.2
    · rw [h] at q; exact absurd q.1 (by decide)
    · exact absurd h q.1
  · exact fun q => Or.inl ⟨h, q⟩
theorem pn_like1 {x y : Int64} {how : Int32} (h : how = nI 1) : pn_like x y how ↔ pn_snd x = pn_snd y := by
  unfold pn_like
  constructor
  · rintro (q | q | q)
    · rw [h] at q; exact absurd q.1 (by decide)
    · exact q.2
    · exact absurd h q.2.1
  · exact fun q => Or.inr (Or.inl ⟨h, q⟩)
theorem pn_like2 {x y : Int64} {how : Int32} (h : ¬ how = 0) (h1 : ¬ how = nI 1) : pn_like x y how ↔ pn_lev (pn_let x) (pn_let y) (pn_len x) (pn_len y) ≤ 1 := by
  unfold pn_like
  constructor
  · rintro (q | q | q)
    · exact absurd q.1 h
    · exact absurd q.1 h1
    · exact q.2.2
  · exact fun q => Or.inr (Or.inr ⟨h, h1, q⟩)
theorem pn_life_t1 {Y P S O : Nat → Int32} {n k : Nat} {pa f la lv ev : Int32} (e : (f, la, lv, ev) = pn_life Y P S O n pa k) (h1 : ¬ pn_sit P S O pa k = 0) (h2 : pn_fy Y n k ≤ pn_ly Y n k) (h3 : lv = 0) : (pn_fy Y n k, pn_ly Y n k, lv + ((pn_ly Y n k - pn_fy Y n k) + nI 1), ev ||| pn_sit P S O pa k) = pn_life Y P S O n pa (k + 1) := by
  have q := pn_life_t e rfl h1 h2
  rw [if_pos h3] at q
  exact q
theorem pn_life_t2 {Y P S O : Nat → Int32} {n k : Nat} {pa f la lv ev : Int32} (e : (f, la, lv, ev) = pn_life Y P S O n pa k) (h1 : ¬ pn_sit P S O pa k = 0) (h2 : pn_fy Y n k ≤ pn_ly Y n k) (h3 : ¬ lv = 0) : (f, pn_ly Y n k, lv + ((pn_ly Y n k - pn_fy Y n k) + nI 1), ev ||| pn_sit P S O pa k) = pn_life Y P S O n pa (k + 1) := by
  have q := pn_life_t e rfl h1 h2
  rw [if_neg h3] at q
  exact q
end
section
theorem ih_X0_eventCount_X0 : ∀ w ∈ wsX00, w ∈ wsX0_eventCount := by decide +kernel
set_option maxHeartbeats 4000000 in
set_option maxRecDepth 100000 in
theorem c_X0_eventCount (l : Launch) (D : va_G) (cI cL cZ cO : ClassId) (h0 q1 q2 q3 q4 q5 q6 : Nat) (K Y P S O : Nat → Int32) (N : Nat → Int64) (n F : Nat) : Met l yX0_eventCount wsX0_eventCount ({ frames := 0, cells := 0, slots := 0, locals := 0 }) (va_Pc [.ref h0] (pn_Pr D cI cL cZ cO [(h0, .inr (0, [.ref q1, .ref q2, .ref q3, .ref q4, .ref q5, .ref q6, .int (nI n), .int (nI F)])), (q1, .inl (cI, 30, .inl K)), (q2, .inl (cI, 30, .inl Y)), (q3, .inl (cI, 30, .inl P)), (q4, .inl (cI, 30, .inl S)), (q5, .inl (cI, 30, .inl O)), (q6, .inl (cL, 30, .inr (.inl N)))])) (va_Qi (fun r (_ : Unit) => r = (nI n)) (fun _ _ => True) pn_No) 0 0 pn_No := by
  refine pn_mk (by decide) rfl (Nat.le_of_ble_eq_true rfl) ?_
  intro p e s m below meth c ls hx hb hr hml hown hts hlocks hK hP hl
  have hown : s.vm.findClass RX0 = some m.cls := hown
  have hS : va_S pn_No s.heap s.heap [] := va_S.rf
  have hl : lv_has ls 1 [(0, .ref h0)] := hl
  refine lv_aload_n hx hb dX0_eventCount_0 rfl (lv_at hl 0 rfl) ?_
  refine va_get (D := D) (ci := 0) (v := .int (nI n)) (C := RX0) (T := TX0) (N := 8) hx hb hts ih_X0_eventCount_X0 hown hK.1 hP 0 rfl rfl 6 (by decide) (hts (.fieldLink RX0 31 "ParishNames$Chronicle" "told" "I") (by decide +kernel)) (fun _ h9 => h9) rfl dX0_eventCount_1 ?_
  exact W.iret hx hb hr (fun t ht hW => ⟨⟨_, (), rfl, rfl, trivial⟩, hS.F ht⟩) hS.2.2 dX0_eventCount_4 hlocks

theorem ih_X0_parishCount_X0 : ∀ w ∈ wsX00, w ∈ wsX0_parishCount := by decide +kernel
set_option maxHeartbeats 4000000 in
set_option maxRecDepth 100000 in
theorem c_X0_parishCount (l : Launch) (D : va_G) (cI cL cZ cO : ClassId) (h0 q1 q2 q3 q4 q5 q6 : Nat) (K Y P S O : Nat → Int32) (N : Nat → Int64) (n F : Nat) : Met l yX0_parishCount wsX0_parishCount ({ frames := 0, cells := 0, slots := 0, locals := 0 }) (va_Pc [.ref h0] (pn_Pr D cI cL cZ cO [(h0, .inr (0, [.ref q1, .ref q2, .ref q3, .ref q4, .ref q5, .ref q6, .int (nI n), .int (nI F)])), (q1, .inl (cI, 30, .inl K)), (q2, .inl (cI, 30, .inl Y)), (q3, .inl (cI, 30, .inl P)), (q4, .inl (cI, 30, .inl S)), (q5, .inl (cI, 30, .inl O)), (q6, .inl (cL, 30, .inr (.inl N)))])) (va_Qi (fun r (_ : Unit) => r = (nI F)) (fun _ _ => True) pn_No) 0 0 pn_No := by
  refine pn_mk (by decide) rfl (Nat.le_of_ble_eq_true rfl) ?_
  intro p e s m below meth c ls hx hb hr hml hown hts hlocks hK hP hl
  have hown : s.vm.findClass RX0 = some m.cls := hown
  have hS : va_S pn_No s.heap s.heap [] := va_S.rf
  have hl : lv_has ls 1 [(0, .ref h0)] := hl
  refine lv_aload_n hx hb dX0_parishCount_0 rfl (lv_at hl 0 rfl) ?_
  refine va_get (D := D) (ci := 0) (v := .int (nI F)) (C := RX0) (T := TX0) (N := 8) hx hb hts ih_X0_parishCount_X0 hown hK.1 hP 0 rfl rfl 7 (by decide) (hts (.fieldLink RX0 35 "ParishNames$Chronicle" "founded" "I") (by decide +kernel)) (fun _ h9 => h9) rfl dX0_parishCount_1 ?_
  exact W.iret hx hb hr (fun t ht hW => ⟨⟨_, (), rfl, rfl, trivial⟩, hS.F ht⟩) hS.2.2 dX0_parishCount_4 hlocks

theorem ih_X0_lastEvent_X0 : ∀ w ∈ wsX00, w ∈ wsX0_lastEvent := by decide +kernel
set_option maxHeartbeats 4000000 in
set_option maxRecDepth 100000 in
theorem c_X0_lastEvent (l : Launch) (D : va_G) (cI cL cZ cO : ClassId) (h0 q1 q2 q3 q4 q5 q6 : Nat) (K Y P S O : Nat → Int32) (N : Nat → Int64) (n F : Nat) : Met l yX0_lastEvent wsX0_lastEvent ({ frames := 0, cells := 0, slots := 0, locals := 0 }) (va_Pc [.ref h0] (pn_Pr D cI cL cZ cO [(h0, .inr (0, [.ref q1, .ref q2, .ref q3, .ref q4, .ref q5, .ref q6, .int (nI n), .int (nI F)])), (q1, .inl (cI, 30, .inl K)), (q2, .inl (cI, 30, .inl Y)), (q3, .inl (cI, 30, .inl P)), (q4, .inl (cI, 30, .inl S)), (q5, .inl (cI, 30, .inl O)), (q6, .inl (cL, 30, .inr (.inl N)))])) (va_Qi (fun r (_ : Unit) => r = (nI n - nI 1)) (fun _ _ => True) pn_No) 0 0 pn_No := by
  refine pn_mk (by decide) rfl (Nat.le_of_ble_eq_true rfl) ?_
  intro p e s m below meth c ls hx hb hr hml hown hts hlocks hK hP hl
  have hown : s.vm.findClass RX0 = some m.cls := hown
  have hS : va_S pn_No s.heap s.heap [] := va_S.rf
  have hl : lv_has ls 1 [(0, .ref h0)] := hl
  refine lv_aload_n hx hb dX0_lastEvent_0 rfl (lv_at hl 0 rfl) ?_
  refine va_get (D := D) (ci := 0) (v := .int (nI n)) (C := RX0) (T := TX0) (N := 8) hx hb hts ih_X0_lastEvent_X0 hown hK.1 hP 0 rfl rfl 6 (by decide) (hts (.fieldLink RX0 31 "ParishNames$Chronicle" "told" "I") (by decide +kernel)) (fun _ h9 => h9) rfl dX0_lastEvent_1 ?_
  refine lv_iconst (v := (nI 1)) hx hb dX0_lastEvent_4 (by decide) ?_
  refine lv_isub hx hb dX0_lastEvent_5 ?_
  exact W.iret hx hb hr (fun t ht hW => ⟨⟨_, (), rfl, rfl, trivial⟩, hS.F ht⟩) hS.2.2 dX0_lastEvent_6 hlocks

theorem ih_X0_isFull_X0 : ∀ w ∈ wsX00, w ∈ wsX0_isFull := by decide +kernel
set_option maxHeartbeats 4000000 in
set_option maxRecDepth 100000 in
theorem c_X0_isFull (l : Launch) (D : va_G) (cI cL cZ cO : ClassId) (h0 q1 q2 q3 q4 q5 q6 : Nat) (K Y P S O : Nat → Int32) (N : Nat → Int64) (n F : Nat) (hn : n ≤ 30) : Met l yX0_isFull wsX0_isFull ({ frames := 0, cells := 0, slots := 0, locals := 0 }) (va_Pc [.ref h0] (pn_Pr D cI cL cZ cO [(h0, .inr (0, [.ref q1, .ref q2, .ref q3, .ref q4, .ref q5, .ref q6, .int (nI n), .int (nI F)])), (q1, .inl (cI, 30, .inl K)), (q2, .inl (cI, 30, .inl Y)), (q3, .inl (cI, 30, .inl P)), (q4, .inl (cI, 30, .inl S)), (q5, .inl (cI, 30, .inl O)), (q6, .inl (cL, 30, .inr (.inl N)))])) (va_Qi (fun r (_ : Unit) => r = (pn_b (30 ≤ n))) (fun _ _ => True) pn_No) 0 0 pn_No := by
  refine pn_mk (by decide) rfl (Nat.le_of_ble_eq_true rfl) ?_
  intro p e s m below meth c ls hx hb hr hml hown hts hlocks hK hP hl
  have hown : s.vm.findClass RX0 = some m.cls := hown
  have hS : va_S pn_No s.heap s.heap [] := va_S.rf
  have hl : lv_has ls 1 [(0, .ref h0)] := hl
  refine lv_aload_n hx hb dX0_isFull_0 rfl (lv_at hl 0 rfl) ?_
  refine va_get (D := D) (ci := 0) (v := .int (nI n)) (C := RX0) (T := TX0) (N := 8) hx hb hts ih_X0_isFull_X0 hown hK.1 hP 0 rfl rfl 6 (by decide) (hts (.fieldLink RX0 31 "ParishNames$Chronicle" "told" "I") (by decide +kernel)) (fun _ h9 => h9) rfl dX0_isFull_1 ?_
  refine lv_bipush (v := (nI 30)) hx hb dX0_isFull_4 (by decide) ?_
  refine lv_icmp_lt (tgt := 13) hx hb dX0_isFull_6 (by decide) (fun c_1 => ?_) (fun c_1 => ?_)
  · have c_1 : n < 30 := (pn_lt (by omega) (by omega)).mp (show nI n < nI 30 from c_1)
    refine lv_iconst (v := (nI 0)) hx hb dX0_isFull_13 (by decide) ?_
    exact W.zret hx hb hr (by decide) (fun t ht hW => ⟨⟨_, (), rfl, (by first | exact pn_bt (by omega) | exact pn_bf (by omega)), trivial⟩, hS.F ht⟩) hS.2.2 dX0_isFull_14 hlocks
  · have c_1 : ¬ n < 30 := fun h => (show ¬ nI n < nI 30 from c_1) ((pn_lt (by omega) (by omega)).mpr h)
    refine lv_iconst (v := (nI 1)) hx hb dX0_isFull_9 (by decide) ?_
    refine lv_goto (tgt := 14) hx hb dX0_isFull_10 (by decide) ?_
    exact W.zret hx hb hr (by decide) (fun t ht hW => ⟨⟨_, (), rfl, (by first | exact pn_bt (by omega) | exact pn_bf (by omega)), trivial⟩, hS.F ht⟩) hS.2.2 dX0_isFull_14 hlocks

theorem ih_X0_knows_X0 : ∀ w ∈ wsX00, w ∈ wsX0_knows := by decide +kernel
set_option maxHeartbeats 4000000 in
set_option maxRecDepth 100000 in
theorem c_X0_knows (l : Launch) (D : va_G) (cI cL cZ cO : ClassId) (h0 q1 q2 q3 q4 q5 q6 : Nat) (K Y P S O : Nat → Int32) (N : Nat → Int64) (n F : Nat) (pa : Int32) : Met l yX0_knows wsX0_knows ({ frames := 0, cells := 0, slots := 0, locals := 0 }) (va_Pc [.ref h0, .int pa] (pn_Pr D cI cL cZ cO [(h0, .inr (0, [.ref q1, .ref q2, .ref q3, .ref q4, .ref q5, .ref q6, .int (nI n), .int (nI F)])), (q1, .inl (cI, 30, .inl K)), (q2, .inl (cI, 30, .inl Y)), (q3, .inl (cI, 30, .inl P)), (q4, .inl (cI, 30, .inl S)), (q5, .inl (cI, 30, .inl O)), (q6, .inl (cL, 30, .inr (.inl N)))])) (va_Qi (fun r (_ : Unit) => r = (pn_b (¬ pa < 0 ∧ ¬ nI F ≤ pa))) (fun _ _ => True) pn_No) 0 0 pn_No := by
  refine pn_mk (by decide) rfl (Nat.le_of_ble_eq_true rfl) ?_
  intro p e s m below meth c ls hx hb hr hml hown hts hlocks hK hP hl
  have hown : s.vm.findClass RX0 = some m.cls := hown
  have hS : va_S pn_No s.heap s.heap [] := va_S.rf
  have hl : lv_has ls 2 [(0, .ref h0), (1, .int pa)] := hl
  refine lv_iload_n hx hb dX0_knows_0 rfl (lv_at hl 1 rfl) ?_
  refine lv_if_lt (tgt := 16) hx hb dX0_knows_1 (by decide) (fun c_1 => ?_) (fun c_1 => ?_)
  · refine lv_iconst (v := (nI 0)) hx hb dX0_knows_16 (by decide) ?_
    exact W.zret hx hb hr (by decide) (fun t ht hW => ⟨⟨_, (), rfl, (by first | exact pn_bt ⟨by assumption, by assumption⟩ | exact pn_bf (fun h => by first | exact h.1 (by assumption) | exact h.2 (by assumption))), trivial⟩, hS.F ht⟩) hS.2.2 dX0_knows_17 hlocks
  · refine lv_iload_n hx hb dX0_knows_4 rfl (lv_at hl 1 rfl) ?_
    refine lv_aload_n hx hb dX0_knows_5 rfl (lv_at hl 0 rfl) ?_
    refine va_get (D := D) (ci := 0) (v := .int (nI F)) (C := RX0) (T := TX0) (N := 8) hx hb hts ih_X0_knows_X0 hown hK.1 hP 0 rfl rfl 7 (by decide) (hts (.fieldLink RX0 35 "ParishNames$Chronicle" "founded" "I") (by decide +kernel)) (fun _ h9 => h9) rfl dX0_knows_6 ?_
    refine lv_icmp_ge (tgt := 16) hx hb dX0_knows_9 (by decide) (fun c_2 => ?_) (fun c_2 => ?_)
    · refine lv_iconst (v := (nI 0)) hx hb dX0_knows_16 (by decide) ?_
      exact W.zret hx hb hr (by decide) (fun t ht hW => ⟨⟨_, (), rfl, (by first | exact pn_bt ⟨by assumption, by assumption⟩ | exact pn_bf (fun h => by first | exact h.1 (by assumption) | exact h.2 (by assumption))), trivial⟩, hS.F ht⟩) hS.2.2 dX0_knows_17 hlocks
    · refine lv_iconst (v := (nI 1)) hx hb dX0_knows_12 (by decide) ?_
      refine lv_goto (tgt := 17) hx hb dX0_knows_13 (by decide) ?_
      exact W.zret hx hb hr (by decide) (fun t ht hW => ⟨⟨_, (), rfl, (by first | exact pn_bt ⟨by assumption, by assumption⟩ | exact pn_bf (fun h => by first | exact h.1 (by assumption) | exact h.2 (by assumption))), trivial⟩, hS.F ht⟩) hS.2.2 dX0_knows_17 hlocks

theorem ih_X0_yearOfLast_X0 : ∀ w ∈ wsX00, w ∈ wsX0_yearOfLast := by decide +kernel
set_option maxHeartbeats 4000000 in
set_option maxRecDepth 100000 in
theorem c_X0_yearOfLast (l : Launch) (D : va_G) (cI cL cZ cO : ClassId) (h0 q1 q2 q3 q4 q5 q6 : Nat) (K Y P S O : Nat → Int32) (N : Nat → Int64) (n F : Nat) (hn : n ≤ 30) : Met l yX0_yearOfLast wsX0_yearOfLast ({ frames := 0, cells := 0, slots := 0, locals := 0 }) (va_Pc [.ref h0] (pn_Pr D cI cL cZ cO [(h0, .inr (0, [.ref q1, .ref q2, .ref q3, .ref q4, .ref q5, .ref q6, .int (nI n), .int (nI F)])), (q1, .inl (cI, 30, .inl K)), (q2, .inl (cI, 30, .inl Y)), (q3, .inl (cI, 30, .inl P)), (q4, .inl (cI, 30, .inl S)), (q5, .inl (cI, 30, .inl O)), (q6, .inl (cL, 30, .inr (.inl N)))])) (va_Qi (fun r (_ : Unit) => r = (if n = 0 then nI 0 else Y (n - 1))) (fun _ _ => True) pn_No) 0 0 pn_No := by
  refine pn_mk (by decide) rfl (Nat.le_of_ble_eq_true rfl) ?_
  intro p e s m below meth c ls hx hb hr hml hown hts hlocks hK hP hl
  have hown : s.vm.findClass RX0 = some m.cls := hown
  have hS : va_S pn_No s.heap s.heap [] := va_S.rf
  have hl : lv_has ls 1 [(0, .ref h0)] := hl
  refine lv_aload_n hx hb dX0_yearOfLast_0 rfl (lv_at hl 0 rfl) ?_
  refine va_get (D := D) (ci := 0) (v := .int (nI n)) (C := RX0) (T := TX0) (N := 8) hx hb hts ih_X0_yearOfLast_X0 hown hK.1 hP 0 rfl rfl 6 (by decide) (hts (.fieldLink RX0 31 "ParishNames$Chronicle" "told" "I") (by decide +kernel)) (fun _ h9 => h9) rfl dX0_yearOfLast_1 ?_
  refine lv_if_ne (tgt := 11) hx hb dX0_yearOfLast_4 (by decide) (fun c_1 => ?_) (fun c_1 => ?_)
  · have c_1 : ¬ n = 0 := fun h => (show ¬ nI n = nI 0 from c_1) ((pn_eq (by omega) (by omega)).mpr h)
    refine lv_aload_n hx hb dX0_yearOfLast_11 rfl (lv_at hl 0 rfl) ?_
    refine va_get (D := D) (ci := 0) (v := .ref q2) (C := RX0) (T := TX0) (N := 8) hx hb hts ih_X0_yearOfLast_X0 hown hK.1 hP 0 rfl rfl 1 (by decide) (hts (.fieldLink RX0 15 "ParishNames$Chronicle" "years" "[I") (by decide +kernel)) (fun _ h9 => h9) rfl dX0_yearOfLast_12 ?_
    refine lv_aload_n hx hb dX0_yearOfLast_15 rfl (lv_at hl 0 rfl) ?_
    refine va_get (D := D) (ci := 0) (v := .int (nI n)) (C := RX0) (T := TX0) (N := 8) hx hb hts ih_X0_yearOfLast_X0 hown hK.1 hP 0 rfl rfl 6 (by decide) (hts (.fieldLink RX0 31 "ParishNames$Chronicle" "told" "I") (by decide +kernel)) (fun _ h9 => h9) rfl dX0_yearOfLast_16 ?_
    refine lv_iconst (v := (nI 1)) hx hb dX0_yearOfLast_19 (by decide) ?_
    refine pn_isub hx hb (by omega) dX0_yearOfLast_20 ?_
    refine pn_iald hx hb hK.1 hP 2 0 rfl rfl (i := (n - 1)) (by omega) (Nat.le_of_ble_eq_true rfl) dX0_yearOfLast_21 ?_
    exact W.iret hx hb hr (fun t ht hW => ⟨⟨_, (), rfl, (by split <;> first | rfl | contradiction), trivial⟩, hS.F ht⟩) hS.2.2 dX0_yearOfLast_22 hlocks
  · have c_1 : n = 0 := (pn_eq (by omega) (by omega)).mp (show nI n = nI 0 from c_1)
    refine lv_iconst (v := (nI 0)) hx hb dX0_yearOfLast_7 (by decide) ?_
    refine lv_goto (tgt := 22) hx hb dX0_yearOfLast_8 (by decide) ?_
    exact W.iret hx hb hr (fun t ht hW => ⟨⟨_, (), rfl, (by split <;> first | rfl | contradiction), trivial⟩, hS.F ht⟩) hS.2.2 dX0_yearOfLast_22 hlocks

theorem ih_X0_factOf_X0 : ∀ w ∈ wsX00, w ∈ wsX0_factOf := by decide +kernel
set_option maxHeartbeats 4000000 in
set_option maxRecDepth 100000 in
theorem c_X0_factOf (l : Launch) (D : va_G) (cI cL cZ cO : ClassId) (h0 q1 q2 q3 q4 q5 q6 : Nat) (K Y P S O : Nat → Int32) (N : Nat → Int64) (n F : Nat) (i : Int32) (wh : Nat) (hn : n ≤ 30) (hw : wh ≤ 4) : Met l yX0_factOf wsX0_factOf ({ frames := 0, cells := 0, slots := 0, locals := 0 }) (va_Pc [.ref h0, .int i, .int (nI wh)] (pn_Pr D cI cL cZ cO [(h0, .inr (0, [.ref q1, .ref q2, .ref q3, .ref q4, .ref q5, .ref q6, .int (nI n), .int (nI F)])), (q1, .inl (cI, 30, .inl K)), (q2, .inl (cI, 30, .inl Y)), (q3, .inl (cI, 30, .inl P)), (q4, .inl (cI, 30, .inl S)), (q5, .inl (cI, 30, .inl O)), (q6, .inl (cL, 30, .inr (.inl N)))])) (va_Qi (fun r (_ : Unit) => r = (pn_fact K Y P S O n i wh)) (fun _ _ => True) pn_No) 0 0 pn_No := by
  refine pn_mk (by decide) rfl (Nat.le_of_ble_eq_true rfl) ?_
  intro p e s m below meth c ls hx hb hr hml hown hts hlocks hK hP hl
  have hown : s.vm.findClass RX0 = some m.cls := hown
  have hS : va_S pn_No s.heap s.heap [] := va_S.rf
  have hl : lv_has ls 3 [(0, .ref h0), (1, .int i), (2, .int (nI wh))] := hl
  refine lv_iload_n hx hb dX0_factOf_0 rfl (lv_at hl 1 rfl) ?_
  refine lv_if_lt (tgt := 12) hx hb dX0_factOf_1 (by decide) (fun c_1 => ?_) (fun c_1 => ?_)
  · refine lv_bipush (v := (-6)) hx hb dX0_factOf_12 (by decide) ?_
    exact W.iret hx hb hr (fun t ht hW => ⟨⟨_, (), rfl, (by unfold pn_fact; first | exact (if_pos (Or.inl (by assumption))).symm | exact (if_pos (Or.inr (Int32.not_lt.mp (by assumption)))).symm), trivial⟩, hS.F ht⟩) hS.2.2 dX0_factOf_14 hlocks
  · refine lv_iload_n hx hb dX0_factOf_4 rfl (lv_at hl 1 rfl) ?_
    refine lv_aload_n hx hb dX0_factOf_5 rfl (lv_at hl 0 rfl) ?_
    refine va_get (D := D) (ci := 0) (v := .int (nI n)) (C := RX0) (T := TX0) (N := 8) hx hb hts ih_X0_factOf_X0 hown hK.1 hP 0 rfl rfl 6 (by decide) (hts (.fieldLink RX0 31 "ParishNames$Chronicle" "told" "I") (by decide +kernel)) (fun _ h9 => h9) rfl dX0_factOf_6 ?_
    refine lv_icmp_lt (tgt := 15) hx hb dX0_factOf_9 (by decide) (fun c_2 => ?_) (fun c_2 => ?_)
    · obtain ⟨k, hk, rfl⟩ := pn_ofI (by assumption) c_2 (by omega)
      refine lv_iload_n hx hb dX0_factOf_15 rfl (lv_at hl 2 rfl) ?_
      rcases pn_sw (nI wh) (lo := 0) (hi := 3) with c_3 | c_3
      · refine lv_tableOut (tgt := 90) hx hb dX0_factOf_16 c_3 (by decide) ?_
        have c_3 : wh < 0 ∨ 3 < wh := by rw [nI_toInt (by omega)] at c_3; omega
        obtain rfl : wh = 4 := by omega
        refine lv_aload_n hx hb dX0_factOf_90 rfl (lv_at hl 0 rfl) ?_
        refine va_get (D := D) (ci := 0) (v := .ref q1) (C := RX0) (T := TX0) (N := 8) hx hb hts ih_X0_factOf_X0 hown hK.1 hP 0 rfl rfl 0 (by decide) (hts (.fieldLink RX0 9 "ParishNames$Chronicle" "kinds" "[I") (by decide +kernel)) (fun _ h9 => h9) rfl dX0_factOf_91 ?_
        refine lv_iload_n hx hb dX0_factOf_94 rfl (lv_at hl 1 rfl) ?_
        refine pn_iald hx hb hK.1 hP 1 0 rfl rfl (i := k) (by omega) (Nat.le_of_ble_eq_true rfl) dX0_factOf_95 ?_
        refine lv_if_ne (tgt := 104) hx hb dX0_factOf_96 (by decide) (fun c_4 => ?_) (fun c_4 => ?_)
        · refine lv_aload_n hx hb dX0_factOf_104 rfl (lv_at hl 0 rfl) ?_
          refine va_get (D := D) (ci := 0) (v := .ref q5) (C := RX0) (T := TX0) (N := 8) hx hb hts ih_X0_factOf_X0 hown hK.1 hP 0 rfl rfl 4 (by decide) (hts (.fieldLink RX0 24 "ParishNames$Chronicle" "owners" "[I") (by decide +kernel)) (fun _ h9 => h9) rfl dX0_factOf_105 ?_
          refine lv_iload_n hx hb dX0_factOf_108 rfl (lv_at hl 1 rfl) ?_
          refine pn_iald hx hb hK.1 hP 5 0 rfl rfl (i := k) (by omega) (Nat.le_of_ble_eq_true rfl) dX0_factOf_109 ?_
          exact W.iret hx hb hr (fun t ht hW => ⟨⟨_, (), rfl, (by rw [pn_fact_in hk (by omega)]; (try subst_vars); first | rfl | exact (if_pos (by assumption)).symm | exact (if_neg (by assumption)).symm), trivial⟩, hS.F ht⟩) hS.2.2 dX0_factOf_110 hlocks
        · refine lv_bipush (v := (-6)) hx hb dX0_factOf_99 (by decide) ?_
          refine lv_goto (tgt := 110) hx hb dX0_factOf_101 (by decide) ?_
          exact W.iret hx hb hr (fun t ht hW => ⟨⟨_, (), rfl, (by rw [pn_fact_in hk (by omega)]; (try subst_vars); first | rfl | exact (if_pos (by assumption)).symm | exact (if_neg (by assumption)).symm), trivial⟩, hS.F ht⟩) hS.2.2 dX0_factOf_110 hlocks
      · obtain ⟨k_3, hk_3, c_3⟩ := c_3
        have hk_3 : k_3 = 0 ∨ k_3 = 1 ∨ k_3 = 2 ∨ k_3 = 3 := by omega
        rcases hk_3 with rfl | rfl | rfl | rfl
        · refine lv_tableIn (tgt := 48) hx hb dX0_factOf_16 (by rw [c_3]; decide) (by rw [c_3]; decide) (by rw [c_3]; rfl) (by decide) ?_
          have c_3 : (nI wh) = nI 0 := pn_swe c_3 (by decide)
          have c_3 : wh = 0 := (pn_eq (by omega) (by omega)).mp c_3
          refine lv_aload_n hx hb dX0_factOf_48 rfl (lv_at hl 0 rfl) ?_
          refine va_get (D := D) (ci := 0) (v := .ref q1) (C := RX0) (T := TX0) (N := 8) hx hb hts ih_X0_factOf_X0 hown hK.1 hP 0 rfl rfl 0 (by decide) (hts (.fieldLink RX0 9 "ParishNames$Chronicle" "kinds" "[I") (by decide +kernel)) (fun _ h9 => h9) rfl dX0_factOf_49 ?_
          refine lv_iload_n hx hb dX0_factOf_52 rfl (lv_at hl 1 rfl) ?_
          refine pn_iald hx hb hK.1 hP 1 0 rfl rfl (i := k) (by omega) (Nat.le_of_ble_eq_true rfl) dX0_factOf_53 ?_
          exact W.iret hx hb hr (fun t ht hW => ⟨⟨_, (), rfl, (by rw [pn_fact_in hk (by omega)]; (try subst_vars); first | rfl | exact (if_pos (by assumption)).symm | exact (if_neg (by assumption)).symm), trivial⟩, hS.F ht⟩) hS.2.2 dX0_factOf_54 hlocks
        · refine lv_tableIn (tgt := 55) hx hb dX0_factOf_16 (by rw [c_3]; decide) (by rw [c_3]; decide) (by rw [c_3]; rfl) (by decide) ?_
          have c_3 : (nI wh) = nI 1 := pn_swe c_3 (by decide)
          have c_3 : wh = 1 := (pn_eq (by omega) (by omega)).mp c_3
          refine lv_aload_n hx hb dX0_factOf_55 rfl (lv_at hl 0 rfl) ?_
          refine va_get (D := D) (ci := 0) (v := .ref q2) (C := RX0) (T := TX0) (N := 8) hx hb hts ih_X0_factOf_X0 hown hK.1 hP 0 rfl rfl 1 (by decide) (hts (.fieldLink RX0 15 "ParishNames$Chronicle" "years" "[I") (by decide +kernel)) (fun _ h9 => h9) rfl dX0_factOf_56 ?_
          refine lv_iload_n hx hb dX0_factOf_59 rfl (lv_at hl 1 rfl) ?_
          refine pn_iald hx hb hK.1 hP 2 0 rfl rfl (i := k) (by omega) (Nat.le_of_ble_eq_true rfl) dX0_factOf_60 ?_
          exact W.iret hx hb hr (fun t ht hW => ⟨⟨_, (), rfl, (by rw [pn_fact_in hk (by omega)]; (try subst_vars); first | rfl | exact (if_pos (by assumption)).symm | exact (if_neg (by assumption)).symm), trivial⟩, hS.F ht⟩) hS.2.2 dX0_factOf_61 hlocks
        · refine lv_tableIn (tgt := 62) hx hb dX0_factOf_16 (by rw [c_3]; decide) (by rw [c_3]; decide) (by rw [c_3]; rfl) (by decide) ?_
          have c_3 : (nI wh) = nI 2 := pn_swe c_3 (by decide)
          have c_3 : wh = 2 := (pn_eq (by omega) (by omega)).mp c_3
          refine lv_aload_n hx hb dX0_factOf_62 rfl (lv_at hl 0 rfl) ?_
          refine va_get (D := D) (ci := 0) (v := .ref q3) (C := RX0) (T := TX0) (N := 8) hx hb hts ih_X0_factOf_X0 hown hK.1 hP 0 rfl rfl 2 (by decide) (hts (.fieldLink RX0 18 "ParishNames$Chronicle" "parishes" "[I") (by decide +kernel)) (fun _ h9 => h9) rfl dX0_factOf_63 ?_
          refine lv_iload_n hx hb dX0_factOf_66 rfl (lv_at hl 1 rfl) ?_
          refine pn_iald hx hb hK.1 hP 3 0 rfl rfl (i := k) (by omega) (Nat.le_of_ble_eq_true rfl) dX0_factOf_67 ?_
          exact W.iret hx hb hr (fun t ht hW => ⟨⟨_, (), rfl, (by rw [pn_fact_in hk (by omega)]; (try subst_vars); first | rfl | exact (if_pos (by assumption)).symm | exact (if_neg (by assumption)).symm), trivial⟩, hS.F ht⟩) hS.2.2 dX0_factOf_68 hlocks
        · refine lv_tableIn (tgt := 69) hx hb dX0_factOf_16 (by rw [c_3]; decide) (by rw [c_3]; decide) (by rw [c_3]; rfl) (by decide) ?_
          have c_3 : (nI wh) = nI 3 := pn_swe c_3 (by decide)
          have c_3 : wh = 3 := (pn_eq (by omega) (by omega)).mp c_3
          refine lv_aload_n hx hb dX0_factOf_69 rfl (lv_at hl 0 rfl) ?_
          refine va_get (D := D) (ci := 0) (v := .ref q1) (C := RX0) (T := TX0) (N := 8) hx hb hts ih_X0_factOf_X0 hown hK.1 hP 0 rfl rfl 0 (by decide) (hts (.fieldLink RX0 9 "ParishNames$Chronicle" "kinds" "[I") (by decide +kernel)) (fun _ h9 => h9) rfl dX0_factOf_70 ?_
          refine lv_iload_n hx hb dX0_factOf_73 rfl (lv_at hl 1 rfl) ?_
          refine pn_iald hx hb hK.1 hP 1 0 rfl rfl (i := k) (by omega) (Nat.le_of_ble_eq_true rfl) dX0_factOf_74 ?_
          refine lv_if_ne (tgt := 83) hx hb dX0_factOf_75 (by decide) (fun c_5 => ?_) (fun c_5 => ?_)
          · refine lv_aload_n hx hb dX0_factOf_83 rfl (lv_at hl 0 rfl) ?_
            refine va_get (D := D) (ci := 0) (v := .ref q4) (C := RX0) (T := TX0) (N := 8) hx hb hts ih_X0_factOf_X0 hown hK.1 hP 0 rfl rfl 3 (by decide) (hts (.fieldLink RX0 21 "ParishNames$Chronicle" "sets" "[I") (by decide +kernel)) (fun _ h9 => h9) rfl dX0_factOf_84 ?_
            refine lv_iload_n hx hb dX0_factOf_87 rfl (lv_at hl 1 rfl) ?_
            refine pn_iald hx hb hK.1 hP 4 0 rfl rfl (i := k) (by omega) (Nat.le_of_ble_eq_true rfl) dX0_factOf_88 ?_
            exact W.iret hx hb hr (fun t ht hW => ⟨⟨_, (), rfl, (by rw [pn_fact_in hk (by omega)]; (try subst_vars); first | rfl | exact (if_pos (by assumption)).symm | exact (if_neg (by assumption)).symm), trivial⟩, hS.F ht⟩) hS.2.2 dX0_factOf_89 hlocks
          · refine lv_bipush (v := (-6)) hx hb dX0_factOf_78 (by decide) ?_
            refine lv_goto (tgt := 89) hx hb dX0_factOf_80 (by decide) ?_
            exact W.iret hx hb hr (fun t ht hW => ⟨⟨_, (), rfl, (by rw [pn_fact_in hk (by omega)]; (try subst_vars); first | rfl | exact (if_pos (by assumption)).symm | exact (if_neg (by assumption)).symm), trivial⟩, hS.F ht⟩) hS.2.2 dX0_factOf_89 hlocks
    · refine lv_bipush (v := (-6)) hx hb dX0_factOf_12 (by decide) ?_
      exact W.iret hx hb hr (fun t ht hW => ⟨⟨_, (), rfl, (by unfold pn_fact; first | exact (if_pos (Or.inl (by assumption))).symm | exact (if_pos (Or.inr (Int32.not_lt.mp (by assumption)))).symm), trivial⟩, hS.F ht⟩) hS.2.2 dX0_factOf_14 hlocks

theorem ih_X0_firstYear_X0 : ∀ w ∈ wsX00, w ∈ wsX0_firstYear := by decide +kernel
set_option maxHeartbeats 4000000 in
set_option maxRecDepth 100000 in
theorem c_X0_firstYear (l : Launch) (D : va_G) (cI cL cZ cO : ClassId) (h0 q1 q2 q3 q4 q5 q6 : Nat) (K Y P S O : Nat → Int32) (N : Nat → Int64) (n F : Nat) (j : Nat) (hn : n ≤ 30) (hj : j ≤ 31) : Met l yX0_firstYear wsX0_firstYear ({ frames := 0, cells := 0, slots := 0, locals := 0 }) (va_Pc [.ref h0, .int (nI j)] (pn_Pr D cI cL cZ cO [(h0, .inr (0, [.ref q1, .ref q2, .ref q3, .ref q4, .ref q5, .ref q6, .int (nI n), .int (nI F)])), (q1, .inl (cI, 30, .inl K)), (q2, .inl (cI, 30, .inl Y)), (q3, .inl (cI, 30, .inl P)), (q4, .inl (cI, 30, .inl S)), (q5, .inl (cI, 30, .inl O)), (q6, .inl (cL, 30, .inr (.inl N)))])) (va_Qi (fun r (_ : Unit) => r = (pn_fy Y n j)) (fun _ _ => True) pn_No) 0 0 pn_No := by
  refine pn_mk (by decide) rfl (Nat.le_of_ble_eq_true rfl) ?_
  intro p e s m below meth c ls hx hb hr hml hown hts hlocks hK hP hl
  have hown : s.vm.findClass RX0 = some m.cls := hown
  have hS : va_S pn_No s.heap s.heap [] := va_S.rf
  have hl : lv_has ls 2 [(0, .ref h0), (1, .int (nI j))] := hl
  refine lv_iload_n hx hb dX0_firstYear_0 rfl (lv_at hl 1 rfl) ?_
  refine lv_if_le (tgt := 12) hx hb dX0_firstYear_1 (by decide) (fun c_1 => ?_) (fun c_1 => ?_)
  · have c_1 : j ≤ 0 := (pn_le (by omega) (by omega)).mp (show nI j ≤ nI 0 from c_1)
    refine lv_iconst (v := (nI 0)) hx hb dX0_firstYear_12 (by decide) ?_
    refine lv_goto (tgt := 24) hx hb dX0_firstYear_13 (by decide) ?_
    exact W.iret hx hb hr (fun t ht hW => ⟨⟨_, (), rfl, (by unfold pn_fy; (repeat' split) <;> first | rfl | contradiction | omega | grind), trivial⟩, hS.F ht⟩) hS.2.2 dX0_firstYear_24 hlocks
  · have c_1 : ¬ j ≤ 0 := fun h => (show ¬ nI j ≤ nI 0 from c_1) ((pn_le (by omega) (by omega)).mpr h)
    refine lv_iload_n hx hb dX0_firstYear_4 rfl (lv_at hl 1 rfl) ?_
    refine lv_aload_n hx hb dX0_firstYear_5 rfl (lv_at hl 0 rfl) ?_
    refine va_get (D := D) (ci := 0) (v := .int (nI n)) (C := RX0) (T := TX0) (N := 8) hx hb hts ih_X0_firstYear_X0 hown hK.1 hP 0 rfl rfl 6 (by decide) (hts (.fieldLink RX0 31 "ParishNames$Chronicle" "told" "I") (by decide +kernel)) (fun _ h9 => h9) rfl dX0_firstYear_6 ?_
    refine lv_icmp_le (tgt := 16) hx hb dX0_firstYear_9 (by decide) (fun c_2 => ?_) (fun c_2 => ?_)
    · have c_2 : j ≤ n := (pn_le (by omega) (by omega)).mp (show nI j ≤ nI n from c_2)
      refine lv_aload_n hx hb dX0_firstYear_16 rfl (lv_at hl 0 rfl) ?_
      refine va_get (D := D) (ci := 0) (v := .ref q2) (C := RX0) (T := TX0) (N := 8) hx hb hts ih_X0_firstYear_X0 hown hK.1 hP 0 rfl rfl 1 (by decide) (hts (.fieldLink RX0 15 "ParishNames$Chronicle" "years" "[I") (by decide +kernel)) (fun _ h9 => h9) rfl dX0_firstYear_17 ?_
      refine lv_iload_n hx hb dX0_firstYear_20 rfl (lv_at hl 1 rfl) ?_
      refine lv_iconst (v := (nI 1)) hx hb dX0_firstYear_21 (by decide) ?_
      refine pn_isub hx hb (by omega) dX0_firstYear_22 ?_
      refine pn_iald hx hb hK.1 hP 2 0 rfl rfl (i := (j - 1)) (by omega) (Nat.le_of_ble_eq_true rfl) dX0_firstYear_23 ?_
      exact W.iret hx hb hr (fun t ht hW => ⟨⟨_, (), rfl, (by unfold pn_fy; (repeat' split) <;> first | rfl | contradiction | omega | grind), trivial⟩, hS.F ht⟩) hS.2.2 dX0_firstYear_24 hlocks
    · have c_2 : ¬ j ≤ n := fun h => (show ¬ nI j ≤ nI n from c_2) ((pn_le (by omega) (by omega)).mpr h)
      refine lv_iconst (v := (nI 0)) hx hb dX0_firstYear_12 (by decide) ?_
      refine lv_goto (tgt := 24) hx hb dX0_firstYear_13 (by decide) ?_
      exact W.iret hx hb hr (fun t ht hW => ⟨⟨_, (), rfl, (by unfold pn_fy; (repeat' split) <;> first | rfl | contradiction | omega | grind), trivial⟩, hS.F ht⟩) hS.2.2 dX0_firstYear_24 hlocks

theorem ih_X0_lastYear_X0 : ∀ w ∈ wsX00, w ∈ wsX0_lastYear := by decide +kernel
set_option maxHeartbeats 4000000 in
set_option maxRecDepth 100000 in
theorem c_X0_lastYear (l : Launch) (D : va_G) (cI cL cZ cO : ClassId) (h0 q1 q2 q3 q4 q5 q6 : Nat) (K Y P S O : Nat → Int32) (N : Nat → Int64) (n F : Nat) (j : Nat) (hn : n ≤ 30) (hj : j ≤ 31) : Met l yX0_lastYear wsX0_lastYear ({ frames := 0, cells := 0, slots := 0, locals := 0 }) (va_Pc [.ref h0, .int (nI j)] (pn_Pr D cI cL cZ cO [(h0, .inr (0, [.ref q1, .ref q2, .ref q3, .ref q4, .ref q5, .ref q6, .int (nI n), .int (nI F)])), (q1, .inl (cI, 30, .inl K)), (q2, .inl (cI, 30, .inl Y)), (q3, .inl (cI, 30, .inl P)), (q4, .inl (cI, 30, .inl S)), (q5, .inl (cI, 30, .inl O)), (q6, .inl (cL, 30, .inr (.inl N)))])) (va_Qi (fun r (_ : Unit) => r = (pn_ly Y n j)) (fun _ _ => True) pn_No) 0 0 pn_No := by
  refine pn_mk (by decide) rfl (Nat.le_of_ble_eq_true rfl) ?_
  intro p e s m below meth c ls hx hb hr hml hown hts hlocks hK hP hl
  have hown : s.vm.findClass RX0 = some m.cls := hown
  have hS : va_S pn_No s.heap s.heap [] := va_S.rf
  have hl : lv_has ls 2 [(0, .ref h0), (1, .int (nI j))] := hl
  refine lv_iload_n hx hb dX0_lastYear_0 rfl (lv_at hl 1 rfl) ?_
  refine lv_if_lt (tgt := 12) hx hb dX0_lastYear_1 (by decide) (fun c_1 => ?_) (fun c_1 => ?_)
  · have c_1 : j < 0 := (pn_lt (by omega) (by omega)).mp (show nI j < nI 0 from c_1)
    refine lv_sipush (v := (nI 999)) hx hb dX0_lastYear_12 (by decide) ?_
    refine lv_goto (tgt := 26) hx hb dX0_lastYear_15 (by decide) ?_
    exact W.iret hx hb hr (fun t ht hW => ⟨⟨_, (), rfl, (by unfold pn_ly; (repeat' split) <;> first | rfl | contradiction | omega | grind), trivial⟩, hS.F ht⟩) hS.2.2 dX0_lastYear_26 hlocks
  · have c_1 : ¬ j < 0 := fun h => (show ¬ nI j < nI 0 from c_1) ((pn_lt (by omega) (by omega)).mpr h)
    refine lv_iload_n hx hb dX0_lastYear_4 rfl (lv_at hl 1 rfl) ?_
    refine lv_aload_n hx hb dX0_lastYear_5 rfl (lv_at hl 0 rfl) ?_
    refine va_get (D := D) (ci := 0) (v := .int (nI n)) (C := RX0) (T := TX0) (N := 8) hx hb hts ih_X0_lastYear_X0 hown hK.1 hP 0 rfl rfl 6 (by decide) (hts (.fieldLink RX0 31 "ParishNames$Chronicle" "told" "I") (by decide +kernel)) (fun _ h9 => h9) rfl dX0_lastYear_6 ?_
    refine lv_icmp_lt (tgt := 18) hx hb dX0_lastYear_9 (by decide) (fun c_2 => ?_) (fun c_2 => ?_)
    · have c_2 : j < n := (pn_lt (by omega) (by omega)).mp (show nI j < nI n from c_2)
      refine lv_aload_n hx hb dX0_lastYear_18 rfl (lv_at hl 0 rfl) ?_
      refine va_get (D := D) (ci := 0) (v := .ref q2) (C := RX0) (T := TX0) (N := 8) hx hb hts ih_X0_lastYear_X0 hown hK.1 hP 0 rfl rfl 1 (by decide) (hts (.fieldLink RX0 15 "ParishNames$Chronicle" "years" "[I") (by decide +kernel)) (fun _ h9 => h9) rfl dX0_lastYear_19 ?_
      refine lv_iload_n hx hb dX0_lastYear_22 rfl (lv_at hl 1 rfl) ?_
      refine pn_iald hx hb hK.1 hP 2 0 rfl rfl (i := j) (by omega) (Nat.le_of_ble_eq_true rfl) dX0_lastYear_23 ?_
      refine lv_iconst (v := (nI 1)) hx hb dX0_lastYear_24 (by decide) ?_
      refine lv_isub hx hb dX0_lastYear_25 ?_
      exact W.iret hx hb hr (fun t ht hW => ⟨⟨_, (), rfl, (by unfold pn_ly; (repeat' split) <;> first | rfl | contradiction | omega | grind), trivial⟩, hS.F ht⟩) hS.2.2 dX0_lastYear_26 hlocks
    · have c_2 : ¬ j < n := fun h => (show ¬ nI j < nI n from c_2) ((pn_lt (by omega) (by omega)).mpr h)
      refine lv_sipush (v := (nI 999)) hx hb dX0_lastYear_12 (by decide) ?_
      refine lv_goto (tgt := 26) hx hb dX0_lastYear_15 (by decide) ?_
      exact W.iret hx hb hr (fun t ht hW => ⟨⟨_, (), rfl, (by unfold pn_ly; (repeat' split) <;> first | rfl | contradiction | omega | grind), trivial⟩, hS.F ht⟩) hS.2.2 dX0_lastYear_26 hlocks

set_option maxHeartbeats 4000000 in
set_option maxRecDepth 100000 in
theorem c_X0_holdsInAYear (l : Launch) (D : va_G) (cI cL cZ cO : ClassId) (h0 q1 q2 q3 q4 q5 q6 : Nat) (K Y P S O : Nat → Int32) (N : Nat → Int64) (n F : Nat) (j : Nat) (hn : n ≤ 30) (hj : j ≤ 31) : Met l yX0_holdsInAYear wsX0_holdsInAYear ({ frames := 1, cells := 0, slots := 0, locals := 21 }) (va_Pc [.ref h0, .int (nI j)] (pn_Pr D cI cL cZ cO [(h0, .inr (0, [.ref q1, .ref q2, .ref q3, .ref q4, .ref q5, .ref q6, .int (nI n), .int (nI F)])), (q1, .inl (cI, 30, .inl K)), (q2, .inl (cI, 30, .inl Y)), (q3, .inl (cI, 30, .inl P)), (q4, .inl (cI, 30, .inl S)), (q5, .inl (cI, 30, .inl O)), (q6, .inl (cL, 30, .inr (.inl N)))])) (va_Qi (fun r (_ : Unit) => r = (pn_b (pn_fy Y n j ≤ pn_ly Y n j))) (fun _ _ => True) pn_No) 0 0 pn_No := by
  refine pn_mk (by decide) rfl (Nat.le_of_ble_eq_true rfl) ?_
  intro p e s m below meth c ls hx hb hr hml hown hts hlocks hK hP hl
  have hown : s.vm.findClass RX0 = some m.cls := hown
  have hS : va_S pn_No s.heap s.heap [] := va_S.rf
  have hl : lv_has ls 2 [(0, .ref h0), (1, .int (nI j))] := hl
  refine lv_aload_n hx hb dX0_holdsInAYear_0 rfl (lv_at hl 0 rfl) ?_
  refine lv_iload_n hx hb dX0_holdsInAYear_1 rfl (lv_at hl 1 rfl) ?_
  refine pn_roi (w := [(h0, .inr (0, [.ref q1, .ref q2, .ref q3, .ref q4, .ref q5, .ref q6, .int (nI n), .int (nI F)])), (q1, .inl (cI, 30, .inl K)), (q2, .inl (cI, 30, .inl Y)), (q3, .inl (cI, 30, .inl P)), (q4, .inl (cI, 30, .inl S)), (q5, .inl (cI, 30, .inl O)), (q6, .inl (cL, 30, .inr (.inl N)))]) hP hS (va_runV (As := [.int (nI j)]) (rest := []) ⟨hx, hb, hml, hown, hts⟩ (c_X0_firstYear l D cI cL cZ cO h0 q1 q2 q3 q4 q5 q6 K Y P S O N n F j (by first | assumption | omega | grind | simp_all) (by first | assumption | omega | grind | simp_all)) (cwV 1 hts gX0_holdsInAYear_X0_firstYear rfl rfl rfl (by decide +kernel) ⟨Nat.le_of_ble_eq_true rfl, Nat.le_of_ble_eq_true rfl⟩) (pn_pv hP hK (q0 := 0) rfl rfl) rfl rfl hl.1 rfl (lv_room (Nat.le_of_ble_eq_true rfl)) dX0_holdsInAYear_2 ⟨Nat.le_of_ble_eq_true rfl, Nat.le_of_ble_eq_true rfl⟩) (fun H locs hP hS => ?_)
  refine lv_aload_n hx hb dX0_holdsInAYear_5 rfl (lv_at hl 0 rfl) ?_
  refine lv_iload_n hx hb dX0_holdsInAYear_6 rfl (lv_at hl 1 rfl) ?_
  refine pn_roi (w := [(h0, .inr (0, [.ref q1, .ref q2, .ref q3, .ref q4, .ref q5, .ref q6, .int (nI n), .int (nI F)])), (q1, .inl (cI, 30, .inl K)), (q2, .inl (cI, 30, .inl Y)), (q3, .inl (cI, 30, .inl P)), (q4, .inl (cI, 30, .inl S)), (q5, .inl (cI, 30, .inl O)), (q6, .inl (cL, 30, .inr (.inl N)))]) hP hS (va_runV (As := [.int (nI j)]) (rest := [.int (pn_fy Y n j)]) ⟨hx, hb, hml, hown, hts⟩ (c_X0_lastYear l D cI cL cZ cO h0 q1 q2 q3 q4 q5 q6 K Y P S O N n F j (by first | assumption | omega | grind | simp_all) (by first | assumption | omega | grind | simp_all)) (cwV 1 hts gX0_holdsInAYear_X0_lastYear rfl rfl rfl (by decide +kernel) ⟨Nat.le_of_ble_eq_true rfl, Nat.le_of_ble_eq_true rfl⟩) (pn_pv hP hK (q0 := 0) rfl rfl) rfl rfl hl.1 rfl (lv_room (Nat.le_of_ble_eq_true rfl)) dX0_holdsInAYear_7 ⟨Nat.le_of_ble_eq_true rfl, Nat.le_of_ble_eq_true rfl⟩) (fun H locs hP hS => ?_)
  refine lv_icmp_gt (tgt := 17) hx hb dX0_holdsInAYear_10 (by decide) (fun c_1 => ?_) (fun c_1 => ?_)
  · refine lv_iconst (v := (nI 0)) hx hb dX0_holdsInAYear_17 (by decide) ?_
    exact W.zret hx hb hr (by decide) (fun t ht hW => ⟨⟨_, (), rfl, (by first | exact pn_bt (by first | assumption | (exact Int32.not_lt.mp (by assumption)) | (simp_all)) | exact pn_bf (by first | assumption | exact Int32.not_le.mpr (by assumption))), trivial⟩, hS.F ht⟩) hS.2.2 dX0_holdsInAYear_18 hlocks
  · refine lv_iconst (v := (nI 1)) hx hb dX0_holdsInAYear_13 (by decide) ?_
    refine lv_goto (tgt := 18) hx hb dX0_holdsInAYear_14 (by decide) ?_
    exact W.zret hx hb hr (by decide) (fun t ht hW => ⟨⟨_, (), rfl, (by first | exact pn_bt (by first | assumption | (exact Int32.not_lt.mp (by assumption)) | (simp_all)) | exact pn_bf (by first | assumption | exact Int32.not_le.mpr (by assumption))), trivial⟩, hS.F ht⟩) hS.2.2 dX0_holdsInAYear_18 hlocks

theorem ih_X0_stageIn_X0 : ∀ w ∈ wsX00, w ∈ wsX0_stageIn := by decide +kernel
set_option maxHeartbeats 4000000 in
set_option maxRecDepth 100000 in
theorem c_X0_stageIn (l : Launch) (D : va_G) (cI cL cZ cO : ClassId) (h0 q1 q2 q3 q4 q5 q6 : Nat) (K Y P S O : Nat → Int32) (N : Nat → Int64) (n F : Nat) (yr : Int32) (hn : n ≤ 30) : Met l yX0_stageIn wsX0_stageIn ({ frames := 0, cells := 0, slots := 0, locals := 0 }) (va_Pc [.ref h0, .int yr] (pn_Pr D cI cL cZ cO [(h0, .inr (0, [.ref q1, .ref q2, .ref q3, .ref q4, .ref q5, .ref q6, .int (nI n), .int (nI F)])), (q1, .inl (cI, 30, .inl K)), (q2, .inl (cI, 30, .inl Y)), (q3, .inl (cI, 30, .inl P)), (q4, .inl (cI, 30, .inl S)), (q5, .inl (cI, 30, .inl O)), (q6, .inl (cL, 30, .inr (.inl N)))])) (va_Qi (fun r (_ : Unit) => r = (nI (pn_st Y yr n))) (fun _ _ => True) pn_No) 0 0 pn_No := by
  refine pn_mk (by decide) rfl (Nat.le_of_ble_eq_true rfl) ?_
  intro p e s m below meth c ls hx hb hr hml hown hts hlocks hK hP hl
  have hown : s.vm.findClass RX0 = some m.cls := hown
  have hS : va_S pn_No s.heap s.heap [] := va_S.rf
  have hl : lv_has ls 3 [(0, .ref h0), (1, .int yr)] := hl
  refine lv_iconst (v := (nI 0)) hx hb dX0_stageIn_0 (by decide) ?_
  refine lv_istore_n (lv' := [(2, .int (nI 0)), (0, .ref h0), (1, .int yr)]) hx hb dX0_stageIn_1 rfl hl (by decide) rfl (fun ls hl => ?_)
  have lp2_1 : ∀ (fu : Nat) (k : Nat), n - k < fu → (k ≤ n) → (∀ i, i < k → Y i ≤ yr) → ∀ (H : Heap) (locs : List Loc) (ls : Array Slot), va_P D vwCl [(h0, .inr (0, [.ref q1, .ref q2, .ref q3, .ref q4, .ref q5, .ref q6, .int (nI n), .int (nI F)])), (q1, .inl (cI, 30, .inl K)), (q2, .inl (cI, 30, .inl Y)), (q3, .inl (cI, 30, .inl P)), (q4, .inl (cI, 30, .inl S)), (q5, .inl (cI, 30, .inl O)), (q6, .inl (cL, 30, .inr (.inl N)))] H → va_S pn_No s.heap H locs → lv_has ls 3 [(0, .ref h0), (1, .int yr), (2, .int (nI k))] → W p l e ({ frames := 0, cells := 0, slots := 0, locals := 0 }) s m (List.toArray [.ref h0, .int yr]) below meth c H locs 0 0 (MQ below (va_Qi (fun r (_ : Unit) => r = (nI (pn_st Y yr n))) (fun _ _ => True) pn_No) (List.toArray [.ref h0, .int yr]) s 0 0 pn_No) (F0 m 2 ls []) := by
    intro fu
    induction fu with
    | zero => intro k hfu; exact absurd hfu (Nat.not_lt_zero _)
    | succ fu ih2_1 =>
      intro k hfu hk hp H locs ls hP hS hl
      refine lv_iload_n hx hb dX0_stageIn_2 rfl (lv_at hl 2 rfl) ?_
      refine lv_aload_n hx hb dX0_stageIn_3 rfl (lv_at hl 0 rfl) ?_
      refine va_get (D := D) (ci := 0) (v := .int (nI n)) (C := RX0) (T := TX0) (N := 8) hx hb hts ih_X0_stageIn_X0 hown hK.1 hP 0 rfl rfl 6 (by decide) (hts (.fieldLink RX0 31 "ParishNames$Chronicle" "told" "I") (by decide +kernel)) (fun _ h9 => h9) rfl dX0_stageIn_4 ?_
      refine lv_icmp_ge (tgt := 26) hx hb dX0_stageIn_7 (by decide) (fun c_2 => ?_) (fun c_2 => ?_)
      · have c_2 : n ≤ k := (pn_le (by omega) (by omega)).mp (show nI n ≤ nI k from c_2)
        refine lv_iload_n hx hb dX0_stageIn_26 rfl (lv_at hl 2 rfl) ?_
        exact W.iret hx hb hr (fun t ht hW => ⟨⟨_, (), rfl, (congrArg nI (pn_cw_eq (fun i h => decide_eq_true (hp i h)) (by omega) (by first | exact Or.inl (by omega) | exact Or.inr (by rw [decide_eq_true_iff]; exact Int32.not_le.mpr (by assumption)))).symm), trivial⟩, hS.F ht⟩) hS.2.2 dX0_stageIn_27 hlocks
      · have c_2 : ¬ n ≤ k := fun h => (show ¬ nI n ≤ nI k from c_2) ((pn_le (by omega) (by omega)).mpr h)
        refine lv_aload_n hx hb dX0_stageIn_10 rfl (lv_at hl 0 rfl) ?_
        refine va_get (D := D) (ci := 0) (v := .ref q2) (C := RX0) (T := TX0) (N := 8) hx hb hts ih_X0_stageIn_X0 hown hK.1 hP 0 rfl rfl 1 (by decide) (hts (.fieldLink RX0 15 "ParishNames$Chronicle" "years" "[I") (by decide +kernel)) (fun _ h9 => h9) rfl dX0_stageIn_11 ?_
        refine lv_iload_n hx hb dX0_stageIn_14 rfl (lv_at hl 2 rfl) ?_
        refine pn_iald hx hb hK.1 hP 2 0 rfl rfl (i := k) (by omega) (Nat.le_of_ble_eq_true rfl) dX0_stageIn_15 ?_
        refine lv_iload_n hx hb dX0_stageIn_16 rfl (lv_at hl 1 rfl) ?_
        refine lv_icmp_gt (tgt := 26) hx hb dX0_stageIn_17 (by decide) (fun c_3 => ?_) (fun c_3 => ?_)
        · refine lv_iload_n hx hb dX0_stageIn_26 rfl (lv_at hl 2 rfl) ?_
          exact W.iret hx hb hr (fun t ht hW => ⟨⟨_, (), rfl, (congrArg nI (pn_cw_eq (fun i h => decide_eq_true (hp i h)) (by omega) (by first | exact Or.inl (by omega) | exact Or.inr (by rw [decide_eq_true_iff]; exact Int32.not_le.mpr (by assumption)))).symm), trivial⟩, hS.F ht⟩) hS.2.2 dX0_stageIn_27 hlocks
        · refine lv_iinc (v := (nI (k + 1))) (lv' := [(2, .int (nI (k + 1))), (0, .ref h0), (1, .int yr)]) hx hb dX0_stageIn_20 hl (k := 2) rfl (nI_add k 1) (by decide) rfl (fun ls hl => ?_)
          refine lv_goto (tgt := 2) hx hb dX0_stageIn_23 (by decide) ?_
          exact ih2_1 (k + 1) (by omega) (by first | assumption | omega | grind | simp_all) (lt_s hp (Int32.not_lt.mp (by assumption))) _ _ _ hP hS (lv_sub hl [1, 2, 0] rfl)
  exact lp2_1 ((n - 0) + 1) 0 (Nat.lt_succ_self _) (by first | assumption | omega | grind | simp_all) (fun i h => absurd h (Nat.not_lt_zero _)) _ _ _ hP hS (lv_sub hl [1, 2, 0] rfl)

set_option maxHeartbeats 4000000 in
set_option maxRecDepth 100000 in
theorem c_X0_sitesAtFirst (l : Launch) (D : va_G) (cI cL cZ cO : ClassId)  (pa : Int32) : Met l yX0_sitesAtFirst wsX0_sitesAtFirst ({ frames := 0, cells := 0, slots := 0, locals := 0 }) (va_Pc [.int pa] (pn_Pr D cI cL cZ cO [])) (va_Qi (fun r (_ : Unit) => r = (pn_sit0 pa)) (fun _ _ => True) pn_No) 0 0 pn_No := by
  refine pn_mk (by decide) rfl (Nat.le_of_ble_eq_true rfl) ?_
  intro p e s m below meth c ls hx hb hr hml hown hts hlocks hK hP hl
  have hown : s.vm.findClass RX0 = some m.cls := hown
  have hS : va_S pn_No s.heap s.heap [] := va_S.rf
  have hl : lv_has ls 1 [(0, .int pa)] := hl
  refine lv_iload_n hx hb dX0_sitesAtFirst_0 rfl (lv_at hl 0 rfl) ?_
  refine lv_if_ne (tgt := 10) hx hb dX0_sitesAtFirst_1 (by decide) (fun c_1 => ?_) (fun c_1 => ?_)
  · refine lv_iconst (v := (nI 0)) hx hb dX0_sitesAtFirst_10 (by decide) ?_
    exact W.iret hx hb hr (fun t ht hW => ⟨⟨_, (), rfl, (by unfold pn_sit0; (repeat' split) <;> first | rfl | contradiction | omega | grind), trivial⟩, hS.F ht⟩) hS.2.2 dX0_sitesAtFirst_11 hlocks
  · refine lv_sipush (v := (nI 4095)) hx hb dX0_sitesAtFirst_4 (by decide) ?_
    refine lv_goto (tgt := 11) hx hb dX0_sitesAtFirst_7 (by decide) ?_
    exact W.iret hx hb hr (fun t ht hW => ⟨⟨_, (), rfl, (by unfold pn_sit0; (repeat' split) <;> first | rfl | contradiction | omega | grind), trivial⟩, hS.F ht⟩) hS.2.2 dX0_sitesAtFirst_11 hlocks

set_option maxHeartbeats 4000000 in
set_option maxRecDepth 100000 in
theorem c_X0_nameAtFirst (l : Launch) (D : va_G) (cI cL cZ cO : ClassId)  (pa : Int32) : Met l yX0_nameAtFirst wsX0_nameAtFirst ({ frames := 1, cells := 0, slots := 0, locals := 23 }) (va_Pc [.int pa] (pn_Pr D cI cL cZ cO [])) (va_Ql (fun r (_ : Unit) => r = (pn_nam0 pa)) (fun _ _ => True) pn_No) 0 0 pn_No := by
  refine pn_mk (by decide) rfl (Nat.le_of_ble_eq_true rfl) ?_
  intro p e s m below meth c ls hx hb hr hml hown hts hlocks hK hP hl
  have hown : s.vm.findClass RX0 = some m.cls := hown
  have hS : va_S pn_No s.heap s.heap [] := va_S.rf
  have hl : lv_has ls 1 [(0, .int pa)] := hl
  refine lv_iload_n hx hb dX0_nameAtFirst_0 rfl (lv_at hl 0 rfl) ?_
  refine lv_if_ne (tgt := 14) hx hb dX0_nameAtFirst_1 (by decide) (fun c_1 => ?_) (fun c_1 => ?_)
  · refine lv_lconst (v := 0) hx hb dX0_nameAtFirst_14 (by decide) ?_
    exact W.lret hx hb hr (fun t ht hW => ⟨⟨_, (), rfl, (by unfold pn_nam0; (repeat' split) <;> first | rfl | contradiction | omega | grind), trivial⟩, hS.F ht⟩) hS.2.2 dX0_nameAtFirst_15 hlocks
  · refine lv_lconst (v := 0) hx hb dX0_nameAtFirst_4 (by decide) ?_
    refine lv_iconst (v := (nI 0)) hx hb dX0_nameAtFirst_5 (by decide) ?_
    refine lv_bipush (v := (nI 97)) hx hb dX0_nameAtFirst_6 (by decide) ?_
    refine pn_rol (w := []) hP hS (va_runS (As := [.long 0, .int (nI 0), .int (nI 97)]) (rest := []) ⟨hx, hb, hml, hown, hts⟩ (c_X1_withLetter l D cI cL cZ cO 0 0 (nI 97)) (va_cwS 3 hts gX0_nameAtFirst_X1_withLetter rfl rfl rfl (by decide +kernel) ⟨Nat.le_of_ble_eq_true rfl, Nat.le_of_ble_eq_true rfl⟩) (pn_ps (WS := []) (fun k q h => by simp at h) hK) rfl rfl hl.1 rfl (lv_room (Nat.le_of_ble_eq_true rfl)) dX0_nameAtFirst_8 ⟨Nat.le_of_ble_eq_true rfl, Nat.le_of_ble_eq_true rfl⟩) (fun H locs hP hS => ?_)
    refine lv_goto (tgt := 15) hx hb dX0_nameAtFirst_11 (by decide) ?_
    exact W.lret hx hb hr (fun t ht hW => ⟨⟨_, (), rfl, (by unfold pn_nam0; (repeat' split) <;> first | rfl | contradiction | omega | grind), trivial⟩, hS.F ht⟩) hS.2.2 dX0_nameAtFirst_15 hlocks

theorem ih_X0_sitesThrough_X0 : ∀ w ∈ wsX00, w ∈ wsX0_sitesThrough := by decide +kernel
set_option maxHeartbeats 4000000 in
set_option maxRecDepth 100000 in
theorem c_X0_sitesThrough (l : Launch) (D : va_G) (cI cL cZ cO : ClassId) (h0 q1 q2 q3 q4 q5 q6 : Nat) (K Y P S O : Nat → Int32) (N : Nat → Int64) (n F : Nat) (i : Nat) (pa : Int32) (hd : Int32) (hn : n ≤ 30) (hi : i < n) : Met l yX0_sitesThrough wsX0_sitesThrough ({ frames := 0, cells := 0, slots := 0, locals := 0 }) (va_Pc [.ref h0, .int (nI i), .int pa, .int hd] (pn_Pr D cI cL cZ cO [(h0, .inr (0, [.ref q1, .ref q2, .ref q3, .ref q4, .ref q5, .ref q6, .int (nI n), .int (nI F)])), (q1, .inl (cI, 30, .inl K)), (q2, .inl (cI, 30, .inl Y)), (q3, .inl (cI, 30, .inl P)), (q4, .inl (cI, 30, .inl S)), (q5, .inl (cI, 30, .inl O)), (q6, .inl (cL, 30, .inr (.inl N)))])) (va_Qi (fun r (_ : Unit) => r = (pn_sitT P S O i pa hd)) (fun _ _ => True) pn_No) 0 0 pn_No := by
  refine pn_mk (by decide) rfl (Nat.le_of_ble_eq_true rfl) ?_
  intro p e s m below meth c ls hx hb hr hml hown hts hlocks hK hP hl
  have hown : s.vm.findClass RX0 = some m.cls := hown
  have hS : va_S pn_No s.heap s.heap [] := va_S.rf
  have hl : lv_has ls 4 [(0, .ref h0), (1, .int (nI i)), (2, .int pa), (3, .int hd)] := hl
  refine lv_iload_n hx hb dX0_sitesThrough_0 rfl (lv_at hl 1 rfl) ?_
  refine lv_if_lt (tgt := 12) hx hb dX0_sitesThrough_1 (by decide) (fun c_1 => ?_) (fun c_1 => ?_)
  · have c_1 : i < 0 := (pn_lt (by omega) (by omega)).mp (show nI i < nI 0 from c_1)
    omega
  · have c_1 : ¬ i < 0 := fun h => (show ¬ nI i < nI 0 from c_1) ((pn_lt (by omega) (by omega)).mpr h)
    refine lv_iload_n hx hb dX0_sitesThrough_4 rfl (lv_at hl 1 rfl) ?_
    refine lv_aload_n hx hb dX0_sitesThrough_5 rfl (lv_at hl 0 rfl) ?_
    refine va_get (D := D) (ci := 0) (v := .int (nI n)) (C := RX0) (T := TX0) (N := 8) hx hb hts ih_X0_sitesThrough_X0 hown hK.1 hP 0 rfl rfl 6 (by decide) (hts (.fieldLink RX0 31 "ParishNames$Chronicle" "told" "I") (by decide +kernel)) (fun _ h9 => h9) rfl dX0_sitesThrough_6 ?_
    refine lv_icmp_lt (tgt := 14) hx hb dX0_sitesThrough_9 (by decide) (fun c_2 => ?_) (fun c_2 => ?_)
    · have c_2 : i < n := (pn_lt (by omega) (by omega)).mp (show nI i < nI n from c_2)
      refine lv_aload_n hx hb dX0_sitesThrough_14 rfl (lv_at hl 0 rfl) ?_
      refine va_get (D := D) (ci := 0) (v := .ref q3) (C := RX0) (T := TX0) (N := 8) hx hb hts ih_X0_sitesThrough_X0 hown hK.1 hP 0 rfl rfl 2 (by decide) (hts (.fieldLink RX0 18 "ParishNames$Chronicle" "parishes" "[I") (by decide +kernel)) (fun _ h9 => h9) rfl dX0_sitesThrough_15 ?_
      refine lv_iload_n hx hb dX0_sitesThrough_18 rfl (lv_at hl 1 rfl) ?_
      refine pn_iald hx hb hK.1 hP 3 0 rfl rfl (i := i) (by omega) (Nat.le_of_ble_eq_true rfl) dX0_sitesThrough_19 ?_
      refine lv_iload_n hx hb dX0_sitesThrough_20 rfl (lv_at hl 2 rfl) ?_
      refine lv_icmp_ne (tgt := 35) hx hb dX0_sitesThrough_21 (by decide) (fun c_3 => ?_) (fun c_3 => ?_)
      · refine lv_aload_n hx hb dX0_sitesThrough_35 rfl (lv_at hl 0 rfl) ?_
        refine va_get (D := D) (ci := 0) (v := .ref q5) (C := RX0) (T := TX0) (N := 8) hx hb hts ih_X0_sitesThrough_X0 hown hK.1 hP 0 rfl rfl 4 (by decide) (hts (.fieldLink RX0 24 "ParishNames$Chronicle" "owners" "[I") (by decide +kernel)) (fun _ h9 => h9) rfl dX0_sitesThrough_36 ?_
        refine lv_iload_n hx hb dX0_sitesThrough_39 rfl (lv_at hl 1 rfl) ?_
        refine pn_iald hx hb hK.1 hP 5 0 rfl rfl (i := i) (by omega) (Nat.le_of_ble_eq_true rfl) dX0_sitesThrough_40 ?_
        refine lv_iload_n hx hb dX0_sitesThrough_41 rfl (lv_at hl 2 rfl) ?_
        refine lv_icmp_ne (tgt := 56) hx hb dX0_sitesThrough_42 (by decide) (fun c_4 => ?_) (fun c_4 => ?_)
        · refine lv_iload_n hx hb dX0_sitesThrough_56 rfl (lv_at hl 3 rfl) ?_
          exact W.iret hx hb hr (fun t ht hW => ⟨⟨_, (), rfl, (by unfold pn_sitT; (repeat' split) <;> first | rfl | contradiction | omega | grind), trivial⟩, hS.F ht⟩) hS.2.2 dX0_sitesThrough_57 hlocks
        · refine lv_iload_n hx hb dX0_sitesThrough_45 rfl (lv_at hl 3 rfl) ?_
          refine lv_aload_n hx hb dX0_sitesThrough_46 rfl (lv_at hl 0 rfl) ?_
          refine va_get (D := D) (ci := 0) (v := .ref q4) (C := RX0) (T := TX0) (N := 8) hx hb hts ih_X0_sitesThrough_X0 hown hK.1 hP 0 rfl rfl 3 (by decide) (hts (.fieldLink RX0 21 "ParishNames$Chronicle" "sets" "[I") (by decide +kernel)) (fun _ h9 => h9) rfl dX0_sitesThrough_47 ?_
          refine lv_iload_n hx hb dX0_sitesThrough_50 rfl (lv_at hl 1 rfl) ?_
          refine pn_iald hx hb hK.1 hP 4 0 rfl rfl (i := i) (by omega) (Nat.le_of_ble_eq_true rfl) dX0_sitesThrough_51 ?_
          refine lv_ior hx hb dX0_sitesThrough_52 ?_
          refine lv_goto (tgt := 57) hx hb dX0_sitesThrough_53 (by decide) ?_
          exact W.iret hx hb hr (fun t ht hW => ⟨⟨_, (), rfl, (by unfold pn_sitT; (repeat' split) <;> first | rfl | contradiction | omega | grind), trivial⟩, hS.F ht⟩) hS.2.2 dX0_sitesThrough_57 hlocks
      · refine lv_iload_n hx hb dX0_sitesThrough_24 rfl (lv_at hl 3 rfl) ?_
        refine lv_aload_n hx hb dX0_sitesThrough_25 rfl (lv_at hl 0 rfl) ?_
        refine va_get (D := D) (ci := 0) (v := .ref q4) (C := RX0) (T := TX0) (N := 8) hx hb hts ih_X0_sitesThrough_X0 hown hK.1 hP 0 rfl rfl 3 (by decide) (hts (.fieldLink RX0 21 "ParishNames$Chronicle" "sets" "[I") (by decide +kernel)) (fun _ h9 => h9) rfl dX0_sitesThrough_26 ?_
        refine lv_iload_n hx hb dX0_sitesThrough_29 rfl (lv_at hl 1 rfl) ?_
        refine pn_iald hx hb hK.1 hP 4 0 rfl rfl (i := i) (by omega) (Nat.le_of_ble_eq_true rfl) dX0_sitesThrough_30 ?_
        refine lv_iconst (v := (-1)) hx hb dX0_sitesThrough_31 (by decide) ?_
        refine lv_ixor hx hb dX0_sitesThrough_32 ?_
        refine lv_iand hx hb dX0_sitesThrough_33 ?_
        exact W.iret hx hb hr (fun t ht hW => ⟨⟨_, (), rfl, (by unfold pn_sitT; (repeat' split) <;> first | rfl | contradiction | omega | grind), trivial⟩, hS.F ht⟩) hS.2.2 dX0_sitesThrough_34 hlocks
    · have c_2 : ¬ i < n := fun h => (show ¬ nI i < nI n from c_2) ((pn_lt (by omega) (by omega)).mpr h)
      omega

theorem ih_X0_nameThrough_X0 : ∀ w ∈ wsX00, w ∈ wsX0_nameThrough := by decide +kernel
set_option maxHeartbeats 4000000 in
set_option maxRecDepth 100000 in
theorem c_X0_nameThrough (l : Launch) (D : va_G) (cI cL cZ cO : ClassId) (h0 q1 q2 q3 q4 q5 q6 : Nat) (K Y P S O : Nat → Int32) (N : Nat → Int64) (n F : Nat) (i : Nat) (pa : Int32) (nm : Int64) (hn : n ≤ 30) (hi : i < n) : Met l yX0_nameThrough wsX0_nameThrough ({ frames := 0, cells := 0, slots := 0, locals := 0 }) (va_Pc [.ref h0, .int (nI i), .int pa, .long nm] (pn_Pr D cI cL cZ cO [(h0, .inr (0, [.ref q1, .ref q2, .ref q3, .ref q4, .ref q5, .ref q6, .int (nI n), .int (nI F)])), (q1, .inl (cI, 30, .inl K)), (q2, .inl (cI, 30, .inl Y)), (q3, .inl (cI, 30, .inl P)), (q4, .inl (cI, 30, .inl S)), (q5, .inl (cI, 30, .inl O)), (q6, .inl (cL, 30, .inr (.inl N)))])) (va_Ql (fun r (_ : Unit) => r = (pn_namT K P O N i pa nm)) (fun _ _ => True) pn_No) 0 0 pn_No := by
  refine pn_mk (by decide) rfl (Nat.le_of_ble_eq_true rfl) ?_
  intro p e s m below meth c ls hx hb hr hml hown hts hlocks hK hP hl
  have hown : s.vm.findClass RX0 = some m.cls := hown
  have hS : va_S pn_No s.heap s.heap [] := va_S.rf
  have hl : lv_has ls 5 [(0, .ref h0), (1, .int (nI i)), (2, .int pa), (3, .long nm)] := hl
  refine lv_iload_n hx hb dX0_nameThrough_0 rfl (lv_at hl 1 rfl) ?_
  refine lv_if_lt (tgt := 12) hx hb dX0_nameThrough_1 (by decide) (fun c_1 => ?_) (fun c_1 => ?_)
  · have c_1 : i < 0 := (pn_lt (by omega) (by omega)).mp (show nI i < nI 0 from c_1)
    omega
  · have c_1 : ¬ i < 0 := fun h => (show ¬ nI i < nI 0 from c_1) ((pn_lt (by omega) (by omega)).mpr h)
    refine lv_iload_n hx hb dX0_nameThrough_4 rfl (lv_at hl 1 rfl) ?_
    refine lv_aload_n hx hb dX0_nameThrough_5 rfl (lv_at hl 0 rfl) ?_
    refine va_get (D := D) (ci := 0) (v := .int (nI n)) (C := RX0) (T := TX0) (N := 8) hx hb hts ih_X0_nameThrough_X0 hown hK.1 hP 0 rfl rfl 6 (by decide) (hts (.fieldLink RX0 31 "ParishNames$Chronicle" "told" "I") (by decide +kernel)) (fun _ h9 => h9) rfl dX0_nameThrough_6 ?_
    refine lv_icmp_lt (tgt := 14) hx hb dX0_nameThrough_9 (by decide) (fun c_2 => ?_) (fun c_2 => ?_)
    · have c_2 : i < n := (pn_lt (by omega) (by omega)).mp (show nI i < nI n from c_2)
      refine lv_aload_n hx hb dX0_nameThrough_14 rfl (lv_at hl 0 rfl) ?_
      refine va_get (D := D) (ci := 0) (v := .ref q1) (C := RX0) (T := TX0) (N := 8) hx hb hts ih_X0_nameThrough_X0 hown hK.1 hP 0 rfl rfl 0 (by decide) (hts (.fieldLink RX0 9 "ParishNames$Chronicle" "kinds" "[I") (by decide +kernel)) (fun _ h9 => h9) rfl dX0_nameThrough_15 ?_
      refine lv_iload_n hx hb dX0_nameThrough_18 rfl (lv_at hl 1 rfl) ?_
      refine pn_iald hx hb hK.1 hP 1 0 rfl rfl (i := i) (by omega) (Nat.le_of_ble_eq_true rfl) dX0_nameThrough_19 ?_
      refine lv_if_ne (tgt := 40) hx hb dX0_nameThrough_20 (by decide) (fun c_3 => ?_) (fun c_3 => ?_)
      · refine lv_aload_n hx hb dX0_nameThrough_40 rfl (lv_at hl 0 rfl) ?_
        refine va_get (D := D) (ci := 0) (v := .ref q1) (C := RX0) (T := TX0) (N := 8) hx hb hts ih_X0_nameThrough_X0 hown hK.1 hP 0 rfl rfl 0 (by decide) (hts (.fieldLink RX0 9 "ParishNames$Chronicle" "kinds" "[I") (by decide +kernel)) (fun _ h9 => h9) rfl dX0_nameThrough_41 ?_
        refine lv_iload_n hx hb dX0_nameThrough_44 rfl (lv_at hl 1 rfl) ?_
        refine pn_iald hx hb hK.1 hP 1 0 rfl rfl (i := i) (by omega) (Nat.le_of_ble_eq_true rfl) dX0_nameThrough_45 ?_
        refine lv_iconst (v := (nI 1)) hx hb dX0_nameThrough_46 (by decide) ?_
        refine lv_icmp_ne (tgt := 69) hx hb dX0_nameThrough_47 (by decide) (fun c_4 => ?_) (fun c_4 => ?_)
        · refine lv_lload_n hx hb dX0_nameThrough_69 rfl (lv_at hl 3 rfl) ?_
          exact W.lret hx hb hr (fun t ht hW => ⟨⟨_, (), rfl, (by unfold pn_namT; (repeat' split) <;> first | rfl | contradiction | omega | grind), trivial⟩, hS.F ht⟩) hS.2.2 dX0_nameThrough_70 hlocks
        · refine lv_aload_n hx hb dX0_nameThrough_50 rfl (lv_at hl 0 rfl) ?_
          refine va_get (D := D) (ci := 0) (v := .ref q5) (C := RX0) (T := TX0) (N := 8) hx hb hts ih_X0_nameThrough_X0 hown hK.1 hP 0 rfl rfl 4 (by decide) (hts (.fieldLink RX0 24 "ParishNames$Chronicle" "owners" "[I") (by decide +kernel)) (fun _ h9 => h9) rfl dX0_nameThrough_51 ?_
          refine lv_iload_n hx hb dX0_nameThrough_54 rfl (lv_at hl 1 rfl) ?_
          refine pn_iald hx hb hK.1 hP 5 0 rfl rfl (i := i) (by omega) (Nat.le_of_ble_eq_true rfl) dX0_nameThrough_55 ?_
          refine lv_iload_n hx hb dX0_nameThrough_56 rfl (lv_at hl 2 rfl) ?_
          refine lv_icmp_ne (tgt := 69) hx hb dX0_nameThrough_57 (by decide) (fun c_5 => ?_) (fun c_5 => ?_)
          · refine lv_lload_n hx hb dX0_nameThrough_69 rfl (lv_at hl 3 rfl) ?_
            exact W.lret hx hb hr (fun t ht hW => ⟨⟨_, (), rfl, (by unfold pn_namT; (repeat' split) <;> first | rfl | contradiction | omega | grind), trivial⟩, hS.F ht⟩) hS.2.2 dX0_nameThrough_70 hlocks
          · refine lv_aload_n hx hb dX0_nameThrough_60 rfl (lv_at hl 0 rfl) ?_
            refine va_get (D := D) (ci := 0) (v := .ref q6) (C := RX0) (T := TX0) (N := 8) hx hb hts ih_X0_nameThrough_X0 hown hK.1 hP 0 rfl rfl 5 (by decide) (hts (.fieldLink RX0 27 "ParishNames$Chronicle" "names" "[J") (by decide +kernel)) (fun _ h9 => h9) rfl dX0_nameThrough_61 ?_
            refine lv_iload_n hx hb dX0_nameThrough_64 rfl (lv_at hl 1 rfl) ?_
            refine pn_lald hx hb hK.1 hP 6 1 rfl rfl (i := i) (by omega) (Nat.le_of_ble_eq_true rfl) dX0_nameThrough_65 ?_
            refine lv_goto (tgt := 70) hx hb dX0_nameThrough_66 (by decide) ?_
            exact W.lret hx hb hr (fun t ht hW => ⟨⟨_, (), rfl, (by unfold pn_namT; (repeat' split) <;> first | rfl | contradiction | omega | grind), trivial⟩, hS.F ht⟩) hS.2.2 dX0_nameThrough_70 hlocks
      · refine lv_aload_n hx hb dX0_nameThrough_23 rfl (lv_at hl 0 rfl) ?_
        refine va_get (D := D) (ci := 0) (v := .ref q3) (C := RX0) (T := TX0) (N := 8) hx hb hts ih_X0_nameThrough_X0 hown hK.1 hP 0 rfl rfl 2 (by decide) (hts (.fieldLink RX0 18 "ParishNames$Chronicle" "parishes" "[I") (by decide +kernel)) (fun _ h9 => h9) rfl dX0_nameThrough_24 ?_
        refine lv_iload_n hx hb dX0_nameThrough_27 rfl (lv_at hl 1 rfl) ?_
        refine pn_iald hx hb hK.1 hP 3 0 rfl rfl (i := i) (by omega) (Nat.le_of_ble_eq_true rfl) dX0_nameThrough_28 ?_
        refine lv_iload_n hx hb dX0_nameThrough_29 rfl (lv_at hl 2 rfl) ?_
        refine lv_icmp_ne (tgt := 40) hx hb dX0_nameThrough_30 (by decide) (fun c_6 => ?_) (fun c_6 => ?_)
        · refine lv_aload_n hx hb dX0_nameThrough_40 rfl (lv_at hl 0 rfl) ?_
          refine va_get (D := D) (ci := 0) (v := .ref q1) (C := RX0) (T := TX0) (N := 8) hx hb hts ih_X0_nameThrough_X0 hown hK.1 hP 0 rfl rfl 0 (by decide) (hts (.fieldLink RX0 9 "ParishNames$Chronicle" "kinds" "[I") (by decide +kernel)) (fun _ h9 => h9) rfl dX0_nameThrough_41 ?_
          refine lv_iload_n hx hb dX0_nameThrough_44 rfl (lv_at hl 1 rfl) ?_
          refine pn_iald hx hb hK.1 hP 1 0 rfl rfl (i := i) (by omega) (Nat.le_of_ble_eq_true rfl) dX0_nameThrough_45 ?_
          refine lv_iconst (v := (nI 1)) hx hb dX0_nameThrough_46 (by decide) ?_
          refine lv_icmp_ne (tgt := 69) hx hb dX0_nameThrough_47 (by decide) (fun c_7 => ?_) (fun c_7 => ?_)
          · refine lv_lload_n hx hb dX0_nameThrough_69 rfl (lv_at hl 3 rfl) ?_
            exact W.lret hx hb hr (fun t ht hW => ⟨⟨_, (), rfl, (by unfold pn_namT; (repeat' split) <;> first | rfl | contradiction | omega | grind), trivial⟩, hS.F ht⟩) hS.2.2 dX0_nameThrough_70 hlocks
          · refine lv_aload_n hx hb dX0_nameThrough_50 rfl (lv_at hl 0 rfl) ?_
            refine va_get (D := D) (ci := 0) (v := .ref q5) (C := RX0) (T := TX0) (N := 8) hx hb hts ih_X0_nameThrough_X0 hown hK.1 hP 0 rfl rfl 4 (by decide) (hts (.fieldLink RX0 24 "ParishNames$Chronicle" "owners" "[I") (by decide +kernel)) (fun _ h9 => h9) rfl dX0_nameThrough_51 ?_
            refine lv_iload_n hx hb dX0_nameThrough_54 rfl (lv_at hl 1 rfl) ?_
            refine pn_iald hx hb hK.1 hP 5 0 rfl rfl (i := i) (by omega) (Nat.le_of_ble_eq_true rfl) dX0_nameThrough_55 ?_
            refine lv_iload_n hx hb dX0_nameThrough_56 rfl (lv_at hl 2 rfl) ?_
            refine lv_icmp_ne (tgt := 69) hx hb dX0_nameThrough_57 (by decide) (fun c_8 => ?_) (fun c_8 => ?_)
            · refine lv_lload_n hx hb dX0_nameThrough_69 rfl (lv_at hl 3 rfl) ?_
              exact W.lret hx hb hr (fun t ht hW => ⟨⟨_, (), rfl, (by unfold pn_namT; (repeat' split) <;> first | rfl | contradiction | omega | grind), trivial⟩, hS.F ht⟩) hS.2.2 dX0_nameThrough_70 hlocks
            · refine lv_aload_n hx hb dX0_nameThrough_60 rfl (lv_at hl 0 rfl) ?_
              refine va_get (D := D) (ci := 0) (v := .ref q6) (C := RX0) (T := TX0) (N := 8) hx hb hts ih_X0_nameThrough_X0 hown hK.1 hP 0 rfl rfl 5 (by decide) (hts (.fieldLink RX0 27 "ParishNames$Chronicle" "names" "[J") (by decide +kernel)) (fun _ h9 => h9) rfl dX0_nameThrough_61 ?_
              refine lv_iload_n hx hb dX0_nameThrough_64 rfl (lv_at hl 1 rfl) ?_
              refine pn_lald hx hb hK.1 hP 6 1 rfl rfl (i := i) (by omega) (Nat.le_of_ble_eq_true rfl) dX0_nameThrough_65 ?_
              refine lv_goto (tgt := 70) hx hb dX0_nameThrough_66 (by decide) ?_
              exact W.lret hx hb hr (fun t ht hW => ⟨⟨_, (), rfl, (by unfold pn_namT; (repeat' split) <;> first | rfl | contradiction | omega | grind), trivial⟩, hS.F ht⟩) hS.2.2 dX0_nameThrough_70 hlocks
        · refine lv_aload_n hx hb dX0_nameThrough_33 rfl (lv_at hl 0 rfl) ?_
          refine va_get (D := D) (ci := 0) (v := .ref q6) (C := RX0) (T := TX0) (N := 8) hx hb hts ih_X0_nameThrough_X0 hown hK.1 hP 0 rfl rfl 5 (by decide) (hts (.fieldLink RX0 27 "ParishNames$Chronicle" "names" "[J") (by decide +kernel)) (fun _ h9 => h9) rfl dX0_nameThrough_34 ?_
          refine lv_iload_n hx hb dX0_nameThrough_37 rfl (lv_at hl 1 rfl) ?_
          refine pn_lald hx hb hK.1 hP 6 1 rfl rfl (i := i) (by omega) (Nat.le_of_ble_eq_true rfl) dX0_nameThrough_38 ?_
          exact W.lret hx hb hr (fun t ht hW => ⟨⟨_, (), rfl, (by unfold pn_namT; (repeat' split) <;> first | rfl | contradiction | omega | grind), trivial⟩, hS.F ht⟩) hS.2.2 dX0_nameThrough_39 hlocks
    · have c_2 : ¬ i < n := fun h => (show ¬ nI i < nI n from c_2) ((pn_lt (by omega) (by omega)).mpr h)
      omega

theorem ih_X0_sitesBehind_X0 : ∀ w ∈ wsX00, w ∈ wsX0_sitesBehind := by decide +kernel
set_option maxHeartbeats 4000000 in
set_option maxRecDepth 100000 in
theorem c_X0_sitesBehind (l : Launch) (D : va_G) (cI cL cZ cO : ClassId) (h0 q1 q2 q3 q4 q5 q6 : Nat) (K Y P S O : Nat → Int32) (N : Nat → Int64) (n F : Nat) (pa : Int32) (g : Nat) (hn : n ≤ 30) (hg : g ≤ n) : Met l yX0_sitesBehind wsX0_sitesBehind ({ frames := 1, cells := 0, slots := 0, locals := 23 }) (va_Pc [.ref h0, .int pa, .int (nI g)] (pn_Pr D cI cL cZ cO [(h0, .inr (0, [.ref q1, .ref q2, .ref q3, .ref q4, .ref q5, .ref q6, .int (nI n), .int (nI F)])), (q1, .inl (cI, 30, .inl K)), (q2, .inl (cI, 30, .inl Y)), (q3, .inl (cI, 30, .inl P)), (q4, .inl (cI, 30, .inl S)), (q5, .inl (cI, 30, .inl O)), (q6, .inl (cL, 30, .inr (.inl N)))])) (va_Qi (fun r (_ : Unit) => r = (pn_sit P S O pa g)) (fun _ _ => True) pn_No) 0 0 pn_No := by
  refine pn_mk (by decide) rfl (Nat.le_of_ble_eq_true rfl) ?_
  intro p e s m below meth c ls hx hb hr hml hown hts hlocks hK hP hl
  have hown : s.vm.findClass RX0 = some m.cls := hown
  have hS : va_S pn_No s.heap s.heap [] := va_S.rf
  have hl : lv_has ls 5 [(0, .ref h0), (1, .int pa), (2, .int (nI g))] := hl
  refine lv_iload_n hx hb dX0_sitesBehind_0 rfl (lv_at hl 1 rfl) ?_
  refine pn_roi (w := [(h0, .inr (0, [.ref q1, .ref q2, .ref q3, .ref q4, .ref q5, .ref q6, .int (nI n), .int (nI F)])), (q1, .inl (cI, 30, .inl K)), (q2, .inl (cI, 30, .inl Y)), (q3, .inl (cI, 30, .inl P)), (q4, .inl (cI, 30, .inl S)), (q5, .inl (cI, 30, .inl O)), (q6, .inl (cL, 30, .inr (.inl N)))]) hP hS (va_runS (As := [.int pa]) (rest := []) ⟨hx, hb, hml, hown, hts⟩ (c_X0_sitesAtFirst l D cI cL cZ cO pa) (va_cwS 1 hts gX0_sitesBehind_X0_sitesAtFirst rfl rfl rfl (by decide +kernel) ⟨Nat.le_of_ble_eq_true rfl, Nat.le_of_ble_eq_true rfl⟩) (pn_ps (WS := []) (fun k q h => by simp at h) hK) rfl rfl hl.1 rfl (lv_room (Nat.le_of_ble_eq_true rfl)) dX0_sitesBehind_1 ⟨Nat.le_of_ble_eq_true rfl, Nat.le_of_ble_eq_true rfl⟩) (fun H locs hP hS => ?_)
  refine lv_istore_n (lv' := [(3, .int (pn_sit0 pa)), (0, .ref h0), (1, .int pa), (2, .int (nI g))]) hx hb dX0_sitesBehind_4 rfl hl (by decide) rfl (fun ls hl => ?_)
  refine lv_iconst (v := (nI 0)) hx hb dX0_sitesBehind_5 (by decide) ?_
  refine lv_istore (lv' := [(4, .int (nI 0)), (3, .int (pn_sit0 pa)), (0, .ref h0), (1, .int pa), (2, .int (nI g))]) hx hb dX0_sitesBehind_6 hl (by decide) rfl (fun ls hl => ?_)
  have lp8_1 : ∀ (fu : Nat) (k : Nat) (hd : Int32), g - k < fu → (k ≤ g) → (hd = pn_sit P S O pa k) → ∀ (H : Heap) (locs : List Loc) (ls : Array Slot), va_P D vwCl [(h0, .inr (0, [.ref q1, .ref q2, .ref q3, .ref q4, .ref q5, .ref q6, .int (nI n), .int (nI F)])), (q1, .inl (cI, 30, .inl K)), (q2, .inl (cI, 30, .inl Y)), (q3, .inl (cI, 30, .inl P)), (q4, .inl (cI, 30, .inl S)), (q5, .inl (cI, 30, .inl O)), (q6, .inl (cL, 30, .inr (.inl N)))] H → va_S pn_No s.heap H locs → lv_has ls 5 [(0, .ref h0), (1, .int pa), (2, .int (nI g)), (3, .int hd), (4, .int (nI k))] → W p l e ({ frames := 1, cells := 0, slots := 0, locals := 23 }) s m (List.toArray [.ref h0, .int pa, .int (nI g)]) below meth c H locs 0 0 (MQ below (va_Qi (fun r (_ : Unit) => r = (pn_sit P S O pa g)) (fun _ _ => True) pn_No) (List.toArray [.ref h0, .int pa, .int (nI g)]) s 0 0 pn_No) (F0 m 8 ls []) := by
    intro fu
    induction fu with
    | zero => intro k hd hfu; exact absurd hfu (Nat.not_lt_zero _)
    | succ fu ih8_1 =>
      intro k hd hfu hk e1 H locs ls hP hS hl
      refine lv_iload hx hb dX0_sitesBehind_8 (lv_at hl 4 rfl) ?_
      refine lv_iload_n hx hb dX0_sitesBehind_10 rfl (lv_at hl 2 rfl) ?_
      refine lv_icmp_ge (tgt := 38) hx hb dX0_sitesBehind_11 (by decide) (fun c_2 => ?_) (fun c_2 => ?_)
      · have c_2 : g ≤ k := (pn_le (by omega) (by omega)).mp (show nI g ≤ nI k from c_2)
        refine lv_iload_n hx hb dX0_sitesBehind_38 rfl (lv_at hl 3 rfl) ?_
        exact W.iret hx hb hr (fun t ht hW => ⟨⟨_, (), rfl, (by rw [e1, show k = g by omega]), trivial⟩, hS.F ht⟩) hS.2.2 dX0_sitesBehind_39 hlocks
      · have c_2 : ¬ g ≤ k := fun h => (show ¬ nI g ≤ nI k from c_2) ((pn_le (by omega) (by omega)).mpr h)
        refine lv_iload hx hb dX0_sitesBehind_14 (lv_at hl 4 rfl) ?_
        refine lv_aload_n hx hb dX0_sitesBehind_16 rfl (lv_at hl 0 rfl) ?_
        refine va_get (D := D) (ci := 0) (v := .int (nI n)) (C := RX0) (T := TX0) (N := 8) hx hb hts ih_X0_sitesBehind_X0 hown hK.1 hP 0 rfl rfl 6 (by decide) (hts (.fieldLink RX0 31 "ParishNames$Chronicle" "told" "I") (by decide +kernel)) (fun _ h9 => h9) rfl dX0_sitesBehind_17 ?_
        refine lv_icmp_ge (tgt := 38) hx hb dX0_sitesBehind_20 (by decide) (fun c_3 => ?_) (fun c_3 => ?_)
        · have c_3 : n ≤ k := (pn_le (by omega) (by omega)).mp (show nI n ≤ nI k from c_3)
          omega
        · have c_3 : ¬ n ≤ k := fun h => (show ¬ nI n ≤ nI k from c_3) ((pn_le (by omega) (by omega)).mpr h)
          refine lv_aload_n hx hb dX0_sitesBehind_23 rfl (lv_at hl 0 rfl) ?_
          refine lv_iload hx hb dX0_sitesBehind_24 (lv_at hl 4 rfl) ?_
          refine lv_iload_n hx hb dX0_sitesBehind_26 rfl (lv_at hl 1 rfl) ?_
          refine lv_iload_n hx hb dX0_sitesBehind_27 rfl (lv_at hl 3 rfl) ?_
          refine pn_roi (w := [(h0, .inr (0, [.ref q1, .ref q2, .ref q3, .ref q4, .ref q5, .ref q6, .int (nI n), .int (nI F)])), (q1, .inl (cI, 30, .inl K)), (q2, .inl (cI, 30, .inl Y)), (q3, .inl (cI, 30, .inl P)), (q4, .inl (cI, 30, .inl S)), (q5, .inl (cI, 30, .inl O)), (q6, .inl (cL, 30, .inr (.inl N)))]) hP hS (va_runV (As := [.int (nI k), .int pa, .int hd]) (rest := []) ⟨hx, hb, hml, hown, hts⟩ (c_X0_sitesThrough l D cI cL cZ cO h0 q1 q2 q3 q4 q5 q6 K Y P S O N n F k pa hd (by first | assumption | omega | grind | simp_all) (by first | assumption | omega | grind | simp_all)) (cwV 3 hts gX0_sitesBehind_X0_sitesThrough rfl rfl rfl (by decide +kernel) ⟨Nat.le_of_ble_eq_true rfl, Nat.le_of_ble_eq_true rfl⟩) (pn_pv hP hK (q0 := 0) rfl rfl) rfl rfl hl.1 rfl (lv_room (Nat.le_of_ble_eq_true rfl)) dX0_sitesBehind_28 ⟨Nat.le_of_ble_eq_true rfl, Nat.le_of_ble_eq_true rfl⟩) (fun H locs hP hS => ?_)
          refine lv_istore_n (lv' := [(3, .int (pn_sitT P S O k pa hd)), (0, .ref h0), (1, .int pa), (2, .int (nI g)), (4, .int (nI k))]) hx hb dX0_sitesBehind_31 rfl hl (by decide) rfl (fun ls hl => ?_)
          refine lv_iinc (v := (nI (k + 1))) (lv' := [(4, .int (nI (k + 1))), (3, .int (pn_sitT P S O k pa hd)), (0, .ref h0), (1, .int pa), (2, .int (nI g))]) hx hb dX0_sitesBehind_32 hl (k := 4) rfl (nI_add k 1) (by decide) rfl (fun ls hl => ?_)
          refine lv_goto (tgt := 8) hx hb dX0_sitesBehind_35 (by decide) ?_
          exact ih8_1 (k + 1) (pn_sitT P S O k pa hd) (by omega) (by first | assumption | omega | grind | simp_all) (by rw [e1]; rfl) _ _ _ hP hS (lv_sub hl [2, 3, 4, 1, 0] rfl)
  exact lp8_1 ((g - 0) + 1) 0 (pn_sit0 pa) (Nat.lt_succ_self _) (by first | assumption | omega | grind | simp_all) rfl _ _ _ hP hS (lv_sub hl [2, 3, 4, 1, 0] rfl)

theorem ih_X0_nameBehind_X0 : ∀ w ∈ wsX00, w ∈ wsX0_nameBehind := by decide +kernel
set_option maxHeartbeats 4000000 in
set_option maxRecDepth 100000 in
theorem c_X0_nameBehind (l : Launch) (D : va_G) (cI cL cZ cO : ClassId) (h0 q1 q2 q3 q4 q5 q6 : Nat) (K Y P S O : Nat → Int32) (N : Nat → Int64) (n F : Nat) (pa : Int32) (g : Nat) (hn : n ≤ 30) (hg : g ≤ n) : Met l yX0_nameBehind wsX0_nameBehind ({ frames := 2, cells := 0, slots := 0, locals := 43 }) (va_Pc [.ref h0, .int pa, .int (nI g)] (pn_Pr D cI cL cZ cO [(h0, .inr (0, [.ref q1, .ref q2, .ref q3, .ref q4, .ref q5, .ref q6, .int (nI n), .int (nI F)])), (q1, .inl (cI, 30, .inl K)), (q2, .inl (cI, 30, .inl Y)), (q3, .inl (cI, 30, .inl P)), (q4, .inl (cI, 30, .inl S)), (q5, .inl (cI, 30, .inl O)), (q6, .inl (cL, 30, .inr (.inl N)))])) (va_Ql (fun r (_ : Unit) => r = (pn_nam K P O N pa g)) (fun _ _ => True) pn_No) 0 0 pn_No := by
  refine pn_mk (by decide) rfl (Nat.le_of_ble_eq_true rfl) ?_
  intro p e s m below meth c ls hx hb hr hml hown hts hlocks hK hP hl
  have hown : s.vm.findClass RX0 = some m.cls := hown
  have hS : va_S pn_No s.heap s.heap [] := va_S.rf
  have hl : lv_has ls 6 [(0, .ref h0), (1, .int pa), (2, .int (nI g))] := hl
  refine lv_iload_n hx hb dX0_nameBehind_0 rfl (lv_at hl 1 rfl) ?_
  refine pn_rol (w := [(h0, .inr (0, [.ref q1, .ref q2, .ref q3, .ref q4, .ref q5, .ref q6, .int (nI n), .int (nI F)])), (q1, .inl (cI, 30, .inl K)), (q2, .inl (cI, 30, .inl Y)), (q3, .inl (cI, 30, .inl P)), (q4, .inl (cI, 30, .inl S)), (q5, .inl (cI, 30, .inl O)), (q6, .inl (cL, 30, .inr (.inl N)))]) hP hS (va_runS (As := [.int pa]) (rest := []) ⟨hx, hb, hml, hown, hts⟩ (c_X0_nameAtFirst l D cI cL cZ cO pa) (va_cwS 1 hts gX0_nameBehind_X0_nameAtFirst rfl rfl rfl (by decide +kernel) ⟨Nat.le_of_ble_eq_true rfl, Nat.le_of_ble_eq_true rfl⟩) (pn_ps (WS := []) (fun k q h => by simp at h) hK) rfl rfl hl.1 rfl (lv_room (Nat.le_of_ble_eq_true rfl)) dX0_nameBehind_1 ⟨Nat.le_of_ble_eq_true rfl, Nat.le_of_ble_eq_true rfl⟩) (fun H locs hP hS => ?_)
  refine lv_lstore_n (lv' := [(3, .long (pn_nam0 pa)), (0, .ref h0), (1, .int pa), (2, .int (nI g))]) hx hb dX0_nameBehind_4 rfl hl (by decide) rfl (fun ls hl => ?_)
  refine lv_iconst (v := (nI 0)) hx hb dX0_nameBehind_5 (by decide) ?_
  refine lv_istore (lv' := [(5, .int (nI 0)), (3, .long (pn_nam0 pa)), (0, .ref h0), (1, .int pa), (2, .int (nI g))]) hx hb dX0_nameBehind_6 hl (by decide) rfl (fun ls hl => ?_)
  have lp8_1 : ∀ (fu : Nat) (k : Nat) (hd : Int64), g - k < fu → (k ≤ g) → (hd = pn_nam K P O N pa k) → ∀ (H : Heap) (locs : List Loc) (ls : Array Slot), va_P D vwCl [(h0, .inr (0, [.ref q1, .ref q2, .ref q3, .ref q4, .ref q5, .ref q6, .int (nI n), .int (nI F)])), (q1, .inl (cI, 30, .inl K)), (q2, .inl (cI, 30, .inl Y)), (q3, .inl (cI, 30, .inl P)), (q4, .inl (cI, 30, .inl S)), (q5, .inl (cI, 30, .inl O)), (q6, .inl (cL, 30, .inr (.inl N)))] H → va_S pn_No s.heap H locs → lv_has ls 6 [(0, .ref h0), (1, .int pa), (2, .int (nI g)), (3, .long hd), (5, .int (nI k))] → W p l e ({ frames := 2, cells := 0, slots := 0, locals := 43 }) s m (List.toArray [.ref h0, .int pa, .int (nI g)]) below meth c H locs 0 0 (MQ below (va_Ql (fun r (_ : Unit) => r = (pn_nam K P O N pa g)) (fun _ _ => True) pn_No) (List.toArray [.ref h0, .int pa, .int (nI g)]) s 0 0 pn_No) (F0 m 8 ls []) := by
    intro fu
    induction fu with
    | zero => intro k hd hfu; exact absurd hfu (Nat.not_lt_zero _)
    | succ fu ih8_1 =>
      intro k hd hfu hk e1 H locs ls hP hS hl
      refine lv_iload hx hb dX0_nameBehind_8 (lv_at hl 4 rfl) ?_
      refine lv_iload_n hx hb dX0_nameBehind_10 rfl (lv_at hl 2 rfl) ?_
      refine lv_icmp_ge (tgt := 38) hx hb dX0_nameBehind_11 (by decide) (fun c_2 => ?_) (fun c_2 => ?_)
      · have c_2 : g ≤ k := (pn_le (by omega) (by omega)).mp (show nI g ≤ nI k from c_2)
        refine lv_lload_n hx hb dX0_nameBehind_38 rfl (lv_at hl 3 rfl) ?_
        exact W.lret hx hb hr (fun t ht hW => ⟨⟨_, (), rfl, (by rw [e1, show k = g by omega]), trivial⟩, hS.F ht⟩) hS.2.2 dX0_nameBehind_39 hlocks
      · have c_2 : ¬ g ≤ k := fun h => (show ¬ nI g ≤ nI k from c_2) ((pn_le (by omega) (by omega)).mpr h)
        refine lv_iload hx hb dX0_nameBehind_14 (lv_at hl 4 rfl) ?_
        refine lv_aload_n hx hb dX0_nameBehind_16 rfl (lv_at hl 0 rfl) ?_
        refine va_get (D := D) (ci := 0) (v := .int (nI n)) (C := RX0) (T := TX0) (N := 8) hx hb hts ih_X0_nameBehind_X0 hown hK.1 hP 0 rfl rfl 6 (by decide) (hts (.fieldLink RX0 31 "ParishNames$Chronicle" "told" "I") (by decide +kernel)) (fun _ h9 => h9) rfl dX0_nameBehind_17 ?_
        refine lv_icmp_ge (tgt := 38) hx hb dX0_nameBehind_20 (by decide) (fun c_3 => ?_) (fun c_3 => ?_)
        · have c_3 : n ≤ k := (pn_le (by omega) (by omega)).mp (show nI n ≤ nI k from c_3)
          omega
        · have c_3 : ¬ n ≤ k := fun h => (show ¬ nI n ≤ nI k from c_3) ((pn_le (by omega) (by omega)).mpr h)
          refine lv_aload_n hx hb dX0_nameBehind_23 rfl (lv_at hl 0 rfl) ?_
          refine lv_iload hx hb dX0_nameBehind_24 (lv_at hl 4 rfl) ?_
          refine lv_iload_n hx hb dX0_nameBehind_26 rfl (lv_at hl 1 rfl) ?_
          refine lv_lload_n hx hb dX0_nameBehind_27 rfl (lv_at hl 3 rfl) ?_
          refine pn_rol (w := [(h0, .inr (0, [.ref q1, .ref q2, .ref q3, .ref q4, .ref q5, .ref q6, .int (nI n), .int (nI F)])), (q1, .inl (cI, 30, .inl K)), (q2, .inl (cI, 30, .inl Y)), (q3, .inl (cI, 30, .inl P)), (q4, .inl (cI, 30, .inl S)), (q5, .inl (cI, 30, .inl O)), (q6, .inl (cL, 30, .inr (.inl N)))]) hP hS (va_runV (As := [.int (nI k), .int pa, .long hd]) (rest := []) ⟨hx, hb, hml, hown, hts⟩ (c_X0_nameThrough l D cI cL cZ cO h0 q1 q2 q3 q4 q5 q6 K Y P S O N n F k pa hd (by first | assumption | omega | grind | simp_all) (by first | assumption | omega | grind | simp_all)) (cwV 3 hts gX0_nameBehind_X0_nameThrough rfl rfl rfl (by decide +kernel) ⟨Nat.le_of_ble_eq_true rfl, Nat.le_of_ble_eq_true rfl⟩) (pn_pv hP hK (q0 := 0) rfl rfl) rfl rfl hl.1 rfl (lv_room (Nat.le_of_ble_eq_true rfl)) dX0_nameBehind_28 ⟨Nat.le_of_ble_eq_true rfl, Nat.le_of_ble_eq_true rfl⟩) (fun H locs hP hS => ?_)
          refine lv_lstore_n (lv' := [(3, .long (pn_namT K P O N k pa hd)), (0, .ref h0), (1, .int pa), (2, .int (nI g)), (5, .int (nI k))]) hx hb dX0_nameBehind_31 rfl hl (by decide) rfl (fun ls hl => ?_)
          refine lv_iinc (v := (nI (k + 1))) (lv' := [(5, .int (nI (k + 1))), (3, .long (pn_namT K P O N k pa hd)), (0, .ref h0), (1, .int pa), (2, .int (nI g))]) hx hb dX0_nameBehind_32 hl (k := 4) rfl (nI_add k 1) (by decide) rfl (fun ls hl => ?_)
          refine lv_goto (tgt := 8) hx hb dX0_nameBehind_35 (by decide) ?_
          exact ih8_1 (k + 1) (pn_namT K P O N k pa hd) (by omega) (by first | assumption | omega | grind | simp_all) (by rw [e1]; rfl) _ _ _ hP hS (lv_sub hl [2, 3, 4, 1, 0] rfl)
  exact lp8_1 ((g - 0) + 1) 0 (pn_nam0 pa) (Nat.lt_succ_self _) (by first | assumption | omega | grind | simp_all) rfl _ _ _ hP hS (lv_sub hl [2, 3, 4, 1, 0] rfl)

set_option maxHeartbeats 4000000 in
set_option maxRecDepth 100000 in
theorem c_X2_has (l : Launch) (D : va_G) (cI cL cZ cO : ClassId)  (x : Int32) (k : Nat) : Met l yX2_has wsX2_has ({ frames := 0, cells := 0, slots := 0, locals := 0 }) (va_Pc [.int x, .int (nI k)] (pn_Pr D cI cL cZ cO [])) (va_Qi (fun r (_ : Unit) => r = (pn_b (¬ pn_bit x k = 0))) (fun _ _ => True) pn_No) 0 0 pn_No := by
  refine pn_mk (by decide) rfl (Nat.le_of_ble_eq_true rfl) ?_
  intro p e s m below meth c ls hx hb hr hml hown hts hlocks hK hP hl
  have hown : s.vm.findClass RX2 = some m.cls := hown
  have hS : va_S pn_No s.heap s.heap [] := va_S.rf
  have hl : lv_has ls 2 [(0, .int x), (1, .int (nI k))] := hl
  refine lv_iload_n hx hb dX2_has_0 rfl (lv_at hl 0 rfl) ?_
  refine lv_iload_n hx hb dX2_has_1 rfl (lv_at hl 1 rfl) ?_
  refine lv_iushr hx hb dX2_has_2 rfl ?_
  refine lv_iconst (v := (nI 1)) hx hb dX2_has_3 (by decide) ?_
  refine lv_iand hx hb dX2_has_4 ?_
  refine lv_if_eq (tgt := 12) hx hb dX2_has_5 (by decide) (fun c_1 => ?_) (fun c_1 => ?_)
  · refine lv_iconst (v := (nI 0)) hx hb dX2_has_12 (by decide) ?_
    exact W.zret hx hb hr (by decide) (fun t ht hW => ⟨⟨_, (), rfl, (by first | exact pn_bt (by assumption) | exact pn_bf (by simpa using (by assumption)) | exact pn_bf (fun h => h (by assumption))), trivial⟩, hS.F ht⟩) hS.2.2 dX2_has_13 hlocks
  · refine lv_iconst (v := (nI 1)) hx hb dX2_has_8 (by decide) ?_
    refine lv_goto (tgt := 13) hx hb dX2_has_9 (by decide) ?_
    exact W.zret hx hb hr (by decide) (fun t ht hW => ⟨⟨_, (), rfl, (by first | exact pn_bt (by assumption) | exact pn_bf (by simpa using (by assumption)) | exact pn_bf (fun h => h (by assumption))), trivial⟩, hS.F ht⟩) hS.2.2 dX2_has_13 hlocks

theorem ih_X0_ownerBehind_X0 : ∀ w ∈ wsX00, w ∈ wsX0_ownerBehind := by decide +kernel
set_option maxHeartbeats 4000000 in
set_option maxRecDepth 100000 in
theorem c_X0_ownerBehind (l : Launch) (D : va_G) (cI cL cZ cO : ClassId) (h0 q1 q2 q3 q4 q5 q6 : Nat) (K Y P S O : Nat → Int32) (N : Nat → Int64) (n F : Nat) (t : Nat) (g : Nat) (hn : n ≤ 30) (hg : g ≤ n) : Met l yX0_ownerBehind wsX0_ownerBehind ({ frames := 1, cells := 0, slots := 0, locals := 21 }) (va_Pc [.ref h0, .int (nI t), .int (nI g)] (pn_Pr D cI cL cZ cO [(h0, .inr (0, [.ref q1, .ref q2, .ref q3, .ref q4, .ref q5, .ref q6, .int (nI n), .int (nI F)])), (q1, .inl (cI, 30, .inl K)), (q2, .inl (cI, 30, .inl Y)), (q3, .inl (cI, 30, .inl P)), (q4, .inl (cI, 30, .inl S)), (q5, .inl (cI, 30, .inl O)), (q6, .inl (cL, 30, .inr (.inl N)))])) (va_Qi (fun r (_ : Unit) => r = (pn_own S O t g)) (fun _ _ => True) pn_No) 0 0 pn_No := by
  refine pn_mk (by decide) rfl (Nat.le_of_ble_eq_true rfl) ?_
  intro p e s m below meth c ls hx hb hr hml hown hts hlocks hK hP hl
  have hown : s.vm.findClass RX0 = some m.cls := hown
  have hS : va_S pn_No s.heap s.heap [] := va_S.rf
  have hl : lv_has ls 5 [(0, .ref h0), (1, .int (nI t)), (2, .int (nI g))] := hl
  refine lv_iconst (v := (nI 0)) hx hb dX0_ownerBehind_0 (by decide) ?_
  refine lv_istore_n (lv' := [(3, .int (nI 0)), (0, .ref h0), (1, .int (nI t)), (2, .int (nI g))]) hx hb dX0_ownerBehind_1 rfl hl (by decide) rfl (fun ls hl => ?_)
  refine lv_iconst (v := (nI 0)) hx hb dX0_ownerBehind_2 (by decide) ?_
  refine lv_istore (lv' := [(4, .int (nI 0)), (3, .int (nI 0)), (0, .ref h0), (1, .int (nI t)), (2, .int (nI g))]) hx hb dX0_ownerBehind_3 hl (by decide) rfl (fun ls hl => ?_)
  have lp5_1 : ∀ (fu : Nat) (k : Nat) (hd : Int32), g - k < fu → (k ≤ g) → (hd = pn_own S O t k) → ∀ (H : Heap) (locs : List Loc) (ls : Array Slot), va_P D vwCl [(h0, .inr (0, [.ref q1, .ref q2, .ref q3, .ref q4, .ref q5, .ref q6, .int (nI n), .int (nI F)])), (q1, .inl (cI, 30, .inl K)), (q2, .inl (cI, 30, .inl Y)), (q3, .inl (cI, 30, .inl P)), (q4, .inl (cI, 30, .inl S)), (q5, .inl (cI, 30, .inl O)), (q6, .inl (cL, 30, .inr (.inl N)))] H → va_S pn_No s.heap H locs → lv_has ls 5 [(0, .ref h0), (1, .int (nI t)), (2, .int (nI g)), (3, .int hd), (4, .int (nI k))] → W p l e ({ frames := 1, cells := 0, slots := 0, locals := 21 }) s m (List.toArray [.ref h0, .int (nI t), .int (nI g)]) below meth c H locs 0 0 (MQ below (va_Qi (fun r (_ : Unit) => r = (pn_own S O t g)) (fun _ _ => True) pn_No) (List.toArray [.ref h0, .int (nI t), .int (nI g)]) s 0 0 pn_No) (F0 m 5 ls []) := by
    intro fu
    induction fu with
    | zero => intro k hd hfu; exact absurd hfu (Nat.not_lt_zero _)
    | succ fu ih5_1 =>
      intro k hd hfu hk e1 H locs ls hP hS hl
      refine lv_iload hx hb dX0_ownerBehind_5 (lv_at hl 4 rfl) ?_
      refine lv_iload_n hx hb dX0_ownerBehind_7 rfl (lv_at hl 2 rfl) ?_
      refine lv_icmp_ge (tgt := 48) hx hb dX0_ownerBehind_8 (by decide) (fun c_2 => ?_) (fun c_2 => ?_)
      · have c_2 : g ≤ k := (pn_le (by omega) (by omega)).mp (show nI g ≤ nI k from c_2)
        refine lv_iload_n hx hb dX0_ownerBehind_48 rfl (lv_at hl 3 rfl) ?_
        exact W.iret hx hb hr (fun t ht hW => ⟨⟨_, (), rfl, (by rw [e1, show k = g by omega]), trivial⟩, hS.F ht⟩) hS.2.2 dX0_ownerBehind_49 hlocks
      · have c_2 : ¬ g ≤ k := fun h => (show ¬ nI g ≤ nI k from c_2) ((pn_le (by omega) (by omega)).mpr h)
        refine lv_iload hx hb dX0_ownerBehind_11 (lv_at hl 4 rfl) ?_
        refine lv_aload_n hx hb dX0_ownerBehind_13 rfl (lv_at hl 0 rfl) ?_
        refine va_get (D := D) (ci := 0) (v := .int (nI n)) (C := RX0) (T := TX0) (N := 8) hx hb hts ih_X0_ownerBehind_X0 hown hK.1 hP 0 rfl rfl 6 (by decide) (hts (.fieldLink RX0 31 "ParishNames$Chronicle" "told" "I") (by decide +kernel)) (fun _ h9 => h9) rfl dX0_ownerBehind_14 ?_
        refine lv_icmp_ge (tgt := 48) hx hb dX0_ownerBehind_17 (by decide) (fun c_3 => ?_) (fun c_3 => ?_)
        · have c_3 : n ≤ k := (pn_le (by omega) (by omega)).mp (show nI n ≤ nI k from c_3)
          omega
        · have c_3 : ¬ n ≤ k := fun h => (show ¬ nI n ≤ nI k from c_3) ((pn_le (by omega) (by omega)).mpr h)
          refine lv_aload_n hx hb dX0_ownerBehind_20 rfl (lv_at hl 0 rfl) ?_
          refine va_get (D := D) (ci := 0) (v := .ref q4) (C := RX0) (T := TX0) (N := 8) hx hb hts ih_X0_ownerBehind_X0 hown hK.1 hP 0 rfl rfl 3 (by decide) (hts (.fieldLink RX0 21 "ParishNames$Chronicle" "sets" "[I") (by decide +kernel)) (fun _ h9 => h9) rfl dX0_ownerBehind_21 ?_
          refine lv_iload hx hb dX0_ownerBehind_24 (lv_at hl 4 rfl) ?_
          refine pn_iald hx hb hK.1 hP 4 0 rfl rfl (i := k) (by omega) (Nat.le_of_ble_eq_true rfl) dX0_ownerBehind_26 ?_
          refine lv_iload_n hx hb dX0_ownerBehind_27 rfl (lv_at hl 1 rfl) ?_
          refine pn_roi (w := [(h0, .inr (0, [.ref q1, .ref q2, .ref q3, .ref q4, .ref q5, .ref q6, .int (nI n), .int (nI F)])), (q1, .inl (cI, 30, .inl K)), (q2, .inl (cI, 30, .inl Y)), (q3, .inl (cI, 30, .inl P)), (q4, .inl (cI, 30, .inl S)), (q5, .inl (cI, 30, .inl O)), (q6, .inl (cL, 30, .inr (.inl N)))]) hP hS (va_runSN (As := [.int (S k), .int (nI t)]) (rest := []) ⟨hx, hb, hml, hown, hts⟩ (c_X2_has l D cI cL cZ cO (S k) t) ⟨va_cnB 2 hts gX0_ownerBehind_X2_has_n76 rfl rfl rfl hK.2 (hts (.initialized RX2) (by decide +kernel)) (by decide +kernel) ⟨Nat.le_of_ble_eq_true rfl, Nat.le_of_ble_eq_true rfl⟩, hts (.static yX2_has) (by decide +kernel), trivial⟩ (pn_ps (WS := []) (fun k q h => by simp at h) hK) rfl rfl hl.1 rfl (lv_room (Nat.le_of_ble_eq_true rfl)) dX0_ownerBehind_28 ⟨Nat.le_of_ble_eq_true rfl, Nat.le_of_ble_eq_true rfl⟩) (fun H locs hP hS => ?_)
          refine lv_if_eq (tgt := 42) hx hb dX0_ownerBehind_31 (by decide) (fun c_4 => ?_) (fun c_4 => ?_)
          · have c_4 : ¬ (¬ pn_bit (S k) t = 0) := pn_b0.mp c_4
            refine lv_iinc (v := (nI (k + 1))) (lv' := [(4, .int (nI (k + 1))), (0, .ref h0), (1, .int (nI t)), (2, .int (nI g)), (3, .int hd)]) hx hb dX0_ownerBehind_42 hl (k := 4) rfl (nI_add k 1) (by decide) rfl (fun ls hl => ?_)
            refine lv_goto (tgt := 5) hx hb dX0_ownerBehind_45 (by decide) ?_
            exact ih5_1 (k + 1) hd (by omega) (by first | assumption | omega | grind | simp_all) (by rw [pn_own]; split <;> first | rfl | exact e1 | contradiction) _ _ _ hP hS (lv_sub hl [1, 2, 3, 4, 0] rfl)
          · have c_4 : ¬ pn_bit (S k) t = 0 := pn_b1.mp c_4
            refine lv_aload_n hx hb dX0_ownerBehind_34 rfl (lv_at hl 0 rfl) ?_
            refine va_get (D := D) (ci := 0) (v := .ref q5) (C := RX0) (T := TX0) (N := 8) hx hb hts ih_X0_ownerBehind_X0 hown hK.1 hP 0 rfl rfl 4 (by decide) (hts (.fieldLink RX0 24 "ParishNames$Chronicle" "owners" "[I") (by decide +kernel)) (fun _ h9 => h9) rfl dX0_ownerBehind_35 ?_
            refine lv_iload hx hb dX0_ownerBehind_38 (lv_at hl 4 rfl) ?_
            refine pn_iald hx hb hK.1 hP 5 0 rfl rfl (i := k) (by omega) (Nat.le_of_ble_eq_true rfl) dX0_ownerBehind_40 ?_
            refine lv_istore_n (lv' := [(3, .int (O k)), (0, .ref h0), (1, .int (nI t)), (2, .int (nI g)), (4, .int (nI k))]) hx hb dX0_ownerBehind_41 rfl hl (by decide) rfl (fun ls hl => ?_)
            refine lv_iinc (v := (nI (k + 1))) (lv' := [(4, .int (nI (k + 1))), (3, .int (O k)), (0, .ref h0), (1, .int (nI t)), (2, .int (nI g))]) hx hb dX0_ownerBehind_42 hl (k := 4) rfl (nI_add k 1) (by decide) rfl (fun ls hl => ?_)
            refine lv_goto (tgt := 5) hx hb dX0_ownerBehind_45 (by decide) ?_
            exact ih5_1 (k + 1) (O k) (by omega) (by first | assumption | omega | grind | simp_all) (by rw [pn_own]; split <;> first | rfl | exact e1 | contradiction) _ _ _ hP hS (lv_sub hl [2, 3, 4, 1, 0] rfl)
  exact lp5_1 ((g - 0) + 1) 0 (nI 0) (Nat.lt_succ_self _) (by first | assumption | omega | grind | simp_all) rfl _ _ _ hP hS (lv_sub hl [2, 3, 4, 1, 0] rfl)

theorem ih_X0_sitesNow_X0 : ∀ w ∈ wsX00, w ∈ wsX0_sitesNow := by decide +kernel
set_option maxHeartbeats 4000000 in
set_option maxRecDepth 100000 in
theorem c_X0_sitesNow (l : Launch) (D : va_G) (cI cL cZ cO : ClassId) (h0 q1 q2 q3 q4 q5 q6 : Nat) (K Y P S O : Nat → Int32) (N : Nat → Int64) (n F : Nat) (pa : Int32) (hn : n ≤ 30) : Met l yX0_sitesNow wsX0_sitesNow ({ frames := 2, cells := 0, slots := 0, locals := 47 }) (va_Pc [.ref h0, .int pa] (pn_Pr D cI cL cZ cO [(h0, .inr (0, [.ref q1, .ref q2, .ref q3, .ref q4, .ref q5, .ref q6, .int (nI n), .int (nI F)])), (q1, .inl (cI, 30, .inl K)), (q2, .inl (cI, 30, .inl Y)), (q3, .inl (cI, 30, .inl P)), (q4, .inl (cI, 30, .inl S)), (q5, .inl (cI, 30, .inl O)), (q6, .inl (cL, 30, .inr (.inl N)))])) (va_Qi (fun r (_ : Unit) => r = (pn_sit P S O pa n)) (fun _ _ => True) pn_No) 0 0 pn_No := by
  refine pn_mk (by decide) rfl (Nat.le_of_ble_eq_true rfl) ?_
  intro p e s m below meth c ls hx hb hr hml hown hts hlocks hK hP hl
  have hown : s.vm.findClass RX0 = some m.cls := hown
  have hS : va_S pn_No s.heap s.heap [] := va_S.rf
  have hl : lv_has ls 2 [(0, .ref h0), (1, .int pa)] := hl
  refine lv_aload_n hx hb dX0_sitesNow_0 rfl (lv_at hl 0 rfl) ?_
  refine lv_iload_n hx hb dX0_sitesNow_1 rfl (lv_at hl 1 rfl) ?_
  refine lv_aload_n hx hb dX0_sitesNow_2 rfl (lv_at hl 0 rfl) ?_
  refine va_get (D := D) (ci := 0) (v := .int (nI n)) (C := RX0) (T := TX0) (N := 8) hx hb hts ih_X0_sitesNow_X0 hown hK.1 hP 0 rfl rfl 6 (by decide) (hts (.fieldLink RX0 31 "ParishNames$Chronicle" "told" "I") (by decide +kernel)) (fun _ h9 => h9) rfl dX0_sitesNow_3 ?_
  refine pn_roi (w := [(h0, .inr (0, [.ref q1, .ref q2, .ref q3, .ref q4, .ref q5, .ref q6, .int (nI n), .int (nI F)])), (q1, .inl (cI, 30, .inl K)), (q2, .inl (cI, 30, .inl Y)), (q3, .inl (cI, 30, .inl P)), (q4, .inl (cI, 30, .inl S)), (q5, .inl (cI, 30, .inl O)), (q6, .inl (cL, 30, .inr (.inl N)))]) hP hS (va_runV (As := [.int pa, .int (nI n)]) (rest := []) ⟨hx, hb, hml, hown, hts⟩ (c_X0_sitesBehind l D cI cL cZ cO h0 q1 q2 q3 q4 q5 q6 K Y P S O N n F pa n (by first | assumption | omega | grind | simp_all) (by first | assumption | omega | grind | simp_all)) (cwV 2 hts gX0_sitesNow_X0_sitesBehind rfl rfl rfl (by decide +kernel) ⟨Nat.le_of_ble_eq_true rfl, Nat.le_of_ble_eq_true rfl⟩) (pn_pv hP hK (q0 := 0) rfl rfl) rfl rfl hl.1 rfl (lv_room (Nat.le_of_ble_eq_true rfl)) dX0_sitesNow_6 ⟨Nat.le_of_ble_eq_true rfl, Nat.le_of_ble_eq_true rfl⟩) (fun H locs hP hS => ?_)
  exact W.iret hx hb hr (fun t ht hW => ⟨⟨_, (), rfl, rfl, trivial⟩, hS.F ht⟩) hS.2.2 dX0_sitesNow_9 hlocks

set_option maxHeartbeats 4000000 in
set_option maxRecDepth 100000 in
theorem c_X0_nameIn (l : Launch) (D : va_G) (cI cL cZ cO : ClassId) (h0 q1 q2 q3 q4 q5 q6 : Nat) (K Y P S O : Nat → Int32) (N : Nat → Int64) (n F : Nat) (pa : Int32) (yr : Int32) (hn : n ≤ 30) : Met l yX0_nameIn wsX0_nameIn ({ frames := 3, cells := 0, slots := 0, locals := 68 }) (va_Pc [.ref h0, .int pa, .int yr] (pn_Pr D cI cL cZ cO [(h0, .inr (0, [.ref q1, .ref q2, .ref q3, .ref q4, .ref q5, .ref q6, .int (nI n), .int (nI F)])), (q1, .inl (cI, 30, .inl K)), (q2, .inl (cI, 30, .inl Y)), (q3, .inl (cI, 30, .inl P)), (q4, .inl (cI, 30, .inl S)), (q5, .inl (cI, 30, .inl O)), (q6, .inl (cL, 30, .inr (.inl N)))])) (va_Ql (fun r (_ : Unit) => r = (pn_nin K Y P S O N n pa yr)) (fun _ _ => True) pn_No) 0 0 pn_No := by
  refine pn_mk (by decide) rfl (Nat.le_of_ble_eq_true rfl) ?_
  intro p e s m below meth c ls hx hb hr hml hown hts hlocks hK hP hl
  have hown : s.vm.findClass RX0 = some m.cls := hown
  have hS : va_S pn_No s.heap s.heap [] := va_S.rf
  have hl : lv_has ls 4 [(0, .ref h0), (1, .int pa), (2, .int yr)] := hl
  have hst := pn_st_le Y yr n
  refine lv_aload_n hx hb dX0_nameIn_0 rfl (lv_at hl 0 rfl) ?_
  refine lv_iload_n hx hb dX0_nameIn_1 rfl (lv_at hl 2 rfl) ?_
  refine pn_roi (w := [(h0, .inr (0, [.ref q1, .ref q2, .ref q3, .ref q4, .ref q5, .ref q6, .int (nI n), .int (nI F)])), (q1, .inl (cI, 30, .inl K)), (q2, .inl (cI, 30, .inl Y)), (q3, .inl (cI, 30, .inl P)), (q4, .inl (cI, 30, .inl S)), (q5, .inl (cI, 30, .inl O)), (q6, .inl (cL, 30, .inr (.inl N)))]) hP hS (va_runV (As := [.int yr]) (rest := []) ⟨hx, hb, hml, hown, hts⟩ (c_X0_stageIn l D cI cL cZ cO h0 q1 q2 q3 q4 q5 q6 K Y P S O N n F yr (by first | assumption | omega | grind | simp_all)) (cwV 1 hts gX0_nameIn_X0_stageIn rfl rfl rfl (by decide +kernel) ⟨Nat.le_of_ble_eq_true rfl, Nat.le_of_ble_eq_true rfl⟩) (pn_pv hP hK (q0 := 0) rfl rfl) rfl rfl hl.1 rfl (lv_room (Nat.le_of_ble_eq_true rfl)) dX0_nameIn_2 ⟨Nat.le_of_ble_eq_true rfl, Nat.le_of_ble_eq_true rfl⟩) (fun H locs hP hS => ?_)
  refine lv_istore_n (lv' := [(3, .int (nI (pn_st Y yr n))), (0, .ref h0), (1, .int pa), (2, .int yr)]) hx hb dX0_nameIn_5 rfl hl (by decide) rfl (fun ls hl => ?_)
  refine lv_aload_n hx hb dX0_nameIn_6 rfl (lv_at hl 1 rfl) ?_
  refine lv_iload_n hx hb dX0_nameIn_7 rfl (lv_at hl 2 rfl) ?_
  refine lv_iload_n hx hb dX0_nameIn_8 rfl (lv_at hl 0 rfl) ?_
  refine pn_roi (w := [(h0, .inr (0, [.ref q1, .ref q2, .ref q3, .ref q4, .ref q5, .ref q6, .int (nI n), .int (nI F)])), (q1, .inl (cI, 30, .inl K)), (q2, .inl (cI, 30, .inl Y)), (q3, .inl (cI, 30, .inl P)), (q4, .inl (cI, 30, .inl S)), (q5, .inl (cI, 30, .inl O)), (q6, .inl (cL, 30, .inr (.inl N)))]) hP hS (va_runV (As := [.int pa, .int (nI (pn_st Y yr n))]) (rest := []) ⟨hx, hb, hml, hown, hts⟩ (c_X0_sitesBehind l D cI cL cZ cO h0 q1 q2 q3 q4 q5 q6 K Y P S O N n F pa (pn_st Y yr n) (by first | assumption | omega | grind | simp_all) (by first | assumption | omega | grind | simp_all)) (cwV 2 hts gX0_nameIn_X0_sitesBehind rfl rfl rfl (by decide +kernel) ⟨Nat.le_of_ble_eq_true rfl, Nat.le_of_ble_eq_true rfl⟩) (pn_pv hP hK (q0 := 0) rfl rfl) rfl rfl hl.1 rfl (lv_room (Nat.le_of_ble_eq_true rfl)) dX0_nameIn_9 ⟨Nat.le_of_ble_eq_true rfl, Nat.le_of_ble_eq_true rfl⟩) (fun H locs hP hS => ?_)
  refine lv_if_ne (tgt := 19) hx hb dX0_nameIn_12 (by decide) (fun c_1 => ?_) (fun c_1 => ?_)
  · refine lv_aload_n hx hb dX0_nameIn_19 rfl (lv_at hl 1 rfl) ?_
    refine lv_iload_n hx hb dX0_nameIn_20 rfl (lv_at hl 2 rfl) ?_
    refine lv_iload_n hx hb dX0_nameIn_21 rfl (lv_at hl 0 rfl) ?_
    refine pn_rol (w := [(h0, .inr (0, [.ref q1, .ref q2, .ref q3, .ref q4, .ref q5, .ref q6, .int (nI n), .int (nI F)])), (q1, .inl (cI, 30, .inl K)), (q2, .inl (cI, 30, .inl Y)), (q3, .inl (cI, 30, .inl P)), (q4, .inl (cI, 30, .inl S)), (q5, .inl (cI, 30, .inl O)), (q6, .inl (cL, 30, .inr (.inl N)))]) hP hS (va_runV (As := [.int pa, .int (nI (pn_st Y yr n))]) (rest := []) ⟨hx, hb, hml, hown, hts⟩ (c_X0_nameBehind l D cI cL cZ cO h0 q1 q2 q3 q4 q5 q6 K Y P S O N n F pa (pn_st Y yr n) (by first | assumption | omega | grind | simp_all) (by first | assumption | omega | grind | simp_all)) (cwV 2 hts gX0_nameIn_X0_nameBehind rfl rfl rfl (by decide +kernel) ⟨Nat.le_of_ble_eq_true rfl, Nat.le_of_ble_eq_true rfl⟩) (pn_pv hP hK (q0 := 0) rfl rfl) rfl rfl hl.1 rfl (lv_room (Nat.le_of_ble_eq_true rfl)) dX0_nameIn_22 ⟨Nat.le_of_ble_eq_true rfl, Nat.le_of_ble_eq_true rfl⟩) (fun H locs hP hS => ?_)
    exact W.lret hx hb hr (fun t ht hW => ⟨⟨_, (), rfl, (by unfold pn_nin; (repeat' split) <;> first | rfl | contradiction | omega | grind), trivial⟩, hS.F ht⟩) hS.2.2 dX0_nameIn_25 hlocks
  · refine lv_lconst (v := 0) hx hb dX0_nameIn_15 (by decide) ?_
    refine lv_goto (tgt := 25) hx hb dX0_nameIn_16 (by decide) ?_
    exact W.lret hx hb hr (fun t ht hW => ⟨⟨_, (), rfl, (by unfold pn_nin; (repeat' split) <;> first | rfl | contradiction | omega | grind), trivial⟩, hS.F ht⟩) hS.2.2 dX0_nameIn_25 hlocks

set_option maxHeartbeats 4000000 in
set_option maxRecDepth 100000 in
theorem c_X0_nameAt (l : Launch) (D : va_G) (cI cL cZ cO : ClassId) (h0 q1 q2 q3 q4 q5 q6 : Nat) (K Y P S O : Nat → Int32) (N : Nat → Int64) (n F : Nat) (t : Nat) (g : Nat) (hn : n ≤ 30) (hg : g ≤ n) : Met l yX0_nameAt wsX0_nameAt ({ frames := 3, cells := 0, slots := 0, locals := 68 }) (va_Pc [.ref h0, .int (nI t), .int (nI g)] (pn_Pr D cI cL cZ cO [(h0, .inr (0, [.ref q1, .ref q2, .ref q3, .ref q4, .ref q5, .ref q6, .int (nI n), .int (nI F)])), (q1, .inl (cI, 30, .inl K)), (q2, .inl (cI, 30, .inl Y)), (q3, .inl (cI, 30, .inl P)), (q4, .inl (cI, 30, .inl S)), (q5, .inl (cI, 30, .inl O)), (q6, .inl (cL, 30, .inr (.inl N)))])) (va_Ql (fun r (_ : Unit) => r = (pn_nam K P O N (pn_own S O t g) g)) (fun _ _ => True) pn_No) 0 0 pn_No := by
  refine pn_mk (by decide) rfl (Nat.le_of_ble_eq_true rfl) ?_
  intro p e s m below meth c ls hx hb hr hml hown hts hlocks hK hP hl
  have hown : s.vm.findClass RX0 = some m.cls := hown
  have hS : va_S pn_No s.heap s.heap [] := va_S.rf
  have hl : lv_has ls 3 [(0, .ref h0), (1, .int (nI t)), (2, .int (nI g))] := hl
  refine lv_aload_n hx hb dX0_nameAt_0 rfl (lv_at hl 0 rfl) ?_
  refine lv_aload_n hx hb dX0_nameAt_1 rfl (lv_at hl 0 rfl) ?_
  refine lv_iload_n hx hb dX0_nameAt_2 rfl (lv_at hl 1 rfl) ?_
  refine lv_iload_n hx hb dX0_nameAt_3 rfl (lv_at hl 2 rfl) ?_
  refine pn_roi (w := [(h0, .inr (0, [.ref q1, .ref q2, .ref q3, .ref q4, .ref q5, .ref q6, .int (nI n), .int (nI F)])), (q1, .inl (cI, 30, .inl K)), (q2, .inl (cI, 30, .inl Y)), (q3, .inl (cI, 30, .inl P)), (q4, .inl (cI, 30, .inl S)), (q5, .inl (cI, 30, .inl O)), (q6, .inl (cL, 30, .inr (.inl N)))]) hP hS (va_runV (As := [.int (nI t), .int (nI g)]) (rest := [.ref h0]) ⟨hx, hb, hml, hown, hts⟩ (c_X0_ownerBehind l D cI cL cZ cO h0 q1 q2 q3 q4 q5 q6 K Y P S O N n F t g (by first | assumption | omega | grind | simp_all) (by first | assumption | omega | grind | simp_all)) (cwV 2 hts gX0_nameAt_X0_ownerBehind rfl rfl rfl (by decide +kernel) ⟨Nat.le_of_ble_eq_true rfl, Nat.le_of_ble_eq_true rfl⟩) (pn_pv hP hK (q0 := 0) rfl rfl) rfl rfl hl.1 rfl (lv_room (Nat.le_of_ble_eq_true rfl)) dX0_nameAt_4 ⟨Nat.le_of_ble_eq_true rfl, Nat.le_of_ble_eq_true rfl⟩) (fun H locs hP hS => ?_)
  refine lv_iload_n hx hb dX0_nameAt_7 rfl (lv_at hl 2 rfl) ?_
  refine pn_rol (w := [(h0, .inr (0, [.ref q1, .ref q2, .ref q3, .ref q4, .ref q5, .ref q6, .int (nI n), .int (nI F)])), (q1, .inl (cI, 30, .inl K)), (q2, .inl (cI, 30, .inl Y)), (q3, .inl (cI, 30, .inl P)), (q4, .inl (cI, 30, .inl S)), (q5, .inl (cI, 30, .inl O)), (q6, .inl (cL, 30, .inr (.inl N)))]) hP hS (va_runV (As := [.int (pn_own S O t g), .int (nI g)]) (rest := []) ⟨hx, hb, hml, hown, hts⟩ (c_X0_nameBehind l D cI cL cZ cO h0 q1 q2 q3 q4 q5 q6 K Y P S O N n F (pn_own S O t g) g (by first | assumption | omega | grind | simp_all) (by first | assumption | omega | grind | simp_all)) (cwV 2 hts gX0_nameAt_X0_nameBehind rfl rfl rfl (by decide +kernel) ⟨Nat.le_of_ble_eq_true rfl, Nat.le_of_ble_eq_true rfl⟩) (pn_pv hP hK (q0 := 0) rfl rfl) rfl rfl hl.1 rfl (lv_room (Nat.le_of_ble_eq_true rfl)) dX0_nameAt_8 ⟨Nat.le_of_ble_eq_true rfl, Nat.le_of_ble_eq_true rfl⟩) (fun H locs hP hS => ?_)
  exact W.lret hx hb hr (fun t ht hW => ⟨⟨_, (), rfl, rfl, trivial⟩, hS.F ht⟩) hS.2.2 dX0_nameAt_11 hlocks

theorem ih_X0_eventsOf_X0 : ∀ w ∈ wsX00, w ∈ wsX0_eventsOf := by decide +kernel
set_option maxHeartbeats 4000000 in
set_option maxRecDepth 100000 in
theorem c_X0_eventsOf (l : Launch) (D : va_G) (cI cL cZ cO : ClassId) (h0 q1 q2 q3 q4 q5 q6 : Nat) (K Y P S O : Nat → Int32) (N : Nat → Int64) (n F : Nat) (pa : Int32) (hn : n ≤ 30) : Met l yX0_eventsOf wsX0_eventsOf ({ frames := 0, cells := 0, slots := 0, locals := 0 }) (va_Pc [.ref h0, .int pa] (pn_Pr D cI cL cZ cO [(h0, .inr (0, [.ref q1, .ref q2, .ref q3, .ref q4, .ref q5, .ref q6, .int (nI n), .int (nI F)])), (q1, .inl (cI, 30, .inl K)), (q2, .inl (cI, 30, .inl Y)), (q3, .inl (cI, 30, .inl P)), (q4, .inl (cI, 30, .inl S)), (q5, .inl (cI, 30, .inl O)), (q6, .inl (cL, 30, .inr (.inl N)))])) (va_Qi (fun r (_ : Unit) => r = (nI (pn_cnt (fun i => P i = pa ∨ O i = pa) n))) (fun _ _ => True) pn_No) 0 0 pn_No := by
  refine pn_mk (by decide) rfl (Nat.le_of_ble_eq_true rfl) ?_
  intro p e s m below meth c ls hx hb hr hml hown hts hlocks hK hP hl
  have hown : s.vm.findClass RX0 = some m.cls := hown
  have hS : va_S pn_No s.heap s.heap [] := va_S.rf
  have hl : lv_has ls 4 [(0, .ref h0), (1, .int pa)] := hl
  refine lv_iconst (v := (nI 0)) hx hb dX0_eventsOf_0 (by decide) ?_
  refine lv_istore_n (lv' := [(2, .int (nI 0)), (0, .ref h0), (1, .int pa)]) hx hb dX0_eventsOf_1 rfl hl (by decide) rfl (fun ls hl => ?_)
  refine lv_iconst (v := (nI 0)) hx hb dX0_eventsOf_2 (by decide) ?_
  refine lv_istore_n (lv' := [(3, .int (nI 0)), (2, .int (nI 0)), (0, .ref h0), (1, .int pa)]) hx hb dX0_eventsOf_3 rfl hl (by decide) rfl (fun ls hl => ?_)
  have lp4_1 : ∀ (fu : Nat) (k : Nat) (f : Nat), n - k < fu → (k ≤ n) → (f = pn_cnt (fun i => P i = pa ∨ O i = pa) k) → ∀ (H : Heap) (locs : List Loc) (ls : Array Slot), va_P D vwCl [(h0, .inr (0, [.ref q1, .ref q2, .ref q3, .ref q4, .ref q5, .ref q6, .int (nI n), .int (nI F)])), (q1, .inl (cI, 30, .inl K)), (q2, .inl (cI, 30, .inl Y)), (q3, .inl (cI, 30, .inl P)), (q4, .inl (cI, 30, .inl S)), (q5, .inl (cI, 30, .inl O)), (q6, .inl (cL, 30, .inr (.inl N)))] H → va_S pn_No s.heap H locs → lv_has ls 4 [(0, .ref h0), (1, .int pa), (2, .int (nI f)), (3, .int (nI k))] → W p l e ({ frames := 0, cells := 0, slots := 0, locals := 0 }) s m (List.toArray [.ref h0, .int pa]) below meth c H locs 0 0 (MQ below (va_Qi (fun r (_ : Unit) => r = (nI (pn_cnt (fun i => P i = pa ∨ O i = pa) n))) (fun _ _ => True) pn_No) (List.toArray [.ref h0, .int pa]) s 0 0 pn_No) (F0 m 4 ls []) := by
    intro fu
    induction fu with
    | zero => intro k f hfu; exact absurd hfu (Nat.not_lt_zero _)
    | succ fu ih4_1 =>
      intro k f hfu hk e1 H locs ls hP hS hl
      refine lv_iload_n hx hb dX0_eventsOf_4 rfl (lv_at hl 3 rfl) ?_
      refine lv_aload_n hx hb dX0_eventsOf_5 rfl (lv_at hl 0 rfl) ?_
      refine va_get (D := D) (ci := 0) (v := .int (nI n)) (C := RX0) (T := TX0) (N := 8) hx hb hts ih_X0_eventsOf_X0 hown hK.1 hP 0 rfl rfl 6 (by decide) (hts (.fieldLink RX0 31 "ParishNames$Chronicle" "told" "I") (by decide +kernel)) (fun _ h9 => h9) rfl dX0_eventsOf_6 ?_
      refine lv_icmp_ge (tgt := 41) hx hb dX0_eventsOf_9 (by decide) (fun c_2 => ?_) (fun c_2 => ?_)
      · have c_2 : n ≤ k := (pn_le (by omega) (by omega)).mp (show nI n ≤ nI k from c_2)
        refine lv_iload_n hx hb dX0_eventsOf_41 rfl (lv_at hl 2 rfl) ?_
        exact W.iret hx hb hr (fun t ht hW => ⟨⟨_, (), rfl, (by rw [e1, show k = n by omega]), trivial⟩, hS.F ht⟩) hS.2.2 dX0_eventsOf_42 hlocks
      · have c_2 : ¬ n ≤ k := fun h => (show ¬ nI n ≤ nI k from c_2) ((pn_le (by omega) (by omega)).mpr h)
        refine lv_aload_n hx hb dX0_eventsOf_12 rfl (lv_at hl 0 rfl) ?_
        refine va_get (D := D) (ci := 0) (v := .ref q3) (C := RX0) (T := TX0) (N := 8) hx hb hts ih_X0_eventsOf_X0 hown hK.1 hP 0 rfl rfl 2 (by decide) (hts (.fieldLink RX0 18 "ParishNames$Chronicle" "parishes" "[I") (by decide +kernel)) (fun _ h9 => h9) rfl dX0_eventsOf_13 ?_
        refine lv_iload_n hx hb dX0_eventsOf_16 rfl (lv_at hl 3 rfl) ?_
        refine pn_iald hx hb hK.1 hP 3 0 rfl rfl (i := k) (by omega) (Nat.le_of_ble_eq_true rfl) dX0_eventsOf_17 ?_
        refine lv_iload_n hx hb dX0_eventsOf_18 rfl (lv_at hl 1 rfl) ?_
        refine lv_icmp_eq (tgt := 32) hx hb dX0_eventsOf_19 (by decide) (fun c_3 => ?_) (fun c_3 => ?_)
        · refine lv_iinc (v := (nI (f + 1))) (lv' := [(2, .int (nI (f + 1))), (0, .ref h0), (1, .int pa), (3, .int (nI k))]) hx hb dX0_eventsOf_32 hl (k := 2) rfl (nI_add f 1) (by decide) rfl (fun ls hl => ?_)
          refine lv_iinc (v := (nI (k + 1))) (lv' := [(3, .int (nI (k + 1))), (2, .int (nI (f + 1))), (0, .ref h0), (1, .int pa)]) hx hb dX0_eventsOf_35 hl (k := 3) rfl (nI_add k 1) (by decide) rfl (fun ls hl => ?_)
          refine lv_goto (tgt := 4) hx hb dX0_eventsOf_38 (by decide) ?_
          exact ih4_1 (k + 1) (f + 1) (by omega) (by first | assumption | omega | grind | simp_all) (by rw [pn_cnt]; split <;> first | (rw [e1]; done) | exact e1 | (exfalso; grind)) _ _ _ hP hS (lv_sub hl [2, 3, 1, 0] rfl)
        · refine lv_aload_n hx hb dX0_eventsOf_22 rfl (lv_at hl 0 rfl) ?_
          refine va_get (D := D) (ci := 0) (v := .ref q5) (C := RX0) (T := TX0) (N := 8) hx hb hts ih_X0_eventsOf_X0 hown hK.1 hP 0 rfl rfl 4 (by decide) (hts (.fieldLink RX0 24 "ParishNames$Chronicle" "owners" "[I") (by decide +kernel)) (fun _ h9 => h9) rfl dX0_eventsOf_23 ?_
          refine lv_iload_n hx hb dX0_eventsOf_26 rfl (lv_at hl 3 rfl) ?_
          refine pn_iald hx hb hK.1 hP 5 0 rfl rfl (i := k) (by omega) (Nat.le_of_ble_eq_true rfl) dX0_eventsOf_27 ?_
          refine lv_iload_n hx hb dX0_eventsOf_28 rfl (lv_at hl 1 rfl) ?_
          refine lv_icmp_ne (tgt := 35) hx hb dX0_eventsOf_29 (by decide) (fun c_4 => ?_) (fun c_4 => ?_)
          · refine lv_iinc (v := (nI (k + 1))) (lv' := [(3, .int (nI (k + 1))), (0, .ref h0), (1, .int pa), (2, .int (nI f))]) hx hb dX0_eventsOf_35 hl (k := 3) rfl (nI_add k 1) (by decide) rfl (fun ls hl => ?_)
            refine lv_goto (tgt := 4) hx hb dX0_eventsOf_38 (by decide) ?_
            exact ih4_1 (k + 1) f (by omega) (by first | assumption | omega | grind | simp_all) (by rw [pn_cnt]; split <;> first | (rw [e1]; done) | exact e1 | (exfalso; grind)) _ _ _ hP hS (lv_sub hl [1, 2, 3, 0] rfl)
          · refine lv_iinc (v := (nI (f + 1))) (lv' := [(2, .int (nI (f + 1))), (0, .ref h0), (1, .int pa), (3, .int (nI k))]) hx hb dX0_eventsOf_32 hl (k := 2) rfl (nI_add f 1) (by decide) rfl (fun ls hl => ?_)
            refine lv_iinc (v := (nI (k + 1))) (lv' := [(3, .int (nI (k + 1))), (2, .int (nI (f + 1))), (0, .ref h0), (1, .int pa)]) hx hb dX0_eventsOf_35 hl (k := 3) rfl (nI_add k 1) (by decide) rfl (fun ls hl => ?_)
            refine lv_goto (tgt := 4) hx hb dX0_eventsOf_38 (by decide) ?_
            exact ih4_1 (k + 1) (f + 1) (by omega) (by first | assumption | omega | grind | simp_all) (by rw [pn_cnt]; split <;> first | (rw [e1]; done) | exact e1 | (exfalso; grind)) _ _ _ hP hS (lv_sub hl [2, 3, 1, 0] rfl)
  exact lp4_1 ((n - 0) + 1) 0 0 (Nat.lt_succ_self _) (by first | assumption | omega | grind | simp_all) rfl _ _ _ hP hS (lv_sub hl [2, 3, 1, 0] rfl)

theorem ih_X0_eventsOfKind_X0 : ∀ w ∈ wsX00, w ∈ wsX0_eventsOfKind := by decide +kernel
set_option maxHeartbeats 4000000 in
set_option maxRecDepth 100000 in
theorem c_X0_eventsOfKind (l : Launch) (D : va_G) (cI cL cZ cO : ClassId) (h0 q1 q2 q3 q4 q5 q6 : Nat) (K Y P S O : Nat → Int32) (N : Nat → Int64) (n F : Nat) (kd : Int32) (hn : n ≤ 30) : Met l yX0_eventsOfKind wsX0_eventsOfKind ({ frames := 0, cells := 0, slots := 0, locals := 0 }) (va_Pc [.ref h0, .int kd] (pn_Pr D cI cL cZ cO [(h0, .inr (0, [.ref q1, .ref q2, .ref q3, .ref q4, .ref q5, .ref q6, .int (nI n), .int (nI F)])), (q1, .inl (cI, 30, .inl K)), (q2, .inl (cI, 30, .inl Y)), (q3, .inl (cI, 30, .inl P)), (q4, .inl (cI, 30, .inl S)), (q5, .inl (cI, 30, .inl O)), (q6, .inl (cL, 30, .inr (.inl N)))])) (va_Qi (fun r (_ : Unit) => r = (nI (pn_cnt (fun i => K i = kd) n))) (fun _ _ => True) pn_No) 0 0 pn_No := by
  refine pn_mk (by decide) rfl (Nat.le_of_ble_eq_true rfl) ?_
  intro p e s m below meth c ls hx hb hr hml hown hts hlocks hK hP hl
  have hown : s.vm.findClass RX0 = some m.cls := hown
  have hS : va_S pn_No s.heap s.heap [] := va_S.rf
  have hl : lv_has ls 4 [(0, .ref h0), (1, .int kd)] := hl
  refine lv_iconst (v := (nI 0)) hx hb dX0_eventsOfKind_0 (by decide) ?_
  refine lv_istore_n (lv' := [(2, .int (nI 0)), (0, .ref h0), (1, .int kd)]) hx hb dX0_eventsOfKind_1 rfl hl (by decide) rfl (fun ls hl => ?_)
  refine lv_iconst (v := (nI 0)) hx hb dX0_eventsOfKind_2 (by decide) ?_
  refine lv_istore_n (lv' := [(3, .int (nI 0)), (2, .int (nI 0)), (0, .ref h0), (1, .int kd)]) hx hb dX0_eventsOfKind_3 rfl hl (by decide) rfl (fun ls hl => ?_)
  have lp4_1 : ∀ (fu : Nat) (k : Nat) (f : Nat), n - k < fu → (k ≤ n) → (f = pn_cnt (fun i => K i = kd) k) → ∀ (H : Heap) (locs : List Loc) (ls : Array Slot), va_P D vwCl [(h0, .inr (0, [.ref q1, .ref q2, .ref q3, .ref q4, .ref q5, .ref q6, .int (nI n), .int (nI F)])), (q1, .inl (cI, 30, .inl K)), (q2, .inl (cI, 30, .inl Y)), (q3, .inl (cI, 30, .inl P)), (q4, .inl (cI, 30, .inl S)), (q5, .inl (cI, 30, .inl O)), (q6, .inl (cL, 30, .inr (.inl N)))] H → va_S pn_No s.heap H locs → lv_has ls 4 [(0, .ref h0), (1, .int kd), (2, .int (nI f)), (3, .int (nI k))] → W p l e ({ frames := 0, cells := 0, slots := 0, locals := 0 }) s m (List.toArray [.ref h0, .int kd]) below meth c H locs 0 0 (MQ below (va_Qi (fun r (_ : Unit) => r = (nI (pn_cnt (fun i => K i = kd) n))) (fun _ _ => True) pn_No) (List.toArray [.ref h0, .int kd]) s 0 0 pn_No) (F0 m 4 ls []) := by
    intro fu
    induction fu with
    | zero => intro k f hfu; exact absurd hfu (Nat.not_lt_zero _)
    | succ fu ih4_1 =>
      intro k f hfu hk e1 H locs ls hP hS hl
      refine lv_iload_n hx hb dX0_eventsOfKind_4 rfl (lv_at hl 3 rfl) ?_
      refine lv_aload_n hx hb dX0_eventsOfKind_5 rfl (lv_at hl 0 rfl) ?_
      refine va_get (D := D) (ci := 0) (v := .int (nI n)) (C := RX0) (T := TX0) (N := 8) hx hb hts ih_X0_eventsOfKind_X0 hown hK.1 hP 0 rfl rfl 6 (by decide) (hts (.fieldLink RX0 31 "ParishNames$Chronicle" "told" "I") (by decide +kernel)) (fun _ h9 => h9) rfl dX0_eventsOfKind_6 ?_
      refine lv_icmp_ge (tgt := 31) hx hb dX0_eventsOfKind_9 (by decide) (fun c_2 => ?_) (fun c_2 => ?_)
      · have c_2 : n ≤ k := (pn_le (by omega) (by omega)).mp (show nI n ≤ nI k from c_2)
        refine lv_iload_n hx hb dX0_eventsOfKind_31 rfl (lv_at hl 2 rfl) ?_
        exact W.iret hx hb hr (fun t ht hW => ⟨⟨_, (), rfl, (by rw [e1, show k = n by omega]), trivial⟩, hS.F ht⟩) hS.2.2 dX0_eventsOfKind_32 hlocks
      · have c_2 : ¬ n ≤ k := fun h => (show ¬ nI n ≤ nI k from c_2) ((pn_le (by omega) (by omega)).mpr h)
        refine lv_aload_n hx hb dX0_eventsOfKind_12 rfl (lv_at hl 0 rfl) ?_
        refine va_get (D := D) (ci := 0) (v := .ref q1) (C := RX0) (T := TX0) (N := 8) hx hb hts ih_X0_eventsOfKind_X0 hown hK.1 hP 0 rfl rfl 0 (by decide) (hts (.fieldLink RX0 9 "ParishNames$Chronicle" "kinds" "[I") (by decide +kernel)) (fun _ h9 => h9) rfl dX0_eventsOfKind_13 ?_
        refine lv_iload_n hx hb dX0_eventsOfKind_16 rfl (lv_at hl 3 rfl) ?_
        refine pn_iald hx hb hK.1 hP 1 0 rfl rfl (i := k) (by omega) (Nat.le_of_ble_eq_true rfl) dX0_eventsOfKind_17 ?_
        refine lv_iload_n hx hb dX0_eventsOfKind_18 rfl (lv_at hl 1 rfl) ?_
        refine lv_icmp_ne (tgt := 25) hx hb dX0_eventsOfKind_19 (by decide) (fun c_3 => ?_) (fun c_3 => ?_)
        · refine lv_iinc (v := (nI (k + 1))) (lv' := [(3, .int (nI (k + 1))), (0, .ref h0), (1, .int kd), (2, .int (nI f))]) hx hb dX0_eventsOfKind_25 hl (k := 3) rfl (nI_add k 1) (by decide) rfl (fun ls hl => ?_)
          refine lv_goto (tgt := 4) hx hb dX0_eventsOfKind_28 (by decide) ?_
          exact ih4_1 (k + 1) f (by omega) (by first | assumption | omega | grind | simp_all) (by rw [pn_cnt]; split <;> first | (rw [e1]; done) | exact e1 | (exfalso; grind)) _ _ _ hP hS (lv_sub hl [1, 2, 3, 0] rfl)
        · refine lv_iinc (v := (nI (f + 1))) (lv' := [(2, .int (nI (f + 1))), (0, .ref h0), (1, .int kd), (3, .int (nI k))]) hx hb dX0_eventsOfKind_22 hl (k := 2) rfl (nI_add f 1) (by decide) rfl (fun ls hl => ?_)
          refine lv_iinc (v := (nI (k + 1))) (lv' := [(3, .int (nI (k + 1))), (2, .int (nI (f + 1))), (0, .ref h0), (1, .int kd)]) hx hb dX0_eventsOfKind_25 hl (k := 3) rfl (nI_add k 1) (by decide) rfl (fun ls hl => ?_)
          refine lv_goto (tgt := 4) hx hb dX0_eventsOfKind_28 (by decide) ?_
          exact ih4_1 (k + 1) (f + 1) (by omega) (by first | assumption | omega | grind | simp_all) (by rw [pn_cnt]; split <;> first | (rw [e1]; done) | exact e1 | (exfalso; grind)) _ _ _ hP hS (lv_sub hl [2, 3, 1, 0] rfl)
  exact lp4_1 ((n - 0) + 1) 0 0 (Nat.lt_succ_self _) (by first | assumption | omega | grind | simp_all) rfl _ _ _ hP hS (lv_sub hl [2, 3, 1, 0] rfl)

theorem ih_X0_parishesNow_X0 : ∀ w ∈ wsX00, w ∈ wsX0_parishesNow := by decide +kernel
set_option maxHeartbeats 4000000 in
set_option maxRecDepth 100000 in
theorem c_X0_parishesNow (l : Launch) (D : va_G) (cI cL cZ cO : ClassId) (h0 q1 q2 q3 q4 q5 q6 : Nat) (K Y P S O : Nat → Int32) (N : Nat → Int64) (n F : Nat) (hn : n ≤ 30) (hF : F ≤ 16) : Met l yX0_parishesNow wsX0_parishesNow ({ frames := 3, cells := 0, slots := 0, locals := 68 }) (va_Pc [.ref h0] (pn_Pr D cI cL cZ cO [(h0, .inr (0, [.ref q1, .ref q2, .ref q3, .ref q4, .ref q5, .ref q6, .int (nI n), .int (nI F)])), (q1, .inl (cI, 30, .inl K)), (q2, .inl (cI, 30, .inl Y)), (q3, .inl (cI, 30, .inl P)), (q4, .inl (cI, 30, .inl S)), (q5, .inl (cI, 30, .inl O)), (q6, .inl (cL, 30, .inr (.inl N)))])) (va_Qi (fun r (_ : Unit) => r = (nI (pn_cnt (fun i => ¬ pn_sit P S O (nI i) n = 0) F))) (fun _ _ => True) pn_No) 0 0 pn_No := by
  refine pn_mk (by decide) rfl (Nat.le_of_ble_eq_true rfl) ?_
  intro p e s m below meth c ls hx hb hr hml hown hts hlocks hK hP hl
  have hown : s.vm.findClass RX0 = some m.cls := hown
  have hS : va_S pn_No s.heap s.heap [] := va_S.rf
  have hl : lv_has ls 3 [(0, .ref h0)] := hl
  refine lv_iconst (v := (nI 0)) hx hb dX0_parishesNow_0 (by decide) ?_
  refine lv_istore_n (lv' := [(1, .int (nI 0)), (0, .ref h0)]) hx hb dX0_parishesNow_1 rfl hl (by decide) rfl (fun ls hl => ?_)
  refine lv_iconst (v := (nI 0)) hx hb dX0_parishesNow_2 (by decide) ?_
  refine lv_istore_n (lv' := [(2, .int (nI 0)), (1, .int (nI 0)), (0, .ref h0)]) hx hb dX0_parishesNow_3 rfl hl (by decide) rfl (fun ls hl => ?_)
  have lp4_1 : ∀ (fu : Nat) (k : Nat) (f : Nat), F - k < fu → (k ≤ F) → (f = pn_cnt (fun i => ¬ pn_sit P S O (nI i) n = 0) k) → ∀ (H : Heap) (locs : List Loc) (ls : Array Slot), va_P D vwCl [(h0, .inr (0, [.ref q1, .ref q2, .ref q3, .ref q4, .ref q5, .ref q6, .int (nI n), .int (nI F)])), (q1, .inl (cI, 30, .inl K)), (q2, .inl (cI, 30, .inl Y)), (q3, .inl (cI, 30, .inl P)), (q4, .inl (cI, 30, .inl S)), (q5, .inl (cI, 30, .inl O)), (q6, .inl (cL, 30, .inr (.inl N)))] H → va_S pn_No s.heap H locs → lv_has ls 3 [(0, .ref h0), (1, .int (nI f)), (2, .int (nI k))] → W p l e ({ frames := 3, cells := 0, slots := 0, locals := 68 }) s m (List.toArray [.ref h0]) below meth c H locs 0 0 (MQ below (va_Qi (fun r (_ : Unit) => r = (nI (pn_cnt (fun i => ¬ pn_sit P S O (nI i) n = 0) F))) (fun _ _ => True) pn_No) (List.toArray [.ref h0]) s 0 0 pn_No) (F0 m 4 ls []) := by
    intro fu
    induction fu with
    | zero => intro k f hfu; exact absurd hfu (Nat.not_lt_zero _)
    | succ fu ih4_1 =>
      intro k f hfu hk e1 H locs ls hP hS hl
      refine lv_iload_n hx hb dX0_parishesNow_4 rfl (lv_at hl 2 rfl) ?_
      refine lv_aload_n hx hb dX0_parishesNow_5 rfl (lv_at hl 0 rfl) ?_
      refine va_get (D := D) (ci := 0) (v := .int (nI F)) (C := RX0) (T := TX0) (N := 8) hx hb hts ih_X0_parishesNow_X0 hown hK.1 hP 0 rfl rfl 7 (by decide) (hts (.fieldLink RX0 35 "ParishNames$Chronicle" "founded" "I") (by decide +kernel)) (fun _ h9 => h9) rfl dX0_parishesNow_6 ?_
      refine lv_icmp_ge (tgt := 29) hx hb dX0_parishesNow_9 (by decide) (fun c_2 => ?_) (fun c_2 => ?_)
      · have c_2 : F ≤ k := (pn_le (by omega) (by omega)).mp (show nI F ≤ nI k from c_2)
        refine lv_iload_n hx hb dX0_parishesNow_29 rfl (lv_at hl 1 rfl) ?_
        exact W.iret hx hb hr (fun t ht hW => ⟨⟨_, (), rfl, (by rw [e1, show k = F by omega]), trivial⟩, hS.F ht⟩) hS.2.2 dX0_parishesNow_30 hlocks
      · have c_2 : ¬ F ≤ k := fun h => (show ¬ nI F ≤ nI k from c_2) ((pn_le (by omega) (by omega)).mpr h)
        refine lv_aload_n hx hb dX0_parishesNow_12 rfl (lv_at hl 0 rfl) ?_
        refine lv_iload_n hx hb dX0_parishesNow_13 rfl (lv_at hl 2 rfl) ?_
        refine pn_roi (w := [(h0, .inr (0, [.ref q1, .ref q2, .ref q3, .ref q4, .ref q5, .ref q6, .int (nI n), .int (nI F)])), (q1, .inl (cI, 30, .inl K)), (q2, .inl (cI, 30, .inl Y)), (q3, .inl (cI, 30, .inl P)), (q4, .inl (cI, 30, .inl S)), (q5, .inl (cI, 30, .inl O)), (q6, .inl (cL, 30, .inr (.inl N)))]) hP hS (va_runV (As := [.int (nI k)]) (rest := []) ⟨hx, hb, hml, hown, hts⟩ (c_X0_sitesNow l D cI cL cZ cO h0 q1 q2 q3 q4 q5 q6 K Y P S O N n F (nI k) (by first | assumption | omega | grind | simp_all)) (cwV 1 hts gX0_parishesNow_X0_sitesNow rfl rfl rfl (by decide +kernel) ⟨Nat.le_of_ble_eq_true rfl, Nat.le_of_ble_eq_true rfl⟩) (pn_pv hP hK (q0 := 0) rfl rfl) rfl rfl hl.1 rfl (lv_room (Nat.le_of_ble_eq_true rfl)) dX0_parishesNow_14 ⟨Nat.le_of_ble_eq_true rfl, Nat.le_of_ble_eq_true rfl⟩) (fun H locs hP hS => ?_)
        refine lv_if_eq (tgt := 23) hx hb dX0_parishesNow_17 (by decide) (fun c_3 => ?_) (fun c_3 => ?_)
        · refine lv_iinc (v := (nI (k + 1))) (lv' := [(2, .int (nI (k + 1))), (0, .ref h0), (1, .int (nI f))]) hx hb dX0_parishesNow_23 hl (k := 2) rfl (nI_add k 1) (by decide) rfl (fun ls hl => ?_)
          refine lv_goto (tgt := 4) hx hb dX0_parishesNow_26 (by decide) ?_
          exact ih4_1 (k + 1) f (by omega) (by first | assumption | omega | grind | simp_all) (by rw [pn_cnt]; split <;> first | (rw [e1]; done) | exact e1 | (exfalso; grind)) _ _ _ hP hS (lv_sub hl [1, 2, 0] rfl)
        · refine lv_iinc (v := (nI (f + 1))) (lv' := [(1, .int (nI (f + 1))), (0, .ref h0), (2, .int (nI k))]) hx hb dX0_parishesNow_20 hl (k := 1) rfl (nI_add f 1) (by decide) rfl (fun ls hl => ?_)
          refine lv_iinc (v := (nI (k + 1))) (lv' := [(2, .int (nI (k + 1))), (1, .int (nI (f + 1))), (0, .ref h0)]) hx hb dX0_parishesNow_23 hl (k := 2) rfl (nI_add k 1) (by decide) rfl (fun ls hl => ?_)
          refine lv_goto (tgt := 4) hx hb dX0_parishesNow_26 (by decide) ?_
          exact ih4_1 (k + 1) (f + 1) (by omega) (by first | assumption | omega | grind | simp_all) (by rw [pn_cnt]; split <;> first | (rw [e1]; done) | exact e1 | (exfalso; grind)) _ _ _ hP hS (lv_sub hl [2, 1, 0] rfl)
  exact lp4_1 ((F - 0) + 1) 0 0 (Nat.lt_succ_self _) (by first | assumption | omega | grind | simp_all) rfl _ _ _ hP hS (lv_sub hl [2, 1, 0] rfl)

theorem ih_X0_isNameOfLesser_X0 : ∀ w ∈ wsX00, w ∈ wsX0_isNameOfLesser := by decide +kernel
set_option maxHeartbeats 4000000 in
set_option maxRecDepth 100000 in
theorem c_X0_isNameOfLesser (l : Launch) (D : va_G) (cI cL cZ cO : ClassId) (h0 q1 q2 q3 q4 q5 q6 : Nat) (K Y P S O : Nat → Int32) (N : Nat → Int64) (n F : Nat) (b : Nat) (hn : n ≤ 30) (hb16 : b ≤ 16) : Met l yX0_isNameOfLesser wsX0_isNameOfLesser ({ frames := 3, cells := 0, slots := 0, locals := 68 }) (va_Pc [.ref h0, .int (nI b)] (pn_Pr D cI cL cZ cO [(h0, .inr (0, [.ref q1, .ref q2, .ref q3, .ref q4, .ref q5, .ref q6, .int (nI n), .int (nI F)])), (q1, .inl (cI, 30, .inl K)), (q2, .inl (cI, 30, .inl Y)), (q3, .inl (cI, 30, .inl P)), (q4, .inl (cI, 30, .inl S)), (q5, .inl (cI, 30, .inl O)), (q6, .inl (cL, 30, .inr (.inl N)))])) (va_Qi (fun r (_ : Unit) => r = (pn_b (pn_nol K P S O N n b))) (fun _ _ => True) pn_No) 0 0 pn_No := by
  refine pn_mk (by decide) rfl (Nat.le_of_ble_eq_true rfl) ?_
  intro p e s m below meth c ls hx hb hr hml hown hts hlocks hK hP hl
  have hown : s.vm.findClass RX0 = some m.cls := hown
  have hS : va_S pn_No s.heap s.heap [] := va_S.rf
  have hl : lv_has ls 5 [(0, .ref h0), (1, .int (nI b))] := hl
  refine lv_aload_n hx hb dX0_isNameOfLesser_0 rfl (lv_at hl 0 rfl) ?_
  refine lv_iload_n hx hb dX0_isNameOfLesser_1 rfl (lv_at hl 1 rfl) ?_
  refine lv_aload_n hx hb dX0_isNameOfLesser_2 rfl (lv_at hl 0 rfl) ?_
  refine va_get (D := D) (ci := 0) (v := .int (nI n)) (C := RX0) (T := TX0) (N := 8) hx hb hts ih_X0_isNameOfLesser_X0 hown hK.1 hP 0 rfl rfl 6 (by decide) (hts (.fieldLink RX0 31 "ParishNames$Chronicle" "told" "I") (by decide +kernel)) (fun _ h9 => h9) rfl dX0_isNameOfLesser_3 ?_
  refine pn_rol (w := [(h0, .inr (0, [.ref q1, .ref q2, .ref q3, .ref q4, .ref q5, .ref q6, .int (nI n), .int (nI F)])), (q1, .inl (cI, 30, .inl K)), (q2, .inl (cI, 30, .inl Y)), (q3, .inl (cI, 30, .inl P)), (q4, .inl (cI, 30, .inl S)), (q5, .inl (cI, 30, .inl O)), (q6, .inl (cL, 30, .inr (.inl N)))]) hP hS (va_runV (As := [.int (nI b), .int (nI n)]) (rest := []) ⟨hx, hb, hml, hown, hts⟩ (c_X0_nameBehind l D cI cL cZ cO h0 q1 q2 q3 q4 q5 q6 K Y P S O N n F (nI b) n (by first | assumption | omega | grind | simp_all) (by first | assumption | omega | grind | simp_all)) (cwV 2 hts gX0_isNameOfLesser_X0_nameBehind rfl rfl rfl (by decide +kernel) ⟨Nat.le_of_ble_eq_true rfl, Nat.le_of_ble_eq_true rfl⟩) (pn_pv hP hK (q0 := 0) rfl rfl) rfl rfl hl.1 rfl (lv_room (Nat.le_of_ble_eq_true rfl)) dX0_isNameOfLesser_6 ⟨Nat.le_of_ble_eq_true rfl, Nat.le_of_ble_eq_true rfl⟩) (fun H locs hP hS => ?_)
  refine lv_lstore_n (lv' := [(2, .long (pn_nam K P O N (nI b) n)), (0, .ref h0), (1, .int (nI b))]) hx hb dX0_isNameOfLesser_9 rfl hl (by decide) rfl (fun ls hl => ?_)
  refine lv_iconst (v := (nI 0)) hx hb dX0_isNameOfLesser_10 (by decide) ?_
  refine lv_istore (lv' := [(4, .int (nI 0)), (2, .long (pn_nam K P O N (nI b) n)), (0, .ref h0), (1, .int (nI b))]) hx hb dX0_isNameOfLesser_11 hl (by decide) rfl (fun ls hl => ?_)
  have lp13_1 : ∀ (fu : Nat) (k : Nat), b - k < fu → (k ≤ b) → (∀ i, i < k → ¬ (¬ pn_sit P S O (nI i) n = 0 ∧ pn_nam K P O N (nI i) n = pn_nam K P O N (nI b) n)) → ∀ (H : Heap) (locs : List Loc) (ls : Array Slot), va_P D vwCl [(h0, .inr (0, [.ref q1, .ref q2, .ref q3, .ref q4, .ref q5, .ref q6, .int (nI n), .int (nI F)])), (q1, .inl (cI, 30, .inl K)), (q2, .inl (cI, 30, .inl Y)), (q3, .inl (cI, 30, .inl P)), (q4, .inl (cI, 30, .inl S)), (q5, .inl (cI, 30, .inl O)), (q6, .inl (cL, 30, .inr (.inl N)))] H → va_S pn_No s.heap H locs → lv_has ls 5 [(0, .ref h0), (1, .int (nI b)), (2, .long (pn_nam K P O N (nI b) n)), (4, .int (nI k))] → W p l e ({ frames := 3, cells := 0, slots := 0, locals := 68 }) s m (List.toArray [.ref h0, .int (nI b)]) below meth c H locs 0 0 (MQ below (va_Qi (fun r (_ : Unit) => r = (pn_b (pn_nol K P S O N n b))) (fun _ _ => True) pn_No) (List.toArray [.ref h0, .int (nI b)]) s 0 0 pn_No) (F0 m 13 ls []) := by
    intro fu
    induction fu with
    | zero => intro k hfu; exact absurd hfu (Nat.not_lt_zero _)
    | succ fu ih13_1 =>
      intro k hfu hk e1 H locs ls hP hS hl
      refine lv_iload hx hb dX0_isNameOfLesser_13 (lv_at hl 3 rfl) ?_
      refine lv_iload_n hx hb dX0_isNameOfLesser_15 rfl (lv_at hl 1 rfl) ?_
      refine lv_icmp_ge (tgt := 51) hx hb dX0_isNameOfLesser_16 (by decide) (fun c_2 => ?_) (fun c_2 => ?_)
      · have c_2 : b ≤ k := (pn_le (by omega) (by omega)).mp (show nI b ≤ nI k from c_2)
        refine lv_iconst (v := (nI 0)) hx hb dX0_isNameOfLesser_51 (by decide) ?_
        exact W.zret hx hb hr (by decide) (fun t ht hW => ⟨⟨_, (), rfl, (pn_bf (fun ⟨i, h1, h2⟩ => e1 i (by omega) h2)), trivial⟩, hS.F ht⟩) hS.2.2 dX0_isNameOfLesser_52 hlocks
      · have c_2 : ¬ b ≤ k := fun h => (show ¬ nI b ≤ nI k from c_2) ((pn_le (by omega) (by omega)).mpr h)
        refine lv_aload_n hx hb dX0_isNameOfLesser_19 rfl (lv_at hl 0 rfl) ?_
        refine lv_iload hx hb dX0_isNameOfLesser_20 (lv_at hl 3 rfl) ?_
        refine pn_roi (w := [(h0, .inr (0, [.ref q1, .ref q2, .ref q3, .ref q4, .ref q5, .ref q6, .int (nI n), .int (nI F)])), (q1, .inl (cI, 30, .inl K)), (q2, .inl (cI, 30, .inl Y)), (q3, .inl (cI, 30, .inl P)), (q4, .inl (cI, 30, .inl S)), (q5, .inl (cI, 30, .inl O)), (q6, .inl (cL, 30, .inr (.inl N)))]) hP hS (va_runV (As := [.int (nI k)]) (rest := []) ⟨hx, hb, hml, hown, hts⟩ (c_X0_sitesNow l D cI cL cZ cO h0 q1 q2 q3 q4 q5 q6 K Y P S O N n F (nI k) (by first | assumption | omega | grind | simp_all)) (cwV 1 hts gX0_isNameOfLesser_X0_sitesNow rfl rfl rfl (by decide +kernel) ⟨Nat.le_of_ble_eq_true rfl, Nat.le_of_ble_eq_true rfl⟩) (pn_pv hP hK (q0 := 0) rfl rfl) rfl rfl hl.1 rfl (lv_room (Nat.le_of_ble_eq_true rfl)) dX0_isNameOfLesser_22 ⟨Nat.le_of_ble_eq_true rfl, Nat.le_of_ble_eq_true rfl⟩) (fun H locs hP hS => ?_)
        refine lv_if_eq (tgt := 45) hx hb dX0_isNameOfLesser_25 (by decide) (fun c_3 => ?_) (fun c_3 => ?_)
        · refine lv_iinc (v := (nI (k + 1))) (lv' := [(4, .int (nI (k + 1))), (0, .ref h0), (1, .int (nI b)), (2, .long (pn_nam K P O N (nI b) n))]) hx hb dX0_isNameOfLesser_45 hl (k := 3) rfl (nI_add k 1) (by decide) rfl (fun ls hl => ?_)
          refine lv_goto (tgt := 13) hx hb dX0_isNameOfLesser_48 (by decide) ?_
          exact ih13_1 (k + 1) (by omega) (by first | assumption | omega | grind | simp_all) (lt_s e1 (fun h => by first | exact h.1 (by assumption) | exact (by assumption : ¬ _) h.2)) _ _ _ hP hS (lv_sub hl [1, 2, 3, 0] rfl)
        · refine lv_aload_n hx hb dX0_isNameOfLesser_28 rfl (lv_at hl 0 rfl) ?_
          refine lv_iload hx hb dX0_isNameOfLesser_29 (lv_at hl 3 rfl) ?_
          refine lv_aload_n hx hb dX0_isNameOfLesser_31 rfl (lv_at hl 0 rfl) ?_
          refine va_get (D := D) (ci := 0) (v := .int (nI n)) (C := RX0) (T := TX0) (N := 8) hx hb hts ih_X0_isNameOfLesser_X0 hown hK.1 hP 0 rfl rfl 6 (by decide) (hts (.fieldLink RX0 31 "ParishNames$Chronicle" "told" "I") (by decide +kernel)) (fun _ h9 => h9) rfl dX0_isNameOfLesser_32 ?_
          refine pn_rol (w := [(h0, .inr (0, [.ref q1, .ref q2, .ref q3, .ref q4, .ref q5, .ref q6, .int (nI n), .int (nI F)])), (q1, .inl (cI, 30, .inl K)), (q2, .inl (cI, 30, .inl Y)), (q3, .inl (cI, 30, .inl P)), (q4, .inl (cI, 30, .inl S)), (q5, .inl (cI, 30, .inl O)), (q6, .inl (cL, 30, .inr (.inl N)))]) hP hS (va_runV (As := [.int (nI k), .int (nI n)]) (rest := []) ⟨hx, hb, hml, hown, hts⟩ (c_X0_nameBehind l D cI cL cZ cO h0 q1 q2 q3 q4 q5 q6 K Y P S O N n F (nI k) n (by first | assumption | omega | grind | simp_all) (by first | assumption | omega | grind | simp_all)) (cwV 2 hts gX0_isNameOfLesser_X0_nameBehind rfl rfl rfl (by decide +kernel) ⟨Nat.le_of_ble_eq_true rfl, Nat.le_of_ble_eq_true rfl⟩) (pn_pv hP hK (q0 := 0) rfl rfl) rfl rfl hl.1 rfl (lv_room (Nat.le_of_ble_eq_true rfl)) dX0_isNameOfLesser_35 ⟨Nat.le_of_ble_eq_true rfl, Nat.le_of_ble_eq_true rfl⟩) (fun H locs hP hS => ?_)
          refine lv_lload_n hx hb dX0_isNameOfLesser_38 rfl (lv_at hl 2 rfl) ?_
          refine W.lcmp hx hb dX0_isNameOfLesser_39 ?_
          refine lv_if_ne (tgt := 45) hx hb dX0_isNameOfLesser_40 (by decide) (fun c_4 => ?_) (fun c_4 => ?_)
          · have c_4 : ¬ (pn_nam K P O N (nI k) n) = (pn_nam K P O N (nI b) n) := fun h => c_4 (pn_cmp0.mpr h)
            refine lv_iinc (v := (nI (k + 1))) (lv' := [(4, .int (nI (k + 1))), (0, .ref h0), (1, .int (nI b)), (2, .long (pn_nam K P O N (nI b) n))]) hx hb dX0_isNameOfLesser_45 hl (k := 3) rfl (nI_add k 1) (by decide) rfl (fun ls hl => ?_)
            refine lv_goto (tgt := 13) hx hb dX0_isNameOfLesser_48 (by decide) ?_
            exact ih13_1 (k + 1) (by omega) (by first | assumption | omega | grind | simp_all) (lt_s e1 (fun h => by first | exact h.1 (by assumption) | exact (by assumption : ¬ _) h.2)) _ _ _ hP hS (lv_sub hl [1, 2, 3, 0] rfl)
          · have c_4 : (pn_nam K P O N (nI k) n) = (pn_nam K P O N (nI b) n) := pn_cmp0.mp c_4
            refine lv_iconst (v := (nI 1)) hx hb dX0_isNameOfLesser_43 (by decide) ?_
            exact W.zret hx hb hr (by decide) (fun t ht hW => ⟨⟨_, (), rfl, (pn_bt ⟨k, by omega, by assumption, by assumption⟩), trivial⟩, hS.F ht⟩) hS.2.2 dX0_isNameOfLesser_44 hlocks
  exact lp13_1 ((b - 0) + 1) 0 (Nat.lt_succ_self _) (by first | assumption | omega | grind | simp_all) (fun i h => absurd h (Nat.not_lt_zero _)) _ _ _ hP hS (lv_sub hl [2, 3, 1, 0] rfl)

theorem ih_X0_unlikeNamesNow_X0 : ∀ w ∈ wsX00, w ∈ wsX0_unlikeNamesNow := by decide +kernel
set_option maxHeartbeats 4000000 in
set_option maxRecDepth 100000 in
theorem c_X0_unlikeNamesNow (l : Launch) (D : va_G) (cI cL cZ cO : ClassId) (h0 q1 q2 q3 q4 q5 q6 : Nat) (K Y P S O : Nat → Int32) (N : Nat → Int64) (n F : Nat) (hn : n ≤ 30) (hF : F ≤ 16) : Met l yX0_unlikeNamesNow wsX0_unlikeNamesNow ({ frames := 4, cells := 0, slots := 0, locals := 92 }) (va_Pc [.ref h0] (pn_Pr D cI cL cZ cO [(h0, .inr (0, [.ref q1, .ref q2, .ref q3, .ref q4, .ref q5, .ref q6, .int (nI n), .int (nI F)])), (q1, .inl (cI, 30, .inl K)), (q2, .inl (cI, 30, .inl Y)), (q3, .inl (cI, 30, .inl P)), (q4, .inl (cI, 30, .inl S)), (q5, .inl (cI, 30, .inl O)), (q6, .inl (cL, 30, .inr (.inl N)))])) (va_Qi (fun r (_ : Unit) => r = (nI (pn_cnt (fun i => ¬ pn_sit P S O (nI i) n = 0 ∧ ¬ pn_nol K P S O N n i) F))) (fun _ _ => True) pn_No) 0 0 pn_No := by
  refine pn_mk (by decide) rfl (Nat.le_of_ble_eq_true rfl) ?_
  intro p e s m below meth c ls hx hb hr hml hown hts hlocks hK hP hl
  have hown : s.vm.findClass RX0 = some m.cls := hown
  have hS : va_S pn_No s.heap s.heap [] := va_S.rf
  have hl : lv_has ls 3 [(0, .ref h0)] := hl
  refine lv_iconst (v := (nI 0)) hx hb dX0_unlikeNamesNow_0 (by decide) ?_
  refine lv_istore_n (lv' := [(1, .int (nI 0)), (0, .ref h0)]) hx hb dX0_unlikeNamesNow_1 rfl hl (by decide) rfl (fun ls hl => ?_)
  refine lv_iconst (v := (nI 0)) hx hb dX0_unlikeNamesNow_2 (by decide) ?_
  refine lv_istore_n (lv' := [(2, .int (nI 0)), (1, .int (nI 0)), (0, .ref h0)]) hx hb dX0_unlikeNamesNow_3 rfl hl (by decide) rfl (fun ls hl => ?_)
  have lp4_1 : ∀ (fu : Nat) (k : Nat) (f : Nat), F - k < fu → (k ≤ F) → (f = pn_cnt (fun i => ¬ pn_sit P S O (nI i) n = 0 ∧ ¬ pn_nol K P S O N n i) k) → ∀ (H : Heap) (locs : List Loc) (ls : Array Slot), va_P D vwCl [(h0, .inr (0, [.ref q1, .ref q2, .ref q3, .ref q4, .ref q5, .ref q6, .int (nI n), .int (nI F)])), (q1, .inl (cI, 30, .inl K)), (q2, .inl (cI, 30, .inl Y)), (q3, .inl (cI, 30, .inl P)), (q4, .inl (cI, 30, .inl S)), (q5, .inl (cI, 30, .inl O)), (q6, .inl (cL, 30, .inr (.inl N)))] H → va_S pn_No s.heap H locs → lv_has ls 3 [(0, .ref h0), (1, .int (nI f)), (2, .int (nI k))] → W p l e ({ frames := 4, cells := 0, slots := 0, locals := 92 }) s m (List.toArray [.ref h0]) below meth c H locs 0 0 (MQ below (va_Qi (fun r (_ : Unit) => r = (nI (pn_cnt (fun i => ¬ pn_sit P S O (nI i) n = 0 ∧ ¬ pn_nol K P S O N n i) F))) (fun _ _ => True) pn_No) (List.toArray [.ref h0]) s 0 0 pn_No) (F0 m 4 ls []) := by
    intro fu
    induction fu with
    | zero => intro k f hfu; exact absurd hfu (Nat.not_lt_zero _)
    | succ fu ih4_1 =>
      intro k f hfu hk e1 H locs ls hP hS hl
      refine lv_iload_n hx hb dX0_unlikeNamesNow_4 rfl (lv_at hl 2 rfl) ?_
      refine lv_aload_n hx hb dX0_unlikeNamesNow_5 rfl (lv_at hl 0 rfl) ?_
      refine va_get (D := D) (ci := 0) (v := .int (nI F)) (C := RX0) (T := TX0) (N := 8) hx hb hts ih_X0_unlikeNamesNow_X0 hown hK.1 hP 0 rfl rfl 7 (by decide) (hts (.fieldLink RX0 35 "ParishNames$Chronicle" "founded" "I") (by decide +kernel)) (fun _ h9 => h9) rfl dX0_unlikeNamesNow_6 ?_
      refine lv_icmp_ge (tgt := 37) hx hb dX0_unlikeNamesNow_9 (by decide) (fun c_2 => ?_) (fun c_2 => ?_)
      · have c_2 : F ≤ k := (pn_le (by omega) (by omega)).mp (show nI F ≤ nI k from c_2)
        refine lv_iload_n hx hb dX0_unlikeNamesNow_37 rfl (lv_at hl 1 rfl) ?_
        exact W.iret hx hb hr (fun t ht hW => ⟨⟨_, (), rfl, (by rw [e1, show k = F by omega]), trivial⟩, hS.F ht⟩) hS.2.2 dX0_unlikeNamesNow_38 hlocks
      · have c_2 : ¬ F ≤ k := fun h => (show ¬ nI F ≤ nI k from c_2) ((pn_le (by omega) (by omega)).mpr h)
        refine lv_aload_n hx hb dX0_unlikeNamesNow_12 rfl (lv_at hl 0 rfl) ?_
        refine lv_iload_n hx hb dX0_unlikeNamesNow_13 rfl (lv_at hl 2 rfl) ?_
        refine pn_roi (w := [(h0, .inr (0, [.ref q1, .ref q2, .ref q3, .ref q4, .ref q5, .ref q6, .int (nI n), .int (nI F)])), (q1, .inl (cI, 30, .inl K)), (q2, .inl (cI, 30, .inl Y)), (q3, .inl (cI, 30, .inl P)), (q4, .inl (cI, 30, .inl S)), (q5, .inl (cI, 30, .inl O)), (q6, .inl (cL, 30, .inr (.inl N)))]) hP hS (va_runV (As := [.int (nI k)]) (rest := []) ⟨hx, hb, hml, hown, hts⟩ (c_X0_sitesNow l D cI cL cZ cO h0 q1 q2 q3 q4 q5 q6 K Y P S O N n F (nI k) (by first | assumption | omega | grind | simp_all)) (cwV 1 hts gX0_unlikeNamesNow_X0_sitesNow rfl rfl rfl (by decide +kernel) ⟨Nat.le_of_ble_eq_true rfl, Nat.le_of_ble_eq_true rfl⟩) (pn_pv hP hK (q0 := 0) rfl rfl) rfl rfl hl.1 rfl (lv_room (Nat.le_of_ble_eq_true rfl)) dX0_unlikeNamesNow_14 ⟨Nat.le_of_ble_eq_true rfl, Nat.le_of_ble_eq_true rfl⟩) (fun H locs hP hS => ?_)
        refine lv_if_eq (tgt := 31) hx hb dX0_unlikeNamesNow_17 (by decide) (fun c_3 => ?_) (fun c_3 => ?_)
        · refine lv_iinc (v := (nI (k + 1))) (lv' := [(2, .int (nI (k + 1))), (0, .ref h0), (1, .int (nI f))]) hx hb dX0_unlikeNamesNow_31 hl (k := 2) rfl (nI_add k 1) (by decide) rfl (fun ls hl => ?_)
          refine lv_goto (tgt := 4) hx hb dX0_unlikeNamesNow_34 (by decide) ?_
          exact ih4_1 (k + 1) f (by omega) (by first | assumption | omega | grind | simp_all) (by rw [pn_cnt]; split <;> first | (rw [e1]; done) | exact e1 | (exfalso; grind)) _ _ _ hP hS (lv_sub hl [1, 2, 0] rfl)
        · refine lv_aload_n hx hb dX0_unlikeNamesNow_20 rfl (lv_at hl 0 rfl) ?_
          refine lv_iload_n hx hb dX0_unlikeNamesNow_21 rfl (lv_at hl 2 rfl) ?_
          refine pn_roi (w := [(h0, .inr (0, [.ref q1, .ref q2, .ref q3, .ref q4, .ref q5, .ref q6, .int (nI n), .int (nI F)])), (q1, .inl (cI, 30, .inl K)), (q2, .inl (cI, 30, .inl Y)), (q3, .inl (cI, 30, .inl P)), (q4, .inl (cI, 30, .inl S)), (q5, .inl (cI, 30, .inl O)), (q6, .inl (cL, 30, .inr (.inl N)))]) hP hS (va_runV (As := [.int (nI k)]) (rest := []) ⟨hx, hb, hml, hown, hts⟩ (c_X0_isNameOfLesser l D cI cL cZ cO h0 q1 q2 q3 q4 q5 q6 K Y P S O N n F k (by first | assumption | omega | grind | simp_all) (by first | assumption | omega | grind | simp_all)) (cwV 1 hts gX0_unlikeNamesNow_X0_isNameOfLesser rfl rfl rfl (by decide +kernel) ⟨Nat.le_of_ble_eq_true rfl, Nat.le_of_ble_eq_true rfl⟩) (pn_pv hP hK (q0 := 0) rfl rfl) rfl rfl hl.1 rfl (lv_room (Nat.le_of_ble_eq_true rfl)) dX0_unlikeNamesNow_22 ⟨Nat.le_of_ble_eq_true rfl, Nat.le_of_ble_eq_true rfl⟩) (fun H locs hP hS => ?_)
          refine lv_if_ne (tgt := 31) hx hb dX0_unlikeNamesNow_25 (by decide) (fun c_4 => ?_) (fun c_4 => ?_)
          · have c_4 : pn_nol K P S O N n k := pn_b1.mp c_4
            refine lv_iinc (v := (nI (k + 1))) (lv' := [(2, .int (nI (k + 1))), (0, .ref h0), (1, .int (nI f))]) hx hb dX0_unlikeNamesNow_31 hl (k := 2) rfl (nI_add k 1) (by decide) rfl (fun ls hl => ?_)
            refine lv_goto (tgt := 4) hx hb dX0_unlikeNamesNow_34 (by decide) ?_
            exact ih4_1 (k + 1) f (by omega) (by first | assumption | omega | grind | simp_all) (by rw [pn_cnt]; split <;> first | (rw [e1]; done) | exact e1 | (exfalso; grind)) _ _ _ hP hS (lv_sub hl [1, 2, 0] rfl)
          · have c_4 : ¬ (pn_nol K P S O N n k) := pn_b0.mp c_4
            refine lv_iinc (v := (nI (f + 1))) (lv' := [(1, .int (nI (f + 1))), (0, .ref h0), (2, .int (nI k))]) hx hb dX0_unlikeNamesNow_28 hl (k := 1) rfl (nI_add f 1) (by decide) rfl (fun ls hl => ?_)
            refine lv_iinc (v := (nI (k + 1))) (lv' := [(2, .int (nI (k + 1))), (1, .int (nI (f + 1))), (0, .ref h0)]) hx hb dX0_unlikeNamesNow_31 hl (k := 2) rfl (nI_add k 1) (by decide) rfl (fun ls hl => ?_)
            refine lv_goto (tgt := 4) hx hb dX0_unlikeNamesNow_34 (by decide) ?_
            exact ih4_1 (k + 1) (f + 1) (by omega) (by first | assumption | omega | grind | simp_all) (by rw [pn_cnt]; split <;> first | (rw [e1]; done) | exact e1 | (exfalso; grind)) _ _ _ hP hS (lv_sub hl [2, 1, 0] rfl)
  exact lp4_1 ((F - 0) + 1) 0 0 (Nat.lt_succ_self _) (by first | assumption | omega | grind | simp_all) rfl _ _ _ hP hS (lv_sub hl [2, 1, 0] rfl)
end
section
set_option maxHeartbeats 4000000 in
set_option maxRecDepth 100000 in
theorem c_J6_bitCount_0f7a4 (l : Launch) (D : va_G) (cI cL cZ cO : ClassId)  (x : Int32) : Met l yJ6_bitCount_0f7a4 wsJ6_bitCount_0f7a4 ({ frames := 0, cells := 0, slots := 0, locals := 0 }) (va_Pc [.int x] (pn_Pr D cI cL cZ cO [])) (va_Qi (fun r (_ : Unit) => r = (pn_bc x)) (fun _ _ => True) pn_No) 0 0 pn_No := by
  refine pn_mk (by decide) rfl (Nat.le_of_ble_eq_true rfl) ?_
  intro p e s m below meth c ls hx hb hr hml hown hts hlocks hK hP hl
  have hown : s.vm.findClass RJ6 = some m.cls := hown
  have hS : va_S pn_No s.heap s.heap [] := va_S.rf
  have hl : lv_has ls 1 [(0, .int x)] := hl
  refine lv_iload_n hx hb dJ6_bitCount_0f7a4_0 rfl (lv_at hl 0 rfl) ?_
  refine lv_iload_n hx hb dJ6_bitCount_0f7a4_1 rfl (lv_at hl 0 rfl) ?_
  refine lv_iconst (v := (nI 1)) hx hb dJ6_bitCount_0f7a4_2 (by decide) ?_
  refine lv_iushr hx hb dJ6_bitCount_0f7a4_3 rfl ?_
  refine lv_ldcw (v := 1431655765) hx hb hown (hts (.constant RJ6 265 1431655765) (by decide +kernel)) dJ6_bitCount_0f7a4_4 ?_
  refine lv_iand hx hb dJ6_bitCount_0f7a4_7 ?_
  refine lv_isub hx hb dJ6_bitCount_0f7a4_8 ?_
  refine lv_topi (fun y_1 ey_1 => ?_)
  refine lv_istore_n (lv' := [(0, .int y_1)]) hx hb dJ6_bitCount_0f7a4_9 rfl hl (by decide) rfl (fun ls hl => ?_)
  refine lv_iload_n hx hb dJ6_bitCount_0f7a4_10 rfl (lv_at hl 0 rfl) ?_
  refine lv_ldcw (v := 858993459) hx hb hown (hts (.constant RJ6 266 858993459) (by decide +kernel)) dJ6_bitCount_0f7a4_11 ?_
  refine lv_iand hx hb dJ6_bitCount_0f7a4_14 ?_
  refine lv_iload_n hx hb dJ6_bitCount_0f7a4_15 rfl (lv_at hl 0 rfl) ?_
  refine lv_iconst (v := (nI 2)) hx hb dJ6_bitCount_0f7a4_16 (by decide) ?_
  refine lv_iushr hx hb dJ6_bitCount_0f7a4_17 rfl ?_
  refine lv_ldcw (v := 858993459) hx hb hown (hts (.constant RJ6 266 858993459) (by decide +kernel)) dJ6_bitCount_0f7a4_18 ?_
  refine lv_iand hx hb dJ6_bitCount_0f7a4_21 ?_
  refine lv_iadd hx hb dJ6_bitCount_0f7a4_22 ?_
  refine lv_topi (fun y_2 ey_2 => ?_)
  refine lv_istore_n (lv' := [(0, .int y_2)]) hx hb dJ6_bitCount_0f7a4_23 rfl hl (by decide) rfl (fun ls hl => ?_)
  refine lv_iload_n hx hb dJ6_bitCount_0f7a4_24 rfl (lv_at hl 0 rfl) ?_
  refine lv_iload_n hx hb dJ6_bitCount_0f7a4_25 rfl (lv_at hl 0 rfl) ?_
  refine lv_iconst (v := (nI 4)) hx hb dJ6_bitCount_0f7a4_26 (by decide) ?_
  refine lv_iushr hx hb dJ6_bitCount_0f7a4_27 rfl ?_
  refine lv_iadd hx hb dJ6_bitCount_0f7a4_28 ?_
  refine lv_ldcw (v := 252645135) hx hb hown (hts (.constant RJ6 267 252645135) (by decide +kernel)) dJ6_bitCount_0f7a4_29 ?_
  refine lv_iand hx hb dJ6_bitCount_0f7a4_32 ?_
  refine lv_topi (fun y_3 ey_3 => ?_)
  refine lv_istore_n (lv' := [(0, .int y_3)]) hx hb dJ6_bitCount_0f7a4_33 rfl hl (by decide) rfl (fun ls hl => ?_)
  refine lv_iload_n hx hb dJ6_bitCount_0f7a4_34 rfl (lv_at hl 0 rfl) ?_
  refine lv_iload_n hx hb dJ6_bitCount_0f7a4_35 rfl (lv_at hl 0 rfl) ?_
  refine lv_bipush (v := (nI 8)) hx hb dJ6_bitCount_0f7a4_36 (by decide) ?_
  refine lv_iushr hx hb dJ6_bitCount_0f7a4_38 rfl ?_
  refine lv_iadd hx hb dJ6_bitCount_0f7a4_39 ?_
  refine lv_topi (fun y_4 ey_4 => ?_)
  refine lv_istore_n (lv' := [(0, .int y_4)]) hx hb dJ6_bitCount_0f7a4_40 rfl hl (by decide) rfl (fun ls hl => ?_)
  refine lv_iload_n hx hb dJ6_bitCount_0f7a4_41 rfl (lv_at hl 0 rfl) ?_
  refine lv_iload_n hx hb dJ6_bitCount_0f7a4_42 rfl (lv_at hl 0 rfl) ?_
  refine lv_bipush (v := (nI 16)) hx hb dJ6_bitCount_0f7a4_43 (by decide) ?_
  refine lv_iushr hx hb dJ6_bitCount_0f7a4_45 rfl ?_
  refine lv_iadd hx hb dJ6_bitCount_0f7a4_46 ?_
  refine lv_topi (fun y_5 ey_5 => ?_)
  refine lv_istore_n (lv' := [(0, .int y_5)]) hx hb dJ6_bitCount_0f7a4_47 rfl hl (by decide) rfl (fun ls hl => ?_)
  refine lv_iload_n hx hb dJ6_bitCount_0f7a4_48 rfl (lv_at hl 0 rfl) ?_
  refine lv_bipush (v := (nI 63)) hx hb dJ6_bitCount_0f7a4_49 (by decide) ?_
  refine lv_iand hx hb dJ6_bitCount_0f7a4_51 ?_
  exact W.iret hx hb hr (fun t ht hW => ⟨⟨_, (), rfl, (by subst_vars; rfl), trivial⟩, hS.F ht⟩) hS.2.2 dJ6_bitCount_0f7a4_52 hlocks
end
section
theorem ih_X0_nextSpan_X0 : ∀ w ∈ wsX00, w ∈ wsX0_nextSpan := by decide +kernel
set_option maxHeartbeats 4000000 in
set_option maxRecDepth 100000 in
theorem c_X0_nextSpan (l : Launch) (D : va_G) (cI cL cZ cO : ClassId) (h0 q1 q2 q3 q4 q5 q6 : Nat) (K Y P S O : Nat → Int32) (N : Nat → Int64) (n F : Nat) (t : Nat) (g : Nat) (hn : n ≤ 30) (hg : g ≤ n) : Met l yX0_nextSpan wsX0_nextSpan ({ frames := 3, cells := 0, slots := 0, locals := 68 }) (va_Pc [.ref h0, .int (nI t), .int (nI g)] (pn_Pr D cI cL cZ cO [(h0, .inr (0, [.ref q1, .ref q2, .ref q3, .ref q4, .ref q5, .ref q6, .int (nI n), .int (nI F)])), (q1, .inl (cI, 30, .inl K)), (q2, .inl (cI, 30, .inl Y)), (q3, .inl (cI, 30, .inl P)), (q4, .inl (cI, 30, .inl S)), (q5, .inl (cI, 30, .inl O)), (q6, .inl (cL, 30, .inr (.inl N)))])) (va_Qi (fun r (_ : Unit) => r = (nI (pn_nxt K Y P S O N n t g))) (fun _ _ => True) pn_No) 0 0 pn_No := by
  refine pn_mk (by decide) rfl (Nat.le_of_ble_eq_true rfl) ?_
  intro p e s m below meth c ls hx hb hr hml hown hts hlocks hK hP hl
  have hown : s.vm.findClass RX0 = some m.cls := hown
  have hS : va_S pn_No s.heap s.heap [] := va_S.rf
  have hl : lv_has ls 8 [(0, .ref h0), (1, .int (nI t)), (2, .int (nI g))] := hl
  refine lv_aload_n hx hb dX0_nextSpan_0 rfl (lv_at hl 0 rfl) ?_
  refine lv_iload_n hx hb dX0_nextSpan_1 rfl (lv_at hl 1 rfl) ?_
  refine lv_iload_n hx hb dX0_nextSpan_2 rfl (lv_at hl 2 rfl) ?_
  refine pn_roi (w := [(h0, .inr (0, [.ref q1, .ref q2, .ref q3, .ref q4, .ref q5, .ref q6, .int (nI n), .int (nI F)])), (q1, .inl (cI, 30, .inl K)), (q2, .inl (cI, 30, .inl Y)), (q3, .inl (cI, 30, .inl P)), (q4, .inl (cI, 30, .inl S)), (q5, .inl (cI, 30, .inl O)), (q6, .inl (cL, 30, .inr (.inl N)))]) hP hS (va_runV (As := [.int (nI t), .int (nI g)]) (rest := []) ⟨hx, hb, hml, hown, hts⟩ (c_X0_ownerBehind l D cI cL cZ cO h0 q1 q2 q3 q4 q5 q6 K Y P S O N n F t g (by first | assumption | omega | grind | simp_all) (by first | assumption | omega | grind | simp_all)) (cwV 2 hts gX0_nextSpan_X0_ownerBehind rfl rfl rfl (by decide +kernel) ⟨Nat.le_of_ble_eq_true rfl, Nat.le_of_ble_eq_true rfl⟩) (pn_pv hP hK (q0 := 0) rfl rfl) rfl rfl hl.1 rfl (lv_room (Nat.le_of_ble_eq_true rfl)) dX0_nextSpan_3 ⟨Nat.le_of_ble_eq_true rfl, Nat.le_of_ble_eq_true rfl⟩) (fun H locs hP hS => ?_)
  refine lv_istore_n (lv' := [(3, .int (pn_own S O t g)), (0, .ref h0), (1, .int (nI t)), (2, .int (nI g))]) hx hb dX0_nextSpan_6 rfl hl (by decide) rfl (fun ls hl => ?_)
  refine lv_aload_n hx hb dX0_nextSpan_7 rfl (lv_at hl 1 rfl) ?_
  refine lv_iload_n hx hb dX0_nextSpan_8 rfl (lv_at hl 0 rfl) ?_
  refine lv_iload_n hx hb dX0_nextSpan_9 rfl (lv_at hl 3 rfl) ?_
  refine pn_rol (w := [(h0, .inr (0, [.ref q1, .ref q2, .ref q3, .ref q4, .ref q5, .ref q6, .int (nI n), .int (nI F)])), (q1, .inl (cI, 30, .inl K)), (q2, .inl (cI, 30, .inl Y)), (q3, .inl (cI, 30, .inl P)), (q4, .inl (cI, 30, .inl S)), (q5, .inl (cI, 30, .inl O)), (q6, .inl (cL, 30, .inr (.inl N)))]) hP hS (va_runV (As := [.int (pn_own S O t g), .int (nI g)]) (rest := []) ⟨hx, hb, hml, hown, hts⟩ (c_X0_nameBehind l D cI cL cZ cO h0 q1 q2 q3 q4 q5 q6 K Y P S O N n F (pn_own S O t g) g (by first | assumption | omega | grind | simp_all) (by first | assumption | omega | grind | simp_all)) (cwV 2 hts gX0_nextSpan_X0_nameBehind rfl rfl rfl (by decide +kernel) ⟨Nat.le_of_ble_eq_true rfl, Nat.le_of_ble_eq_true rfl⟩) (pn_pv hP hK (q0 := 0) rfl rfl) rfl rfl hl.1 rfl (lv_room (Nat.le_of_ble_eq_true rfl)) dX0_nextSpan_10 ⟨Nat.le_of_ble_eq_true rfl, Nat.le_of_ble_eq_true rfl⟩) (fun H locs hP hS => ?_)
  refine lv_lstore (lv' := [(4, .long (pn_nam K P O N (pn_own S O t g) g)), (3, .int (pn_own S O t g)), (0, .ref h0), (1, .int (nI t)), (2, .int (nI g))]) hx hb dX0_nextSpan_13 hl (by decide) rfl (fun ls hl => ?_)
  refine lv_iload_n hx hb dX0_nextSpan_15 rfl (lv_at hl 4 rfl) ?_
  refine lv_iconst (v := (nI 1)) hx hb dX0_nextSpan_16 (by decide) ?_
  refine pn_iadd hx hb dX0_nextSpan_17 ?_
  refine lv_istore (lv' := [(6, .int (nI (g + 1))), (4, .long (pn_nam K P O N (pn_own S O t g) g)), (3, .int (pn_own S O t g)), (0, .ref h0), (1, .int (nI t)), (2, .int (nI g))]) hx hb dX0_nextSpan_18 hl (by decide) rfl (fun ls hl => ?_)
  have lp20_1 : ∀ (fu : Nat) (k : Nat), n + 1 - k < fu → (g + 1 ≤ k ∧ k ≤ n + 1) → (∀ i, g + 1 ≤ i → i < k → ¬ pn_chg K Y P S O N n t g i) → ∀ (H : Heap) (locs : List Loc) (ls : Array Slot), va_P D vwCl [(h0, .inr (0, [.ref q1, .ref q2, .ref q3, .ref q4, .ref q5, .ref q6, .int (nI n), .int (nI F)])), (q1, .inl (cI, 30, .inl K)), (q2, .inl (cI, 30, .inl Y)), (q3, .inl (cI, 30, .inl P)), (q4, .inl (cI, 30, .inl S)), (q5, .inl (cI, 30, .inl O)), (q6, .inl (cL, 30, .inr (.inl N)))] H → va_S pn_No s.heap H locs → lv_has ls 8 [(0, .ref h0), (1, .int (nI t)), (2, .int (nI g)), (3, .int (pn_own S O t g)), (4, .long (pn_nam K P O N (pn_own S O t g) g)), (6, .int (nI k))] → W p l e ({ frames := 3, cells := 0, slots := 0, locals := 68 }) s m (List.toArray [.ref h0, .int (nI t), .int (nI g)]) below meth c H locs 0 0 (MQ below (va_Qi (fun r (_ : Unit) => r = (nI (pn_nxt K Y P S O N n t g))) (fun _ _ => True) pn_No) (List.toArray [.ref h0, .int (nI t), .int (nI g)]) s 0 0 pn_No) (F0 m 20 ls []) := by
    intro fu
    induction fu with
    | zero => intro k hfu; exact absurd hfu (Nat.not_lt_zero _)
    | succ fu ih20_1 =>
      intro k hfu hk e1 H locs ls hP hS hl
      refine lv_iload hx hb dX0_nextSpan_20 (lv_at hl 5 rfl) ?_
      refine lv_aload_n hx hb dX0_nextSpan_22 rfl (lv_at hl 0 rfl) ?_
      refine va_get (D := D) (ci := 0) (v := .int (nI n)) (C := RX0) (T := TX0) (N := 8) hx hb hts ih_X0_nextSpan_X0 hown hK.1 hP 0 rfl rfl 6 (by decide) (hts (.fieldLink RX0 31 "ParishNames$Chronicle" "told" "I") (by decide +kernel)) (fun _ h9 => h9) rfl dX0_nextSpan_23 ?_
      refine lv_icmp_gt (tgt := 79) hx hb dX0_nextSpan_26 (by decide) (fun c_2 => ?_) (fun c_2 => ?_)
      · have c_2 : n < k := (pn_lt (by omega) (by omega)).mp (show nI n < nI k from c_2)
        refine lv_aload_n hx hb dX0_nextSpan_79 rfl (lv_at hl 0 rfl) ?_
        refine va_get (D := D) (ci := 0) (v := .int (nI n)) (C := RX0) (T := TX0) (N := 8) hx hb hts ih_X0_nextSpan_X0 hown hK.1 hP 0 rfl rfl 6 (by decide) (hts (.fieldLink RX0 31 "ParishNames$Chronicle" "told" "I") (by decide +kernel)) (fun _ h9 => h9) rfl dX0_nextSpan_80 ?_
        refine lv_iconst (v := (nI 1)) hx hb dX0_nextSpan_83 (by decide) ?_
        refine pn_iadd hx hb dX0_nextSpan_84 ?_
        exact W.iret hx hb hr (fun t ht hW => ⟨⟨_, (), rfl, (congrArg nI (pn_nxt_eq hg (by omega) (by omega) (by rw [show n + 1 = k by omega]; exact e1) (Or.inl rfl))), trivial⟩, hS.F ht⟩) hS.2.2 dX0_nextSpan_85 hlocks
      · have c_2 : ¬ n < k := fun h => (show ¬ nI n < nI k from c_2) ((pn_lt (by omega) (by omega)).mpr h)
        refine lv_aload_n hx hb dX0_nextSpan_29 rfl (lv_at hl 0 rfl) ?_
        refine lv_iload hx hb dX0_nextSpan_30 (lv_at hl 5 rfl) ?_
        refine pn_roi (w := [(h0, .inr (0, [.ref q1, .ref q2, .ref q3, .ref q4, .ref q5, .ref q6, .int (nI n), .int (nI F)])), (q1, .inl (cI, 30, .inl K)), (q2, .inl (cI, 30, .inl Y)), (q3, .inl (cI, 30, .inl P)), (q4, .inl (cI, 30, .inl S)), (q5, .inl (cI, 30, .inl O)), (q6, .inl (cL, 30, .inr (.inl N)))]) hP hS (va_runV (As := [.int (nI k)]) (rest := []) ⟨hx, hb, hml, hown, hts⟩ (c_X0_holdsInAYear l D cI cL cZ cO h0 q1 q2 q3 q4 q5 q6 K Y P S O N n F k (by first | assumption | omega | grind | simp_all) (by first | assumption | omega | grind | simp_all)) (cwV 1 hts gX0_nextSpan_X0_holdsInAYear rfl rfl rfl (by decide +kernel) ⟨Nat.le_of_ble_eq_true rfl, Nat.le_of_ble_eq_true rfl⟩) (pn_pv hP hK (q0 := 0) rfl rfl) rfl rfl hl.1 rfl (lv_room (Nat.le_of_ble_eq_true rfl)) dX0_nextSpan_32 ⟨Nat.le_of_ble_eq_true rfl, Nat.le_of_ble_eq_true rfl⟩) (fun H locs hP hS => ?_)
        refine lv_if_ne (tgt := 41) hx hb dX0_nextSpan_35 (by decide) (fun c_3 => ?_) (fun c_3 => ?_)
        · have c_3 : pn_fy Y n k ≤ pn_ly Y n k := pn_b1.mp c_3
          refine lv_aload_n hx hb dX0_nextSpan_41 rfl (lv_at hl 0 rfl) ?_
          refine lv_iload_n hx hb dX0_nextSpan_42 rfl (lv_at hl 1 rfl) ?_
          refine lv_iload hx hb dX0_nextSpan_43 (lv_at hl 5 rfl) ?_
          refine pn_roi (w := [(h0, .inr (0, [.ref q1, .ref q2, .ref q3, .ref q4, .ref q5, .ref q6, .int (nI n), .int (nI F)])), (q1, .inl (cI, 30, .inl K)), (q2, .inl (cI, 30, .inl Y)), (q3, .inl (cI, 30, .inl P)), (q4, .inl (cI, 30, .inl S)), (q5, .inl (cI, 30, .inl O)), (q6, .inl (cL, 30, .inr (.inl N)))]) hP hS (va_runV (As := [.int (nI t), .int (nI k)]) (rest := []) ⟨hx, hb, hml, hown, hts⟩ (c_X0_ownerBehind l D cI cL cZ cO h0 q1 q2 q3 q4 q5 q6 K Y P S O N n F t k (by first | assumption | omega | grind | simp_all) (by first | assumption | omega | grind | simp_all)) (cwV 2 hts gX0_nextSpan_X0_ownerBehind rfl rfl rfl (by decide +kernel) ⟨Nat.le_of_ble_eq_true rfl, Nat.le_of_ble_eq_true rfl⟩) (pn_pv hP hK (q0 := 0) rfl rfl) rfl rfl hl.1 rfl (lv_room (Nat.le_of_ble_eq_true rfl)) dX0_nextSpan_45 ⟨Nat.le_of_ble_eq_true rfl, Nat.le_of_ble_eq_true rfl⟩) (fun H locs hP hS => ?_)
          refine lv_istore (lv' := [(7, .int (pn_own S O t k)), (0, .ref h0), (1, .int (nI t)), (2, .int (nI g)), (3, .int (pn_own S O t g)), (4, .long (pn_nam K P O N (pn_own S O t g) g)), (6, .int (nI k))]) hx hb dX0_nextSpan_48 hl (by decide) rfl (fun ls hl => ?_)
          refine lv_iload hx hb dX0_nextSpan_50 (lv_at hl 0 rfl) ?_
          refine lv_iload_n hx hb dX0_nextSpan_52 rfl (lv_at hl 4 rfl) ?_
          refine lv_icmp_ne (tgt := 70) hx hb dX0_nextSpan_53 (by decide) (fun c_4 => ?_) (fun c_4 => ?_)
          · refine lv_iload hx hb dX0_nextSpan_70 (lv_at hl 6 rfl) ?_
            exact W.iret hx hb hr (fun t ht hW => ⟨⟨_, (), rfl, (by refine congrArg nI (pn_nxt_eq hg hk.1 (by omega) e1 (Or.inr ⟨by assumption, ?_⟩)); intro q; first | exact absurd q.1 (by assumption) | exact absurd q.2 (by assumption)), trivial⟩, hS.F ht⟩) hS.2.2 dX0_nextSpan_72 hlocks
          · refine lv_aload_n hx hb dX0_nextSpan_56 rfl (lv_at hl 1 rfl) ?_
            refine lv_iload hx hb dX0_nextSpan_57 (lv_at hl 0 rfl) ?_
            refine lv_iload hx hb dX0_nextSpan_59 (lv_at hl 6 rfl) ?_
            refine pn_rol (w := [(h0, .inr (0, [.ref q1, .ref q2, .ref q3, .ref q4, .ref q5, .ref q6, .int (nI n), .int (nI F)])), (q1, .inl (cI, 30, .inl K)), (q2, .inl (cI, 30, .inl Y)), (q3, .inl (cI, 30, .inl P)), (q4, .inl (cI, 30, .inl S)), (q5, .inl (cI, 30, .inl O)), (q6, .inl (cL, 30, .inr (.inl N)))]) hP hS (va_runV (As := [.int (pn_own S O t k), .int (nI k)]) (rest := []) ⟨hx, hb, hml, hown, hts⟩ (c_X0_nameBehind l D cI cL cZ cO h0 q1 q2 q3 q4 q5 q6 K Y P S O N n F (pn_own S O t k) k (by first | assumption | omega | grind | simp_all) (by first | assumption | omega | grind | simp_all)) (cwV 2 hts gX0_nextSpan_X0_nameBehind rfl rfl rfl (by decide +kernel) ⟨Nat.le_of_ble_eq_true rfl, Nat.le_of_ble_eq_true rfl⟩) (pn_pv hP hK (q0 := 0) rfl rfl) rfl rfl hl.1 rfl (lv_room (Nat.le_of_ble_eq_true rfl)) dX0_nextSpan_61 ⟨Nat.le_of_ble_eq_true rfl, Nat.le_of_ble_eq_true rfl⟩) (fun H locs hP hS => ?_)
            refine lv_lload hx hb dX0_nextSpan_64 (lv_at hl 5 rfl) ?_
            refine W.lcmp hx hb dX0_nextSpan_66 ?_
            refine lv_if_eq (tgt := 73) hx hb dX0_nextSpan_67 (by decide) (fun c_5 => ?_) (fun c_5 => ?_)
            · have c_5 : (pn_nam K P O N (pn_own S O t k) k) = (pn_nam K P O N (pn_own S O t g) g) := pn_cmp0.mp c_5
              refine lv_iinc (v := (nI (k + 1))) (lv' := [(6, .int (nI (k + 1))), (7, .int (pn_own S O t k)), (0, .ref h0), (1, .int (nI t)), (2, .int (nI g)), (3, .int (pn_own S O t g)), (4, .long (pn_nam K P O N (pn_own S O t g) g))]) hx hb dX0_nextSpan_73 hl (k := 6) rfl (nI_add k 1) (by decide) rfl (fun ls hl => ?_)
              refine lv_goto (tgt := 20) hx hb dX0_nextSpan_76 (by decide) ?_
              exact ih20_1 (k + 1) (by omega) ⟨by omega, by omega⟩ (pn_lts e1 (fun hc => by first | exact absurd hc.1 (by assumption) | exact hc.2 ⟨by assumption, by assumption⟩)) _ _ _ hP hS (lv_sub hl [2, 3, 4, 5, 6, 0] rfl)
            · have c_5 : ¬ (pn_nam K P O N (pn_own S O t k) k) = (pn_nam K P O N (pn_own S O t g) g) := fun h => c_5 (pn_cmp0.mpr h)
              refine lv_iload hx hb dX0_nextSpan_70 (lv_at hl 6 rfl) ?_
              exact W.iret hx hb hr (fun t ht hW => ⟨⟨_, (), rfl, (by refine congrArg nI (pn_nxt_eq hg hk.1 (by omega) e1 (Or.inr ⟨by assumption, ?_⟩)); intro q; first | exact absurd q.1 (by assumption) | exact absurd q.2 (by assumption)), trivial⟩, hS.F ht⟩) hS.2.2 dX0_nextSpan_72 hlocks
        · have c_3 : ¬ (pn_fy Y n k ≤ pn_ly Y n k) := pn_b0.mp c_3
          refine lv_goto (tgt := 73) hx hb dX0_nextSpan_38 (by decide) ?_
          refine lv_iinc (v := (nI (k + 1))) (lv' := [(6, .int (nI (k + 1))), (0, .ref h0), (1, .int (nI t)), (2, .int (nI g)), (3, .int (pn_own S O t g)), (4, .long (pn_nam K P O N (pn_own S O t g) g))]) hx hb dX0_nextSpan_73 hl (k := 5) rfl (nI_add k 1) (by decide) rfl (fun ls hl => ?_)
          refine lv_goto (tgt := 20) hx hb dX0_nextSpan_76 (by decide) ?_
          exact ih20_1 (k + 1) (by omega) ⟨by omega, by omega⟩ (pn_lts e1 (fun hc => by first | exact absurd hc.1 (by assumption) | exact hc.2 ⟨by assumption, by assumption⟩)) _ _ _ hP hS (lv_sub hl [1, 2, 3, 4, 5, 0] rfl)
  exact lp20_1 ((n + 1 - (g + 1)) + 1) (g + 1) (Nat.lt_succ_self _) ⟨Nat.le_refl _, by omega⟩ (fun i h1 h2 => absurd h1 (Nat.not_le.mpr h2)) _ _ _ hP hS (lv_sub hl [3, 4, 5, 2, 1, 0] rfl)
end
section
theorem ih_X0_tell_X0 : ∀ w ∈ wsX00, w ∈ wsX0_tell := by decide +kernel
set_option maxHeartbeats 4000000 in
set_option maxRecDepth 100000 in
theorem c_X0_tell (l : Launch) (D : va_G) (cI cL cZ cO : ClassId) (h0 q1 q2 q3 q4 q5 q6 : Nat) (K Y P S O : Nat → Int32) (N : Nat → Int64) (n F : Nat) (kd : Nat) (yr : Int32) (pa : Int32) (se : Int32) (ow : Int32) (nm : Int64) (hN : [h0, q1, q2, q3, q4, q5, q6].Nodup) (hn : n < 30) (hF : F ≤ 16) (hkd : kd ≤ 3) : Met l yX0_tell wsX0_tell ({ frames := 1, cells := 0, slots := 0, locals := 20 }) (va_Pc [.ref h0, .int (nI kd), .int yr, .int pa, .int se, .int ow, .long nm] (pn_Pr D cI cL cZ cO [(h0, .inr (0, [.ref q1, .ref q2, .ref q3, .ref q4, .ref q5, .ref q6, .int (nI n), .int (nI F)])), (q1, .inl (cI, 30, .inl K)), (q2, .inl (cI, 30, .inl Y)), (q3, .inl (cI, 30, .inl P)), (q4, .inl (cI, 30, .inl S)), (q5, .inl (cI, 30, .inl O)), (q6, .inl (cL, 30, .inr (.inl N)))])) (va_Qv (fun (_ : Unit) => True) (fun (_ : Unit) t => va_P D vwCl [(h0, .inr (0, [.ref q1, .ref q2, .ref q3, .ref q4, .ref q5, .ref q6, .int (nI (n + 1)), .int (nI (if kd = 1 then F + 1 else F))])), (q1, .inl (cI, 30, .inl (upd K n (nI kd)))), (q2, .inl (cI, 30, .inl (upd Y n yr))), (q3, .inl (cI, 30, .inl (upd P n pa))), (q4, .inl (cI, 30, .inl (upd S n se))), (q5, .inl (cI, 30, .inl (upd O n ow))), (q6, .inl (cL, 30, .inr (.inl (vp_updL N n nm))))] t.heap) (pn_In [h0, q1, q2, q3, q4, q5, q6])) 0 0 (pn_In [h0, q1, q2, q3, q4, q5, q6]) := by
  refine pn_mk (by decide) rfl (Nat.le_of_ble_eq_true rfl) ?_
  intro p e s m below meth c ls hx hb hr hml hown hts hlocks hK hP hl
  have hown : s.vm.findClass RX0 = some m.cls := hown
  have hS : va_S (pn_In [h0, q1, q2, q3, q4, q5, q6]) s.heap s.heap [] := va_S.rf
  have hl : lv_has ls 8 [(0, .ref h0), (1, .int (nI kd)), (2, .int yr), (3, .int pa), (4, .int se), (5, .int ow), (6, .long nm)] := hl
  refine lv_aload_n hx hb dX0_tell_0 rfl (lv_at hl 0 rfl) ?_
  refine pn_roi (w := [(h0, .inr (0, [.ref q1, .ref q2, .ref q3, .ref q4, .ref q5, .ref q6, .int (nI n), .int (nI F)])), (q1, .inl (cI, 30, .inl K)), (q2, .inl (cI, 30, .inl Y)), (q3, .inl (cI, 30, .inl P)), (q4, .inl (cI, 30, .inl S)), (q5, .inl (cI, 30, .inl O)), (q6, .inl (cL, 30, .inr (.inl N)))]) hP hS (va_runV (As := []) (rest := []) ⟨hx, hb, hml, hown, hts⟩ (c_X0_isFull l D cI cL cZ cO h0 q1 q2 q3 q4 q5 q6 K Y P S O N n F (by first | assumption | omega | grind | simp_all)) (cwV 0 hts gX0_tell_X0_isFull rfl rfl rfl (by decide +kernel) ⟨Nat.le_of_ble_eq_true rfl, Nat.le_of_ble_eq_true rfl⟩) (pn_pv hP hK (q0 := 0) rfl rfl) rfl rfl hl.1 rfl (lv_room (Nat.le_of_ble_eq_true rfl)) dX0_tell_1 ⟨Nat.le_of_ble_eq_true rfl, Nat.le_of_ble_eq_true rfl⟩) (fun H locs hP hS => ?_)
  refine lv_if_eq (tgt := 8) hx hb dX0_tell_4 (by decide) (fun c_1 => ?_) (fun c_1 => ?_)
  · have c_1 : ¬ (30 ≤ n) := pn_b0.mp c_1
    refine lv_aload_n hx hb dX0_tell_8 rfl (lv_at hl 0 rfl) ?_
    refine va_get (D := D) (ci := 0) (v := .ref q1) (C := RX0) (T := TX0) (N := 8) hx hb hts ih_X0_tell_X0 hown hK.1 hP 0 rfl rfl 0 (by decide) (hts (.fieldLink RX0 9 "ParishNames$Chronicle" "kinds" "[I") (by decide +kernel)) (fun _ h9 => h9) rfl dX0_tell_9 ?_
    refine lv_aload_n hx hb dX0_tell_12 rfl (lv_at hl 0 rfl) ?_
    refine va_get (D := D) (ci := 0) (v := .int (nI n)) (C := RX0) (T := TX0) (N := 8) hx hb hts ih_X0_tell_X0 hown hK.1 hP 0 rfl rfl 6 (by decide) (hts (.fieldLink RX0 31 "ParishNames$Chronicle" "told" "I") (by decide +kernel)) (fun _ h9 => h9) rfl dX0_tell_13 ?_
    refine lv_iload_n hx hb dX0_tell_16 rfl (lv_at hl 1 rfl) ?_
    refine pn_iast hx hb hK.1 hP (pn_D hN rfl) hS 1 0 rfl rfl (i := n) (by omega) (Nat.le_of_ble_eq_true rfl) dX0_tell_17 (fun H locs hP hS => ?_)
    have hP : va_P D vwCl [(h0, .inr (0, [.ref q1, .ref q2, .ref q3, .ref q4, .ref q5, .ref q6, .int (nI n), .int (nI F)])), (q1, .inl (cI, 30, .inl (upd K n (nI kd)))), (q2, .inl (cI, 30, .inl Y)), (q3, .inl (cI, 30, .inl P)), (q4, .inl (cI, 30, .inl S)), (q5, .inl (cI, 30, .inl O)), (q6, .inl (cL, 30, .inr (.inl N)))] H := hP
    refine lv_aload_n hx hb dX0_tell_18 rfl (lv_at hl 0 rfl) ?_
    refine va_get (D := D) (ci := 0) (v := .ref q2) (C := RX0) (T := TX0) (N := 8) hx hb hts ih_X0_tell_X0 hown hK.1 hP 0 rfl rfl 1 (by decide) (hts (.fieldLink RX0 15 "ParishNames$Chronicle" "years" "[I") (by decide +kernel)) (fun _ h9 => h9) rfl dX0_tell_19 ?_
    refine lv_aload_n hx hb dX0_tell_22 rfl (lv_at hl 0 rfl) ?_
    refine va_get (D := D) (ci := 0) (v := .int (nI n)) (C := RX0) (T := TX0) (N := 8) hx hb hts ih_X0_tell_X0 hown hK.1 hP 0 rfl rfl 6 (by decide) (hts (.fieldLink RX0 31 "ParishNames$Chronicle" "told" "I") (by decide +kernel)) (fun _ h9 => h9) rfl dX0_tell_23 ?_
    refine lv_iload_n hx hb dX0_tell_26 rfl (lv_at hl 2 rfl) ?_
    refine pn_iast hx hb hK.1 hP (pn_D hN rfl) hS 2 0 rfl rfl (i := n) (by omega) (Nat.le_of_ble_eq_true rfl) dX0_tell_27 (fun H locs hP hS => ?_)
    have hP : va_P D vwCl [(h0, .inr (0, [.ref q1, .ref q2, .ref q3, .ref q4, .ref q5, .ref q6, .int (nI n), .int (nI F)])), (q1, .inl (cI, 30, .inl (upd K n (nI kd)))), (q2, .inl (cI, 30, .inl (upd Y n yr))), (q3, .inl (cI, 30, .inl P)), (q4, .inl (cI, 30, .inl S)), (q5, .inl (cI, 30, .inl O)), (q6, .inl (cL, 30, .inr (.inl N)))] H := hP
    refine lv_aload_n hx hb dX0_tell_28 rfl (lv_at hl 0 rfl) ?_
    refine va_get (D := D) (ci := 0) (v := .ref q3) (C := RX0) (T := TX0) (N := 8) hx hb hts ih_X0_tell_X0 hown hK.1 hP 0 rfl rfl 2 (by decide) (hts (.fieldLink RX0 18 "ParishNames$Chronicle" "parishes" "[I") (by decide +kernel)) (fun _ h9 => h9) rfl dX0_tell_29 ?_
    refine lv_aload_n hx hb dX0_tell_32 rfl (lv_at hl 0 rfl) ?_
    refine va_get (D := D) (ci := 0) (v := .int (nI n)) (C := RX0) (T := TX0) (N := 8) hx hb hts ih_X0_tell_X0 hown hK.1 hP 0 rfl rfl 6 (by decide) (hts (.fieldLink RX0 31 "ParishNames$Chronicle" "told" "I") (by decide +kernel)) (fun _ h9 => h9) rfl dX0_tell_33 ?_
    refine lv_iload_n hx hb dX0_tell_36 rfl (lv_at hl 3 rfl) ?_
    refine pn_iast hx hb hK.1 hP (pn_D hN rfl) hS 3 0 rfl rfl (i := n) (by omega) (Nat.le_of_ble_eq_true rfl) dX0_tell_37 (fun H locs hP hS => ?_)
    have hP : va_P D vwCl [(h0, .inr (0, [.ref q1, .ref q2, .ref q3, .ref q4, .ref q5, .ref q6, .int (nI n), .int (nI F)])), (q1, .inl (cI, 30, .inl (upd K n (nI kd)))), (q2, .inl (cI, 30, .inl (upd Y n yr))), (q3, .inl (cI, 30, .inl (upd P n pa))), (q4, .inl (cI, 30, .inl S)), (q5, .inl (cI, 30, .inl O)), (q6, .inl (cL, 30, .inr (.inl N)))] H := hP
    refine lv_aload_n hx hb dX0_tell_38 rfl (lv_at hl 0 rfl) ?_
    refine va_get (D := D) (ci := 0) (v := .ref q4) (C := RX0) (T := TX0) (N := 8) hx hb hts ih_X0_tell_X0 hown hK.1 hP 0 rfl rfl 3 (by decide) (hts (.fieldLink RX0 21 "ParishNames$Chronicle" "sets" "[I") (by decide +kernel)) (fun _ h9 => h9) rfl dX0_tell_39 ?_
    refine lv_aload_n hx hb dX0_tell_42 rfl (lv_at hl 0 rfl) ?_
    refine va_get (D := D) (ci := 0) (v := .int (nI n)) (C := RX0) (T := TX0) (N := 8) hx hb hts ih_X0_tell_X0 hown hK.1 hP 0 rfl rfl 6 (by decide) (hts (.fieldLink RX0 31 "ParishNames$Chronicle" "told" "I") (by decide +kernel)) (fun _ h9 => h9) rfl dX0_tell_43 ?_
    refine lv_iload hx hb dX0_tell_46 (lv_at hl 4 rfl) ?_
    refine pn_iast hx hb hK.1 hP (pn_D hN rfl) hS 4 0 rfl rfl (i := n) (by omega) (Nat.le_of_ble_eq_true rfl) dX0_tell_48 (fun H locs hP hS => ?_)
    have hP : va_P D vwCl [(h0, .inr (0, [.ref q1, .ref q2, .ref q3, .ref q4, .ref q5, .ref q6, .int (nI n), .int (nI F)])), (q1, .inl (cI, 30, .inl (upd K n (nI kd)))), (q2, .inl (cI, 30, .inl (upd Y n yr))), (q3, .inl (cI, 30, .inl (upd P n pa))), (q4, .inl (cI, 30, .inl (upd S n se))), (q5, .inl (cI, 30, .inl O)), (q6, .inl (cL, 30, .inr (.inl N)))] H := hP
    refine lv_aload_n hx hb dX0_tell_49 rfl (lv_at hl 0 rfl) ?_
    refine va_get (D := D) (ci := 0) (v := .ref q5) (C := RX0) (T := TX0) (N := 8) hx hb hts ih_X0_tell_X0 hown hK.1 hP 0 rfl rfl 4 (by decide) (hts (.fieldLink RX0 24 "ParishNames$Chronicle" "owners" "[I") (by decide +kernel)) (fun _ h9 => h9) rfl dX0_tell_50 ?_
    refine lv_aload_n hx hb dX0_tell_53 rfl (lv_at hl 0 rfl) ?_
    refine va_get (D := D) (ci := 0) (v := .int (nI n)) (C := RX0) (T := TX0) (N := 8) hx hb hts ih_X0_tell_X0 hown hK.1 hP 0 rfl rfl 6 (by decide) (hts (.fieldLink RX0 31 "ParishNames$Chronicle" "told" "I") (by decide +kernel)) (fun _ h9 => h9) rfl dX0_tell_54 ?_
    refine lv_iload hx hb dX0_tell_57 (lv_at hl 5 rfl) ?_
    refine pn_iast hx hb hK.1 hP (pn_D hN rfl) hS 5 0 rfl rfl (i := n) (by omega) (Nat.le_of_ble_eq_true rfl) dX0_tell_59 (fun H locs hP hS => ?_)
    have hP : va_P D vwCl [(h0, .inr (0, [.ref q1, .ref q2, .ref q3, .ref q4, .ref q5, .ref q6, .int (nI n), .int (nI F)])), (q1, .inl (cI, 30, .inl (upd K n (nI kd)))), (q2, .inl (cI, 30, .inl (upd Y n yr))), (q3, .inl (cI, 30, .inl (upd P n pa))), (q4, .inl (cI, 30, .inl (upd S n se))), (q5, .inl (cI, 30, .inl (upd O n ow))), (q6, .inl (cL, 30, .inr (.inl N)))] H := hP
    refine lv_aload_n hx hb dX0_tell_60 rfl (lv_at hl 0 rfl) ?_
    refine va_get (D := D) (ci := 0) (v := .ref q6) (C := RX0) (T := TX0) (N := 8) hx hb hts ih_X0_tell_X0 hown hK.1 hP 0 rfl rfl 5 (by decide) (hts (.fieldLink RX0 27 "ParishNames$Chronicle" "names" "[J") (by decide +kernel)) (fun _ h9 => h9) rfl dX0_tell_61 ?_
    refine lv_aload_n hx hb dX0_tell_64 rfl (lv_at hl 0 rfl) ?_
    refine va_get (D := D) (ci := 0) (v := .int (nI n)) (C := RX0) (T := TX0) (N := 8) hx hb hts ih_X0_tell_X0 hown hK.1 hP 0 rfl rfl 6 (by decide) (hts (.fieldLink RX0 31 "ParishNames$Chronicle" "told" "I") (by decide +kernel)) (fun _ h9 => h9) rfl dX0_tell_65 ?_
    refine lv_lload hx hb dX0_tell_68 (lv_at hl 6 rfl) ?_
    refine pn_last hx hb hK.1 hP (pn_D hN rfl) hS 6 1 rfl rfl (i := n) (by omega) (Nat.le_of_ble_eq_true rfl) dX0_tell_70 (fun H locs hP hS => ?_)
    have hP : va_P D vwCl [(h0, .inr (0, [.ref q1, .ref q2, .ref q3, .ref q4, .ref q5, .ref q6, .int (nI n), .int (nI F)])), (q1, .inl (cI, 30, .inl (upd K n (nI kd)))), (q2, .inl (cI, 30, .inl (upd Y n yr))), (q3, .inl (cI, 30, .inl (upd P n pa))), (q4, .inl (cI, 30, .inl (upd S n se))), (q5, .inl (cI, 30, .inl (upd O n ow))), (q6, .inl (cL, 30, .inr (.inl (vp_updL N n nm))))] H := hP
    refine lv_aload_n hx hb dX0_tell_71 rfl (lv_at hl 0 rfl) ?_
    refine lv_dup hx hb dX0_tell_72 rfl ?_
    refine va_get (D := D) (ci := 0) (v := .int (nI n)) (C := RX0) (T := TX0) (N := 8) hx hb hts ih_X0_tell_X0 hown hK.1 hP 0 rfl rfl 6 (by decide) (hts (.fieldLink RX0 31 "ParishNames$Chronicle" "told" "I") (by decide +kernel)) (fun _ h9 => h9) rfl dX0_tell_73 ?_
    refine lv_iconst (v := (nI 1)) hx hb dX0_tell_76 (by decide) ?_
    refine pn_iadd hx hb dX0_tell_77 ?_
    refine va_put (D := D) (ci := 0) (v := .int (nI (n + 1))) (ty := .int) (C := RX0) (T := TX0) (N := 8) hx hb hts ih_X0_tell_X0 tyX0 tyX0_ok nmX0 hown hK.1 hP (pn_D hN rfl) hS 0 rfl rfl 6 (by decide) (hts (.fieldLink RX0 31 "ParishNames$Chronicle" "told" "I") (by decide +kernel)) (fun _ h9 => h9) rfl (by decide +kernel) rfl rfl (Nat.le_of_ble_eq_true rfl) dX0_tell_78 (fun H locs hP _ hS => ?_)
    have hP : va_P D vwCl [(h0, .inr (0, [.ref q1, .ref q2, .ref q3, .ref q4, .ref q5, .ref q6, .int (nI (n + 1)), .int (nI F)])), (q1, .inl (cI, 30, .inl (upd K n (nI kd)))), (q2, .inl (cI, 30, .inl (upd Y n yr))), (q3, .inl (cI, 30, .inl (upd P n pa))), (q4, .inl (cI, 30, .inl (upd S n se))), (q5, .inl (cI, 30, .inl (upd O n ow))), (q6, .inl (cL, 30, .inr (.inl (vp_updL N n nm))))] H := hP
    refine lv_iload_n hx hb dX0_tell_81 rfl (lv_at hl 1 rfl) ?_
    refine lv_iconst (v := (nI 1)) hx hb dX0_tell_82 (by decide) ?_
    refine lv_icmp_ne (tgt := 96) hx hb dX0_tell_83 (by decide) (fun c_2 => ?_) (fun c_2 => ?_)
    · have c_2 : ¬ kd = 1 := fun h => (show ¬ nI kd = nI 1 from c_2) ((pn_eq (by omega) (by omega)).mpr h)
      have hP : va_P D vwCl [(h0, .inr (0, [.ref q1, .ref q2, .ref q3, .ref q4, .ref q5, .ref q6, .int (nI (n + 1)), .int (nI (if kd = 1 then F + 1 else F))])), (q1, .inl (cI, 30, .inl (upd K n (nI kd)))), (q2, .inl (cI, 30, .inl (upd Y n yr))), (q3, .inl (cI, 30, .inl (upd P n pa))), (q4, .inl (cI, 30, .inl (upd S n se))), (q5, .inl (cI, 30, .inl (upd O n ow))), (q6, .inl (cL, 30, .inr (.inl (vp_updL N n nm))))] H := by rw [if_neg (by assumption)]; exact hP
      exact W.vret hx hb hr (fun t ht hW => ⟨⟨(), rfl, trivial, pn_atH ht hP⟩, hS.F ht⟩) hS.2.2 dX0_tell_96 hlocks
    · have c_2 : kd = 1 := (pn_eq (by omega) (by omega)).mp (show nI kd = nI 1 from c_2)
      refine lv_aload_n hx hb dX0_tell_86 rfl (lv_at hl 0 rfl) ?_
      refine lv_dup hx hb dX0_tell_87 rfl ?_
      refine va_get (D := D) (ci := 0) (v := .int (nI F)) (C := RX0) (T := TX0) (N := 8) hx hb hts ih_X0_tell_X0 hown hK.1 hP 0 rfl rfl 7 (by decide) (hts (.fieldLink RX0 35 "ParishNames$Chronicle" "founded" "I") (by decide +kernel)) (fun _ h9 => h9) rfl dX0_tell_88 ?_
      refine lv_iconst (v := (nI 1)) hx hb dX0_tell_91 (by decide) ?_
      refine pn_iadd hx hb dX0_tell_92 ?_
      refine va_put (D := D) (ci := 0) (v := .int (nI (F + 1))) (ty := .int) (C := RX0) (T := TX0) (N := 8) hx hb hts ih_X0_tell_X0 tyX0 tyX0_ok nmX0 hown hK.1 hP (pn_D hN rfl) hS 0 rfl rfl 7 (by decide) (hts (.fieldLink RX0 35 "ParishNames$Chronicle" "founded" "I") (by decide +kernel)) (fun _ h9 => h9) rfl (by decide +kernel) rfl rfl (Nat.le_of_ble_eq_true rfl) dX0_tell_93 (fun H locs hP _ hS => ?_)
      have hP : va_P D vwCl [(h0, .inr (0, [.ref q1, .ref q2, .ref q3, .ref q4, .ref q5, .ref q6, .int (nI (n + 1)), .int (nI (F + 1))])), (q1, .inl (cI, 30, .inl (upd K n (nI kd)))), (q2, .inl (cI, 30, .inl (upd Y n yr))), (q3, .inl (cI, 30, .inl (upd P n pa))), (q4, .inl (cI, 30, .inl (upd S n se))), (q5, .inl (cI, 30, .inl (upd O n ow))), (q6, .inl (cL, 30, .inr (.inl (vp_updL N n nm))))] H := hP
      have hP : va_P D vwCl [(h0, .inr (0, [.ref q1, .ref q2, .ref q3, .ref q4, .ref q5, .ref q6, .int (nI (n + 1)), .int (nI (if kd = 1 then F + 1 else F))])), (q1, .inl (cI, 30, .inl (upd K n (nI kd)))), (q2, .inl (cI, 30, .inl (upd Y n yr))), (q3, .inl (cI, 30, .inl (upd P n pa))), (q4, .inl (cI, 30, .inl (upd S n se))), (q5, .inl (cI, 30, .inl (upd O n ow))), (q6, .inl (cL, 30, .inr (.inl (vp_updL N n nm))))] H := by rw [if_pos (by assumption)]; exact hP
      exact W.vret hx hb hr (fun t ht hW => ⟨⟨(), rfl, trivial, pn_atH ht hP⟩, hS.F ht⟩) hS.2.2 dX0_tell_96 hlocks
  · have c_1 : 30 ≤ n := pn_b1.mp c_1
    omega
end
section
theorem ih_X0_forgetLast_X0 : ∀ w ∈ wsX00, w ∈ wsX0_forgetLast := by decide +kernel
set_option maxHeartbeats 4000000 in
set_option maxRecDepth 100000 in
theorem c_X0_forgetLast (l : Launch) (D : va_G) (cI cL cZ cO : ClassId) (h0 q1 q2 q3 q4 q5 q6 : Nat) (K Y P S O : Nat → Int32) (N : Nat → Int64) (n F : Nat) (hN : [h0, q1, q2, q3, q4, q5, q6].Nodup) (hn : n ≤ 30) (h1 : 1 ≤ n) (hF : F ≤ 16) (hF1 : K (n - 1) = nI 1 → 1 ≤ F) : Met l yX0_forgetLast wsX0_forgetLast ({ frames := 0, cells := 0, slots := 0, locals := 0 }) (va_Pc [.ref h0] (pn_Pr D cI cL cZ cO [(h0, .inr (0, [.ref q1, .ref q2, .ref q3, .ref q4, .ref q5, .ref q6, .int (nI n), .int (nI F)])), (q1, .inl (cI, 30, .inl K)), (q2, .inl (cI, 30, .inl Y)), (q3, .inl (cI, 30, .inl P)), (q4, .inl (cI, 30, .inl S)), (q5, .inl (cI, 30, .inl O)), (q6, .inl (cL, 30, .inr (.inl N)))])) (va_Qv (fun (_ : Unit) => True) (fun (_ : Unit) t => va_P D vwCl [(h0, .inr (0, [.ref q1, .ref q2, .ref q3, .ref q4, .ref q5, .ref q6, .int (nI (n - 1)), .int (nI (if K (n - 1) = nI 1 then F - 1 else F))])), (q1, .inl (cI, 30, .inl K)), (q2, .inl (cI, 30, .inl Y)), (q3, .inl (cI, 30, .inl P)), (q4, .inl (cI, 30, .inl S)), (q5, .inl (cI, 30, .inl O)), (q6, .inl (cL, 30, .inr (.inl N)))] t.heap) (pn_In [h0, q1, q2, q3, q4, q5, q6])) 0 0 (pn_In [h0, q1, q2, q3, q4, q5, q6]) := by
  refine pn_mk (by decide) rfl (Nat.le_of_ble_eq_true rfl) ?_
  intro p e s m below meth c ls hx hb hr hml hown hts hlocks hK hP hl
  have hown : s.vm.findClass RX0 = some m.cls := hown
  have hS : va_S (pn_In [h0, q1, q2, q3, q4, q5, q6]) s.heap s.heap [] := va_S.rf
  have hl : lv_has ls 1 [(0, .ref h0)] := hl
  refine lv_aload_n hx hb dX0_forgetLast_0 rfl (lv_at hl 0 rfl) ?_
  refine va_get (D := D) (ci := 0) (v := .int (nI n)) (C := RX0) (T := TX0) (N := 8) hx hb hts ih_X0_forgetLast_X0 hown hK.1 hP 0 rfl rfl 6 (by decide) (hts (.fieldLink RX0 31 "ParishNames$Chronicle" "told" "I") (by decide +kernel)) (fun _ h9 => h9) rfl dX0_forgetLast_1 ?_
  refine lv_if_ne (tgt := 8) hx hb dX0_forgetLast_4 (by decide) (fun c_1 => ?_) (fun c_1 => ?_)
  · have c_1 : ¬ n = 0 := fun h => (show ¬ nI n = nI 0 from c_1) ((pn_eq (by omega) (by omega)).mpr h)
    refine lv_aload_n hx hb dX0_forgetLast_8 rfl (lv_at hl 0 rfl) ?_
    refine lv_dup hx hb dX0_forgetLast_9 rfl ?_
    refine va_get (D := D) (ci := 0) (v := .int (nI n)) (C := RX0) (T := TX0) (N := 8) hx hb hts ih_X0_forgetLast_X0 hown hK.1 hP 0 rfl rfl 6 (by decide) (hts (.fieldLink RX0 31 "ParishNames$Chronicle" "told" "I") (by decide +kernel)) (fun _ h9 => h9) rfl dX0_forgetLast_10 ?_
    refine lv_iconst (v := (nI 1)) hx hb dX0_forgetLast_13 (by decide) ?_
    refine pn_isub hx hb (by omega) dX0_forgetLast_14 ?_
    refine va_put (D := D) (ci := 0) (v := .int (nI (n - 1))) (ty := .int) (C := RX0) (T := TX0) (N := 8) hx hb hts ih_X0_forgetLast_X0 tyX0 tyX0_ok nmX0 hown hK.1 hP (pn_D hN rfl) hS 0 rfl rfl 6 (by decide) (hts (.fieldLink RX0 31 "ParishNames$Chronicle" "told" "I") (by decide +kernel)) (fun _ h9 => h9) rfl (by decide +kernel) rfl rfl (Nat.le_of_ble_eq_true rfl) dX0_forgetLast_15 (fun H locs hP _ hS => ?_)
    have hP : va_P D vwCl [(h0, .inr (0, [.ref q1, .ref q2, .ref q3, .ref q4, .ref q5, .ref q6, .int (nI (n - 1)), .int (nI F)])), (q1, .inl (cI, 30, .inl K)), (q2, .inl (cI, 30, .inl Y)), (q3, .inl (cI, 30, .inl P)), (q4, .inl (cI, 30, .inl S)), (q5, .inl (cI, 30, .inl O)), (q6, .inl (cL, 30, .inr (.inl N)))] H := hP
    refine lv_aload_n hx hb dX0_forgetLast_18 rfl (lv_at hl 0 rfl) ?_
    refine va_get (D := D) (ci := 0) (v := .ref q1) (C := RX0) (T := TX0) (N := 8) hx hb hts ih_X0_forgetLast_X0 hown hK.1 hP 0 rfl rfl 0 (by decide) (hts (.fieldLink RX0 9 "ParishNames$Chronicle" "kinds" "[I") (by decide +kernel)) (fun _ h9 => h9) rfl dX0_forgetLast_19 ?_
    refine lv_aload_n hx hb dX0_forgetLast_22 rfl (lv_at hl 0 rfl) ?_
    refine va_get (D := D) (ci := 0) (v := .int (nI (n - 1))) (C := RX0) (T := TX0) (N := 8) hx hb hts ih_X0_forgetLast_X0 hown hK.1 hP 0 rfl rfl 6 (by decide) (hts (.fieldLink RX0 31 "ParishNames$Chronicle" "told" "I") (by decide +kernel)) (fun _ h9 => h9) rfl dX0_forgetLast_23 ?_
    refine pn_iald hx hb hK.1 hP 1 0 rfl rfl (i := (n - 1)) (by omega) (Nat.le_of_ble_eq_true rfl) dX0_forgetLast_26 ?_
    refine lv_iconst (v := (nI 1)) hx hb dX0_forgetLast_27 (by decide) ?_
    refine lv_icmp_ne (tgt := 41) hx hb dX0_forgetLast_28 (by decide) (fun c_2 => ?_) (fun c_2 => ?_)
    · have hP : va_P D vwCl [(h0, .inr (0, [.ref q1, .ref q2, .ref q3, .ref q4, .ref q5, .ref q6, .int (nI (n - 1)), .int (nI (if K (n - 1) = nI 1 then F - 1 else F))])), (q1, .inl (cI, 30, .inl K)), (q2, .inl (cI, 30, .inl Y)), (q3, .inl (cI, 30, .inl P)), (q4, .inl (cI, 30, .inl S)), (q5, .inl (cI, 30, .inl O)), (q6, .inl (cL, 30, .inr (.inl N)))] H := by rw [if_neg (by assumption)]; exact hP
      exact W.vret hx hb hr (fun t ht hW => ⟨⟨(), rfl, trivial, pn_atH ht hP⟩, hS.F ht⟩) hS.2.2 dX0_forgetLast_41 hlocks
    · have hF1 := hF1 c_2
      refine lv_aload_n hx hb dX0_forgetLast_31 rfl (lv_at hl 0 rfl) ?_
      refine lv_dup hx hb dX0_forgetLast_32 rfl ?_
      refine va_get (D := D) (ci := 0) (v := .int (nI F)) (C := RX0) (T := TX0) (N := 8) hx hb hts ih_X0_forgetLast_X0 hown hK.1 hP 0 rfl rfl 7 (by decide) (hts (.fieldLink RX0 35 "ParishNames$Chronicle" "founded" "I") (by decide +kernel)) (fun _ h9 => h9) rfl dX0_forgetLast_33 ?_
      refine lv_iconst (v := (nI 1)) hx hb dX0_forgetLast_36 (by decide) ?_
      refine pn_isub hx hb (by omega) dX0_forgetLast_37 ?_
      refine va_put (D := D) (ci := 0) (v := .int (nI (F - 1))) (ty := .int) (C := RX0) (T := TX0) (N := 8) hx hb hts ih_X0_forgetLast_X0 tyX0 tyX0_ok nmX0 hown hK.1 hP (pn_D hN rfl) hS 0 rfl rfl 7 (by decide) (hts (.fieldLink RX0 35 "ParishNames$Chronicle" "founded" "I") (by decide +kernel)) (fun _ h9 => h9) rfl (by decide +kernel) rfl rfl (Nat.le_of_ble_eq_true rfl) dX0_forgetLast_38 (fun H locs hP _ hS => ?_)
      have hP : va_P D vwCl [(h0, .inr (0, [.ref q1, .ref q2, .ref q3, .ref q4, .ref q5, .ref q6, .int (nI (n - 1)), .int (nI (F - 1))])), (q1, .inl (cI, 30, .inl K)), (q2, .inl (cI, 30, .inl Y)), (q3, .inl (cI, 30, .inl P)), (q4, .inl (cI, 30, .inl S)), (q5, .inl (cI, 30, .inl O)), (q6, .inl (cL, 30, .inr (.inl N)))] H := hP
      have hP : va_P D vwCl [(h0, .inr (0, [.ref q1, .ref q2, .ref q3, .ref q4, .ref q5, .ref q6, .int (nI (n - 1)), .int (nI (if K (n - 1) = nI 1 then F - 1 else F))])), (q1, .inl (cI, 30, .inl K)), (q2, .inl (cI, 30, .inl Y)), (q3, .inl (cI, 30, .inl P)), (q4, .inl (cI, 30, .inl S)), (q5, .inl (cI, 30, .inl O)), (q6, .inl (cL, 30, .inr (.inl N)))] H := by rw [if_pos (by assumption)]; exact hP
      exact W.vret hx hb hr (fun t ht hW => ⟨⟨(), rfl, trivial, pn_atH ht hP⟩, hS.F ht⟩) hS.2.2 dX0_forgetLast_41 hlocks
  · have c_1 : n = 0 := (pn_eq (by omega) (by omega)).mp (show nI n = nI 0 from c_1)
    omega
end
section
theorem ih_X0_becomeLike_X0 : ∀ w ∈ wsX00, w ∈ wsX0_becomeLike := by decide +kernel
set_option maxHeartbeats 4000000 in
set_option maxRecDepth 100000 in
theorem c_X0_becomeLike (l : Launch) (D : va_G) (cI cL cZ cO : ClassId) (h0 q1 q2 q3 q4 q5 q6 : Nat) (K Y P S O : Nat → Int32) (N : Nat → Int64) (n F : Nat) (g0 z1 z2 z3 z4 z5 z6 : Nat) (K2 Y2 P2 S2 O2 : Nat → Int32) (N2 : Nat → Int64) (n2 F2 : Nat) (hN : [h0, q1, q2, q3, q4, q5, q6, g0, z1, z2, z3, z4, z5, z6].Nodup) : Met l yX0_becomeLike wsX0_becomeLike ({ frames := 1, cells := 0, slots := 0, locals := 40 }) (va_Pc [.ref h0, .ref g0] (pn_Pr D cI cL cZ cO [(h0, .inr (0, [.ref q1, .ref q2, .ref q3, .ref q4, .ref q5, .ref q6, .int (nI n), .int (nI F)])), (q1, .inl (cI, 30, .inl K)), (q2, .inl (cI, 30, .inl Y)), (q3, .inl (cI, 30, .inl P)), (q4, .inl (cI, 30, .inl S)), (q5, .inl (cI, 30, .inl O)), (q6, .inl (cL, 30, .inr (.inl N))), (g0, .inr (0, [.ref z1, .ref z2, .ref z3, .ref z4, .ref z5, .ref z6, .int (nI n2), .int (nI F2)])), (z1, .inl (cI, 30, .inl K2)), (z2, .inl (cI, 30, .inl Y2)), (z3, .inl (cI, 30, .inl P2)), (z4, .inl (cI, 30, .inl S2)), (z5, .inl (cI, 30, .inl O2)), (z6, .inl (cL, 30, .inr (.inl N2)))])) (va_Qv (fun (_ : Unit) => True) (fun (_ : Unit) t => va_P D vwCl [(h0, .inr (0, [.ref q1, .ref q2, .ref q3, .ref q4, .ref q5, .ref q6, .int (nI n2), .int (nI F2)])), (q1, .inl (cI, 30, .inl K2)), (q2, .inl (cI, 30, .inl Y2)), (q3, .inl (cI, 30, .inl P2)), (q4, .inl (cI, 30, .inl S2)), (q5, .inl (cI, 30, .inl O2)), (q6, .inl (cL, 30, .inr (.inl N2))), (g0, .inr (0, [.ref z1, .ref z2, .ref z3, .ref z4, .ref z5, .ref z6, .int (nI n2), .int (nI F2)])), (z1, .inl (cI, 30, .inl K2)), (z2, .inl (cI, 30, .inl Y2)), (z3, .inl (cI, 30, .inl P2)), (z4, .inl (cI, 30, .inl S2)), (z5, .inl (cI, 30, .inl O2)), (z6, .inl (cL, 30, .inr (.inl N2)))] t.heap) (pn_In [h0, q1, q2, q3, q4, q5, q6, g0, z1, z2, z3, z4, z5, z6])) 0 0 (pn_In [h0, q1, q2, q3, q4, q5, q6, g0, z1, z2, z3, z4, z5, z6]) := by
  refine pn_mk (by decide) rfl (Nat.le_of_ble_eq_true rfl) ?_
  intro p e s m below meth c ls hx hb hr hml hown hts hlocks hK hP hl
  have hown : s.vm.findClass RX0 = some m.cls := hown
  have hS : va_S (pn_In [h0, q1, q2, q3, q4, q5, q6, g0, z1, z2, z3, z4, z5, z6]) s.heap s.heap [] := va_S.rf
  have hl : lv_has ls 2 [(0, .ref h0), (1, .ref g0)] := hl
  refine lv_aload_n hx hb dX0_becomeLike_0 rfl (lv_at hl 1 rfl) ?_
  refine va_get (D := D) (ci := 0) (v := .ref z1) (C := RX0) (T := TX0) (N := 8) hx hb hts ih_X0_becomeLike_X0 hown hK.1 hP 7 rfl rfl 0 (by decide) (hts (.fieldLink RX0 9 "ParishNames$Chronicle" "kinds" "[I") (by decide +kernel)) (fun _ h9 => h9) rfl dX0_becomeLike_1 ?_
  refine lv_iconst (v := (nI 0)) hx hb dX0_becomeLike_4 (by decide) ?_
  refine lv_aload_n hx hb dX0_becomeLike_5 rfl (lv_at hl 0 rfl) ?_
  refine va_get (D := D) (ci := 0) (v := .ref q1) (C := RX0) (T := TX0) (N := 8) hx hb hts ih_X0_becomeLike_X0 hown hK.1 hP 0 rfl rfl 0 (by decide) (hts (.fieldLink RX0 9 "ParishNames$Chronicle" "kinds" "[I") (by decide +kernel)) (fun _ h9 => h9) rfl dX0_becomeLike_6 ?_
  refine lv_iconst (v := (nI 0)) hx hb dX0_becomeLike_9 (by decide) ?_
  refine lv_bipush (v := (nI 30)) hx hb dX0_becomeLike_10 (by decide) ?_
  refine va_copyi hx hb (by rw [hml]; exact hl.1.symm) hown (hts (.methodLink RX0 42 arraycopyName) (by decide +kernel)) (hts (.native arraycopyName) (by decide +kernel)) (hts (.static arraycopyName) (by decide +kernel)) (hts (.initialized "java/lang/System") (by decide +kernel)) hK.1 hP (pn_D hN rfl) hS 8 1 0 0 rfl rfl rfl rfl rfl (by decide) (by decide) (by decide) (by decide) (by decide) (fun _ _ => rfl) (Nat.le_of_ble_eq_true rfl) (Nat.le_of_ble_eq_true rfl) dX0_becomeLike_12 (fun H locs hP _ hS => ?_)
  have hP := pn_cgI (q := 1) (g := K2) hP rfl (fun i h => pn_cpy i h)
  have hP : va_P D vwCl [(h0, .inr (0, [.ref q1, .ref q2, .ref q3, .ref q4, .ref q5, .ref q6, .int (nI n), .int (nI F)])), (q1, .inl (cI, 30, .inl K2)), (q2, .inl (cI, 30, .inl Y)), (q3, .inl (cI, 30, .inl P)), (q4, .inl (cI, 30, .inl S)), (q5, .inl (cI, 30, .inl O)), (q6, .inl (cL, 30, .inr (.inl N))), (g0, .inr (0, [.ref z1, .ref z2, .ref z3, .ref z4, .ref z5, .ref z6, .int (nI n2), .int (nI F2)])), (z1, .inl (cI, 30, .inl K2)), (z2, .inl (cI, 30, .inl Y2)), (z3, .inl (cI, 30, .inl P2)), (z4, .inl (cI, 30, .inl S2)), (z5, .inl (cI, 30, .inl O2)), (z6, .inl (cL, 30, .inr (.inl N2)))] H := hP
  refine lv_aload_n hx hb dX0_becomeLike_15 rfl (lv_at hl 1 rfl) ?_
  refine va_get (D := D) (ci := 0) (v := .ref z2) (C := RX0) (T := TX0) (N := 8) hx hb hts ih_X0_becomeLike_X0 hown hK.1 hP 7 rfl rfl 1 (by decide) (hts (.fieldLink RX0 15 "ParishNames$Chronicle" "years" "[I") (by decide +kernel)) (fun _ h9 => h9) rfl dX0_becomeLike_16 ?_
  refine lv_iconst (v := (nI 0)) hx hb dX0_becomeLike_19 (by decide) ?_
  refine lv_aload_n hx hb dX0_becomeLike_20 rfl (lv_at hl 0 rfl) ?_
  refine va_get (D := D) (ci := 0) (v := .ref q2) (C := RX0) (T := TX0) (N := 8) hx hb hts ih_X0_becomeLike_X0 hown hK.1 hP 0 rfl rfl 1 (by decide) (hts (.fieldLink RX0 15 "ParishNames$Chronicle" "years" "[I") (by decide +kernel)) (fun _ h9 => h9) rfl dX0_becomeLike_21 ?_
  refine lv_iconst (v := (nI 0)) hx hb dX0_becomeLike_24 (by decide) ?_
  refine lv_bipush (v := (nI 30)) hx hb dX0_becomeLike_25 (by decide) ?_
  refine va_copyi hx hb (by rw [hml]; exact hl.1.symm) hown (hts (.methodLink RX0 42 arraycopyName) (by decide +kernel)) (hts (.native arraycopyName) (by decide +kernel)) (hts (.static arraycopyName) (by decide +kernel)) (hts (.initialized "java/lang/System") (by decide +kernel)) hK.1 hP (pn_D hN rfl) hS 9 2 0 0 rfl rfl rfl rfl rfl (by decide) (by decide) (by decide) (by decide) (by decide) (fun _ _ => rfl) (Nat.le_of_ble_eq_true rfl) (Nat.le_of_ble_eq_true rfl) dX0_becomeLike_27 (fun H locs hP _ hS => ?_)
  have hP := pn_cgI (q := 2) (g := Y2) hP rfl (fun i h => pn_cpy i h)
  have hP : va_P D vwCl [(h0, .inr (0, [.ref q1, .ref q2, .ref q3, .ref q4, .ref q5, .ref q6, .int (nI n), .int (nI F)])), (q1, .inl (cI, 30, .inl K2)), (q2, .inl (cI, 30, .inl Y2)), (q3, .inl (cI, 30, .inl P)), (q4, .inl (cI, 30, .inl S)), (q5, .inl (cI, 30, .inl O)), (q6, .inl (cL, 30, .inr (.inl N))), (g0, .inr (0, [.ref z1, .ref z2, .ref z3, .ref z4, .ref z5, .ref z6, .int (nI n2), .int (nI F2)])), (z1, .inl (cI, 30, .inl K2)), (z2, .inl (cI, 30, .inl Y2)), (z3, .inl (cI, 30, .inl P2)), (z4, .inl (cI, 30, .inl S2)), (z5, .inl (cI, 30, .inl O2)), (z6, .inl (cL, 30, .inr (.inl N2)))] H := hP
  refine lv_aload_n hx hb dX0_becomeLike_30 rfl (lv_at hl 1 rfl) ?_
  refine va_get (D := D) (ci := 0) (v := .ref z3) (C := RX0) (T := TX0) (N := 8) hx hb hts ih_X0_becomeLike_X0 hown hK.1 hP 7 rfl rfl 2 (by decide) (hts (.fieldLink RX0 18 "ParishNames$Chronicle" "parishes" "[I") (by decide +kernel)) (fun _ h9 => h9) rfl dX0_becomeLike_31 ?_
  refine lv_iconst (v := (nI 0)) hx hb dX0_becomeLike_34 (by decide) ?_
  refine lv_aload_n hx hb dX0_becomeLike_35 rfl (lv_at hl 0 rfl) ?_
  refine va_get (D := D) (ci := 0) (v := .ref q3) (C := RX0) (T := TX0) (N := 8) hx hb hts ih_X0_becomeLike_X0 hown hK.1 hP 0 rfl rfl 2 (by decide) (hts (.fieldLink RX0 18 "ParishNames$Chronicle" "parishes" "[I") (by decide +kernel)) (fun _ h9 => h9) rfl dX0_becomeLike_36 ?_
  refine lv_iconst (v := (nI 0)) hx hb dX0_becomeLike_39 (by decide) ?_
  refine lv_bipush (v := (nI 30)) hx hb dX0_becomeLike_40 (by decide) ?_
  refine va_copyi hx hb (by rw [hml]; exact hl.1.symm) hown (hts (.methodLink RX0 42 arraycopyName) (by decide +kernel)) (hts (.native arraycopyName) (by decide +kernel)) (hts (.static arraycopyName) (by decide +kernel)) (hts (.initialized "java/lang/System") (by decide +kernel)) hK.1 hP (pn_D hN rfl) hS 10 3 0 0 rfl rfl rfl rfl rfl (by decide) (by decide) (by decide) (by decide) (by decide) (fun _ _ => rfl) (Nat.le_of_ble_eq_true rfl) (Nat.le_of_ble_eq_true rfl) dX0_becomeLike_42 (fun H locs hP _ hS => ?_)
  have hP := pn_cgI (q := 3) (g := P2) hP rfl (fun i h => pn_cpy i h)
  have hP : va_P D vwCl [(h0, .inr (0, [.ref q1, .ref q2, .ref q3, .ref q4, .ref q5, .ref q6, .int (nI n), .int (nI F)])), (q1, .inl (cI, 30, .inl K2)), (q2, .inl (cI, 30, .inl Y2)), (q3, .inl (cI, 30, .inl P2)), (q4, .inl (cI, 30, .inl S)), (q5, .inl (cI, 30, .inl O)), (q6, .inl (cL, 30, .inr (.inl N))), (g0, .inr (0, [.ref z1, .ref z2, .ref z3, .ref z4, .ref z5, .ref z6, .int (nI n2), .int (nI F2)])), (z1, .inl (cI, 30, .inl K2)), (z2, .inl (cI, 30, .inl Y2)), (z3, .inl (cI, 30, .inl P2)), (z4, .inl (cI, 30, .inl S2)), (z5, .inl (cI, 30, .inl O2)), (z6, .inl (cL, 30, .inr (.inl N2)))] H := hP
  refine lv_aload_n hx hb dX0_becomeLike_45 rfl (lv_at hl 1 rfl) ?_
  refine va_get (D := D) (ci := 0) (v := .ref z4) (C := RX0) (T := TX0) (N := 8) hx hb hts ih_X0_becomeLike_X0 hown hK.1 hP 7 rfl rfl 3 (by decide) (hts (.fieldLink RX0 21 "ParishNames$Chronicle" "sets" "[I") (by decide +kernel)) (fun _ h9 => h9) rfl dX0_becomeLike_46 ?_
  refine lv_iconst (v := (nI 0)) hx hb dX0_becomeLike_49 (by decide) ?_
  refine lv_aload_n hx hb dX0_becomeLike_50 rfl (lv_at hl 0 rfl) ?_
  refine va_get (D := D) (ci := 0) (v := .ref q4) (C := RX0) (T := TX0) (N := 8) hx hb hts ih_X0_becomeLike_X0 hown hK.1 hP 0 rfl rfl 3 (by decide) (hts (.fieldLink RX0 21 "ParishNames$Chronicle" "sets" "[I") (by decide +kernel)) (fun _ h9 => h9) rfl dX0_becomeLike_51 ?_
  refine lv_iconst (v := (nI 0)) hx hb dX0_becomeLike_54 (by decide) ?_
  refine lv_bipush (v := (nI 30)) hx hb dX0_becomeLike_55 (by decide) ?_
  refine va_copyi hx hb (by rw [hml]; exact hl.1.symm) hown (hts (.methodLink RX0 42 arraycopyName) (by decide +kernel)) (hts (.native arraycopyName) (by decide +kernel)) (hts (.static arraycopyName) (by decide +kernel)) (hts (.initialized "java/lang/System") (by decide +kernel)) hK.1 hP (pn_D hN rfl) hS 11 4 0 0 rfl rfl rfl rfl rfl (by decide) (by decide) (by decide) (by decide) (by decide) (fun _ _ => rfl) (Nat.le_of_ble_eq_true rfl) (Nat.le_of_ble_eq_true rfl) dX0_becomeLike_57 (fun H locs hP _ hS => ?_)
  have hP := pn_cgI (q := 4) (g := S2) hP rfl (fun i h => pn_cpy i h)
  have hP : va_P D vwCl [(h0, .inr (0, [.ref q1, .ref q2, .ref q3, .ref q4, .ref q5, .ref q6, .int (nI n), .int (nI F)])), (q1, .inl (cI, 30, .inl K2)), (q2, .inl (cI, 30, .inl Y2)), (q3, .inl (cI, 30, .inl P2)), (q4, .inl (cI, 30, .inl S2)), (q5, .inl (cI, 30, .inl O)), (q6, .inl (cL, 30, .inr (.inl N))), (g0, .inr (0, [.ref z1, .ref z2, .ref z3, .ref z4, .ref z5, .ref z6, .int (nI n2), .int (nI F2)])), (z1, .inl (cI, 30, .inl K2)), (z2, .inl (cI, 30, .inl Y2)), (z3, .inl (cI, 30, .inl P2)), (z4, .inl (cI, 30, .inl S2)), (z5, .inl (cI, 30, .inl O2)), (z6, .inl (cL, 30, .inr (.inl N2)))] H := hP
  refine lv_aload_n hx hb dX0_becomeLike_60 rfl (lv_at hl 1 rfl) ?_
  refine va_get (D := D) (ci := 0) (v := .ref z5) (C := RX0) (T := TX0) (N := 8) hx hb hts ih_X0_becomeLike_X0 hown hK.1 hP 7 rfl rfl 4 (by decide) (hts (.fieldLink RX0 24 "ParishNames$Chronicle" "owners" "[I") (by decide +kernel)) (fun _ h9 => h9) rfl dX0_becomeLike_61 ?_
  refine lv_iconst (v := (nI 0)) hx hb dX0_becomeLike_64 (by decide) ?_
  refine lv_aload_n hx hb dX0_becomeLike_65 rfl (lv_at hl 0 rfl) ?_
  refine va_get (D := D) (ci := 0) (v := .ref q5) (C := RX0) (T := TX0) (N := 8) hx hb hts ih_X0_becomeLike_X0 hown hK.1 hP 0 rfl rfl 4 (by decide) (hts (.fieldLink RX0 24 "ParishNames$Chronicle" "owners" "[I") (by decide +kernel)) (fun _ h9 => h9) rfl dX0_becomeLike_66 ?_
  refine lv_iconst (v := (nI 0)) hx hb dX0_becomeLike_69 (by decide) ?_
  refine lv_bipush (v := (nI 30)) hx hb dX0_becomeLike_70 (by decide) ?_
  refine va_copyi hx hb (by rw [hml]; exact hl.1.symm) hown (hts (.methodLink RX0 42 arraycopyName) (by decide +kernel)) (hts (.native arraycopyName) (by decide +kernel)) (hts (.static arraycopyName) (by decide +kernel)) (hts (.initialized "java/lang/System") (by decide +kernel)) hK.1 hP (pn_D hN rfl) hS 12 5 0 0 rfl rfl rfl rfl rfl (by decide) (by decide) (by decide) (by decide) (by decide) (fun _ _ => rfl) (Nat.le_of_ble_eq_true rfl) (Nat.le_of_ble_eq_true rfl) dX0_becomeLike_72 (fun H locs hP _ hS => ?_)
  have hP := pn_cgI (q := 5) (g := O2) hP rfl (fun i h => pn_cpy i h)
  have hP : va_P D vwCl [(h0, .inr (0, [.ref q1, .ref q2, .ref q3, .ref q4, .ref q5, .ref q6, .int (nI n), .int (nI F)])), (q1, .inl (cI, 30, .inl K2)), (q2, .inl (cI, 30, .inl Y2)), (q3, .inl (cI, 30, .inl P2)), (q4, .inl (cI, 30, .inl S2)), (q5, .inl (cI, 30, .inl O2)), (q6, .inl (cL, 30, .inr (.inl N))), (g0, .inr (0, [.ref z1, .ref z2, .ref z3, .ref z4, .ref z5, .ref z6, .int (nI n2), .int (nI F2)])), (z1, .inl (cI, 30, .inl K2)), (z2, .inl (cI, 30, .inl Y2)), (z3, .inl (cI, 30, .inl P2)), (z4, .inl (cI, 30, .inl S2)), (z5, .inl (cI, 30, .inl O2)), (z6, .inl (cL, 30, .inr (.inl N2)))] H := hP
  refine lv_aload_n hx hb dX0_becomeLike_75 rfl (lv_at hl 1 rfl) ?_
  refine va_get (D := D) (ci := 0) (v := .ref z6) (C := RX0) (T := TX0) (N := 8) hx hb hts ih_X0_becomeLike_X0 hown hK.1 hP 7 rfl rfl 5 (by decide) (hts (.fieldLink RX0 27 "ParishNames$Chronicle" "names" "[J") (by decide +kernel)) (fun _ h9 => h9) rfl dX0_becomeLike_76 ?_
  refine lv_iconst (v := (nI 0)) hx hb dX0_becomeLike_79 (by decide) ?_
  refine lv_aload_n hx hb dX0_becomeLike_80 rfl (lv_at hl 0 rfl) ?_
  refine va_get (D := D) (ci := 0) (v := .ref q6) (C := RX0) (T := TX0) (N := 8) hx hb hts ih_X0_becomeLike_X0 hown hK.1 hP 0 rfl rfl 5 (by decide) (hts (.fieldLink RX0 27 "ParishNames$Chronicle" "names" "[J") (by decide +kernel)) (fun _ h9 => h9) rfl dX0_becomeLike_81 ?_
  refine lv_iconst (v := (nI 0)) hx hb dX0_becomeLike_84 (by decide) ?_
  refine lv_bipush (v := (nI 30)) hx hb dX0_becomeLike_85 (by decide) ?_
  refine va_copyl hx hb (by rw [hml]; exact hl.1.symm) hown (hts (.methodLink RX0 42 arraycopyName) (by decide +kernel)) (hts (.native arraycopyName) (by decide +kernel)) (hts (.static arraycopyName) (by decide +kernel)) (hts (.initialized "java/lang/System") (by decide +kernel)) hK.1 hP (pn_D hN rfl) hS 13 6 1 1 rfl rfl rfl rfl rfl (by decide) (by decide) (by decide) (by decide) (by decide) (fun _ _ => rfl) (Nat.le_of_ble_eq_true rfl) (Nat.le_of_ble_eq_true rfl) dX0_becomeLike_87 (fun H locs hP _ hS => ?_)
  have hP := pn_cgL (q := 6) (g := N2) hP rfl (fun i h => pn_cpy i h)
  have hP : va_P D vwCl [(h0, .inr (0, [.ref q1, .ref q2, .ref q3, .ref q4, .ref q5, .ref q6, .int (nI n), .int (nI F)])), (q1, .inl (cI, 30, .inl K2)), (q2, .inl (cI, 30, .inl Y2)), (q3, .inl (cI, 30, .inl P2)), (q4, .inl (cI, 30, .inl S2)), (q5, .inl (cI, 30, .inl O2)), (q6, .inl (cL, 30, .inr (.inl N2))), (g0, .inr (0, [.ref z1, .ref z2, .ref z3, .ref z4, .ref z5, .ref z6, .int (nI n2), .int (nI F2)])), (z1, .inl (cI, 30, .inl K2)), (z2, .inl (cI, 30, .inl Y2)), (z3, .inl (cI, 30, .inl P2)), (z4, .inl (cI, 30, .inl S2)), (z5, .inl (cI, 30, .inl O2)), (z6, .inl (cL, 30, .inr (.inl N2)))] H := hP
  refine lv_aload_n hx hb dX0_becomeLike_90 rfl (lv_at hl 0 rfl) ?_
  refine lv_aload_n hx hb dX0_becomeLike_91 rfl (lv_at hl 1 rfl) ?_
  refine va_get (D := D) (ci := 0) (v := .int (nI n2)) (C := RX0) (T := TX0) (N := 8) hx hb hts ih_X0_becomeLike_X0 hown hK.1 hP 7 rfl rfl 6 (by decide) (hts (.fieldLink RX0 31 "ParishNames$Chronicle" "told" "I") (by decide +kernel)) (fun _ h9 => h9) rfl dX0_becomeLike_92 ?_
  refine va_put (D := D) (ci := 0) (v := .int (nI n2)) (ty := .int) (C := RX0) (T := TX0) (N := 8) hx hb hts ih_X0_becomeLike_X0 tyX0 tyX0_ok nmX0 hown hK.1 hP (pn_D hN rfl) hS 0 rfl rfl 6 (by decide) (hts (.fieldLink RX0 31 "ParishNames$Chronicle" "told" "I") (by decide +kernel)) (fun _ h9 => h9) rfl (by decide +kernel) rfl rfl (Nat.le_of_ble_eq_true rfl) dX0_becomeLike_95 (fun H locs hP _ hS => ?_)
  have hP : va_P D vwCl [(h0, .inr (0, [.ref q1, .ref q2, .ref q3, .ref q4, .ref q5, .ref q6, .int (nI n2), .int (nI F)])), (q1, .inl (cI, 30, .inl K2)), (q2, .inl (cI, 30, .inl Y2)), (q3, .inl (cI, 30, .inl P2)), (q4, .inl (cI, 30, .inl S2)), (q5, .inl (cI, 30, .inl O2)), (q6, .inl (cL, 30, .inr (.inl N2))), (g0, .inr (0, [.ref z1, .ref z2, .ref z3, .ref z4, .ref z5, .ref z6, .int (nI n2), .int (nI F2)])), (z1, .inl (cI, 30, .inl K2)), (z2, .inl (cI, 30, .inl Y2)), (z3, .inl (cI, 30, .inl P2)), (z4, .inl (cI, 30, .inl S2)), (z5, .inl (cI, 30, .inl O2)), (z6, .inl (cL, 30, .inr (.inl N2)))] H := hP
  refine lv_aload_n hx hb dX0_becomeLike_98 rfl (lv_at hl 0 rfl) ?_
  refine lv_aload_n hx hb dX0_becomeLike_99 rfl (lv_at hl 1 rfl) ?_
  refine va_get (D := D) (ci := 0) (v := .int (nI F2)) (C := RX0) (T := TX0) (N := 8) hx hb hts ih_X0_becomeLike_X0 hown hK.1 hP 7 rfl rfl 7 (by decide) (hts (.fieldLink RX0 35 "ParishNames$Chronicle" "founded" "I") (by decide +kernel)) (fun _ h9 => h9) rfl dX0_becomeLike_100 ?_
  refine va_put (D := D) (ci := 0) (v := .int (nI F2)) (ty := .int) (C := RX0) (T := TX0) (N := 8) hx hb hts ih_X0_becomeLike_X0 tyX0 tyX0_ok nmX0 hown hK.1 hP (pn_D hN rfl) hS 0 rfl rfl 7 (by decide) (hts (.fieldLink RX0 35 "ParishNames$Chronicle" "founded" "I") (by decide +kernel)) (fun _ h9 => h9) rfl (by decide +kernel) rfl rfl (Nat.le_of_ble_eq_true rfl) dX0_becomeLike_103 (fun H locs hP _ hS => ?_)
  have hP : va_P D vwCl [(h0, .inr (0, [.ref q1, .ref q2, .ref q3, .ref q4, .ref q5, .ref q6, .int (nI n2), .int (nI F2)])), (q1, .inl (cI, 30, .inl K2)), (q2, .inl (cI, 30, .inl Y2)), (q3, .inl (cI, 30, .inl P2)), (q4, .inl (cI, 30, .inl S2)), (q5, .inl (cI, 30, .inl O2)), (q6, .inl (cL, 30, .inr (.inl N2))), (g0, .inr (0, [.ref z1, .ref z2, .ref z3, .ref z4, .ref z5, .ref z6, .int (nI n2), .int (nI F2)])), (z1, .inl (cI, 30, .inl K2)), (z2, .inl (cI, 30, .inl Y2)), (z3, .inl (cI, 30, .inl P2)), (z4, .inl (cI, 30, .inl S2)), (z5, .inl (cI, 30, .inl O2)), (z6, .inl (cL, 30, .inr (.inl N2)))] H := hP
  exact W.vret hx hb hr (fun t ht hW => ⟨⟨(), rfl, trivial, pn_atH ht hP⟩, hS.F ht⟩) hS.2.2 dX0_becomeLike_106 hlocks
end
section
theorem ih_X1_distance_X1 : ∀ w ∈ wsX10, w ∈ wsX1_distance := by decide +kernel
set_option maxHeartbeats 4000000 in
set_option maxRecDepth 100000 in
theorem c_X1_distance (l : Launch) (D : va_G) (cI cL cZ cO : ClassId) (z0 z1 : Nat) (Rw : Nat → Int32) (x1 : Int64) (x2 : Int64) (hN : [z0, z1].Nodup) : Met l yX1_distance wsX1_distance ({ frames := 2, cells := 0, slots := 0, locals := 44 }) (va_Pc [.ref z0, .long x1, .long x2] (pn_Pr D cI cL cZ cO [(z0, .inr (1, [.ref z1])), (z1, .inl (cI, 9, .inl Rw))])) (va_Qi (fun r (u : Nat → Int32) => r = (nI (pn_lev (pn_let x1) (pn_let x2) (pn_len x1) (pn_len x2)))) (fun (u : Nat → Int32) t => va_P D vwCl [(z0, .inr (1, [.ref z1])), (z1, .inl (cI, 9, .inl u))] t.heap) (pn_In [z0, z1])) 0 0 (pn_In [z0, z1]) := by
  refine pn_mk (by decide) rfl (Nat.le_of_ble_eq_true rfl) ?_
  intro p e s m below meth c ls hx hb hr hml hown hts hlocks hK hP hl
  have hown : s.vm.findClass RX1 = some m.cls := hown
  have hS : va_S (pn_In [z0, z1]) s.heap s.heap [] := va_S.rf
  have hl : lv_has ls 11 [(0, .ref z0), (1, .long x1), (3, .long x2)] := hl
  have h8a := pn_len8 x1
  have h8b := pn_len8 x2
  refine lv_lload_n hx hb dX1_distance_0 rfl (lv_at hl 1 rfl) ?_
  refine pn_roi (w := [(z0, .inr (1, [.ref z1])), (z1, .inl (cI, 9, .inl Rw))]) hP hS (va_runS (As := [.long x1]) (rest := []) ⟨hx, hb, hml, hown, hts⟩ (c_X1_lengthOf l D cI cL cZ cO x1) (va_cwS 1 hts gX1_distance_X1_lengthOf rfl rfl rfl (by decide +kernel) ⟨Nat.le_of_ble_eq_true rfl, Nat.le_of_ble_eq_true rfl⟩) (pn_ps (WS := []) (fun k q h => by simp at h) hK) rfl rfl hl.1 rfl (lv_room (Nat.le_of_ble_eq_true rfl)) dX1_distance_1 ⟨Nat.le_of_ble_eq_true rfl, Nat.le_of_ble_eq_true rfl⟩) (fun H locs hP hS => ?_)
  refine lv_istore (lv' := [(5, .int (nI (pn_len x1))), (0, .ref z0), (1, .long x1), (3, .long x2)]) hx hb dX1_distance_4 hl (by decide) rfl (fun ls hl => ?_)
  refine lv_lload_n hx hb dX1_distance_6 rfl (lv_at hl 3 rfl) ?_
  refine pn_roi (w := [(z0, .inr (1, [.ref z1])), (z1, .inl (cI, 9, .inl Rw))]) hP hS (va_runS (As := [.long x2]) (rest := []) ⟨hx, hb, hml, hown, hts⟩ (c_X1_lengthOf l D cI cL cZ cO x2) (va_cwS 1 hts gX1_distance_X1_lengthOf rfl rfl rfl (by decide +kernel) ⟨Nat.le_of_ble_eq_true rfl, Nat.le_of_ble_eq_true rfl⟩) (pn_ps (WS := []) (fun k q h => by simp at h) hK) rfl rfl hl.1 rfl (lv_room (Nat.le_of_ble_eq_true rfl)) dX1_distance_7 ⟨Nat.le_of_ble_eq_true rfl, Nat.le_of_ble_eq_true rfl⟩) (fun H locs hP hS => ?_)
  refine lv_istore (lv' := [(6, .int (nI (pn_len x2))), (5, .int (nI (pn_len x1))), (0, .ref z0), (1, .long x1), (3, .long x2)]) hx hb dX1_distance_10 hl (by decide) rfl (fun ls hl => ?_)
  refine lv_iconst (v := (nI 0)) hx hb dX1_distance_12 (by decide) ?_
  refine lv_istore (lv' := [(7, .int (nI 0)), (6, .int (nI (pn_len x2))), (5, .int (nI (pn_len x1))), (0, .ref z0), (1, .long x1), (3, .long x2)]) hx hb dX1_distance_13 hl (by decide) rfl (fun ls hl => ?_)
  have lp15_1 : ∀ (fu : Nat) (k : Nat) (Ra : Nat → Int32), pn_len x2 + 1 - k < fu → (k ≤ pn_len x2 + 1) → (∀ i, i < k → Ra i = nI i) → ∀ (H : Heap) (locs : List Loc) (ls : Array Slot), va_P D vwCl [(z0, .inr (1, [.ref z1])), (z1, .inl (cI, 9, .inl Ra))] H → va_S (pn_In [z0, z1]) s.heap H locs → lv_has ls 11 [(0, .ref z0), (1, .long x1), (3, .long x2), (5, .int (nI (pn_len x1))), (6, .int (nI (pn_len x2))), (7, .int (nI k))] → W p l e ({ frames := 2, cells := 0, slots := 0, locals := 44 }) s m (List.toArray [.ref z0, .long x1, .long x2]) below meth c H locs 0 0 (MQ below (va_Qi (fun r (u : Nat → Int32) => r = (nI (pn_lev (pn_let x1) (pn_let x2) (pn_len x1) (pn_len x2)))) (fun (u : Nat → Int32) t => va_P D vwCl [(z0, .inr (1, [.ref z1])), (z1, .inl (cI, 9, .inl u))] t.heap) (pn_In [z0, z1])) (List.toArray [.ref z0, .long x1, .long x2]) s 0 0 (pn_In [z0, z1])) (F0 m 15 ls []) := by
    intro fu
    induction fu with
    | zero => intro k Ra hfu; exact absurd hfu (Nat.not_lt_zero _)
    | succ fu ih15_1 =>
      intro k Ra hfu hk e1 H locs ls hP hS hl
      refine lv_iload hx hb dX1_distance_15 (lv_at hl 5 rfl) ?_
      refine lv_iload hx hb dX1_distance_17 (lv_at hl 4 rfl) ?_
      refine lv_icmp_gt (tgt := 37) hx hb dX1_distance_19 (by decide) (fun c_2 => ?_) (fun c_2 => ?_)
      · have c_2 : (pn_len x2) < k := (pn_lt (by omega) (by omega)).mp (show nI (pn_len x2) < nI k from c_2)
        refine lv_iconst (v := (nI 1)) hx hb dX1_distance_37 (by decide) ?_
        refine lv_istore (lv' := [(7, .int (nI 1)), (0, .ref z0), (1, .long x1), (3, .long x2), (5, .int (nI (pn_len x1))), (6, .int (nI (pn_len x2)))]) hx hb dX1_distance_38 hl (by decide) rfl (fun ls hl => ?_)
        have lp40_3 : ∀ (fu : Nat) (i : Nat) (Rb : Nat → Int32), pn_len x1 + 1 - i < fu → (i ≤ pn_len x1) → (∀ j, j ≤ pn_len x2 → Rb j = nI (pn_lev (pn_let x1) (pn_let x2) i j)) → ∀ (H : Heap) (locs : List Loc) (ls : Array Slot), va_P D vwCl [(z0, .inr (1, [.ref z1])), (z1, .inl (cI, 9, .inl Rb))] H → va_S (pn_In [z0, z1]) s.heap H locs → lv_has ls 11 [(0, .ref z0), (1, .long x1), (3, .long x2), (5, .int (nI (pn_len x1))), (6, .int (nI (pn_len x2))), (7, .int (nI (i + 1)))] → W p l e ({ frames := 2, cells := 0, slots := 0, locals := 44 }) s m (List.toArray [.ref z0, .long x1, .long x2]) below meth c H locs 0 0 (MQ below (va_Qi (fun r (u : Nat → Int32) => r = (nI (pn_lev (pn_let x1) (pn_let x2) (pn_len x1) (pn_len x2)))) (fun (u : Nat → Int32) t => va_P D vwCl [(z0, .inr (1, [.ref z1])), (z1, .inl (cI, 9, .inl u))] t.heap) (pn_In [z0, z1])) (List.toArray [.ref z0, .long x1, .long x2]) s 0 0 (pn_In [z0, z1])) (F0 m 40 ls []) := by
          intro fu
          induction fu with
          | zero => intro i Rb hfu; exact absurd hfu (Nat.not_lt_zero _)
          | succ fu ih40_3 =>
            intro i Rb hfu hi e2 H locs ls hP hS hl
            refine lv_iload hx hb dX1_distance_40 (lv_at hl 5 rfl) ?_
            refine lv_iload hx hb dX1_distance_42 (lv_at hl 3 rfl) ?_
            refine lv_icmp_gt (tgt := 152) hx hb dX1_distance_44 (by decide) (fun c_4 => ?_) (fun c_4 => ?_)
            · have c_4 : (pn_len x1) < (i + 1) := (pn_lt (by omega) (by omega)).mp (show nI (pn_len x1) < nI (i + 1) from c_4)
              refine lv_aload_n hx hb dX1_distance_152 rfl (lv_at hl 0 rfl) ?_
              refine va_get (D := D) (ci := 1) (v := .ref z1) (C := RX1) (T := TX1) (N := 1) hx hb hts ih_X1_distance_X1 hown hK.1 hP 0 rfl rfl 0 (by decide) (hts (.fieldLink RX1 9 "ParishNames$Speller" "row" "[I") (by decide +kernel)) (fun _ h9 => h9) rfl dX1_distance_153 ?_
              refine lv_iload hx hb dX1_distance_156 (lv_at hl 4 rfl) ?_
              refine pn_iald hx hb hK.1 hP 1 0 rfl rfl (i := (pn_len x2)) (by omega) (Nat.le_of_ble_eq_true rfl) dX1_distance_158 ?_
              exact W.iret hx hb hr (fun t ht hW => ⟨⟨_, Rb, rfl, (by rw [e2 _ (Nat.le_refl _), show i = pn_len x1 by omega]), pn_atH ht hP⟩, hS.F ht⟩) hS.2.2 dX1_distance_159 hlocks
            · have c_4 : ¬ (pn_len x1) < (i + 1) := fun h => (show ¬ nI (pn_len x1) < nI (i + 1) from c_4) ((pn_lt (by omega) (by omega)).mpr h)
              refine lv_aload_n hx hb dX1_distance_47 rfl (lv_at hl 0 rfl) ?_
              refine va_get (D := D) (ci := 1) (v := .ref z1) (C := RX1) (T := TX1) (N := 1) hx hb hts ih_X1_distance_X1 hown hK.1 hP 0 rfl rfl 0 (by decide) (hts (.fieldLink RX1 9 "ParishNames$Speller" "row" "[I") (by decide +kernel)) (fun _ h9 => h9) rfl dX1_distance_48 ?_
              refine lv_iconst (v := (nI 0)) hx hb dX1_distance_51 (by decide) ?_
              refine pn_iald hx hb hK.1 hP 1 0 rfl rfl (i := 0) (by omega) (Nat.le_of_ble_eq_true rfl) dX1_distance_52 ?_
              refine pn_top (y := (nI (pn_lev (pn_let x1) (pn_let x2) i 0))) (e2 0 (Nat.zero_le _)) ?_
              refine lv_istore (lv' := [(8, .int (nI (pn_lev (pn_let x1) (pn_let x2) i 0))), (0, .ref z0), (1, .long x1), (3, .long x2), (5, .int (nI (pn_len x1))), (6, .int (nI (pn_len x2))), (7, .int (nI (i + 1)))]) hx hb dX1_distance_53 hl (by decide) rfl (fun ls hl => ?_)
              refine lv_aload_n hx hb dX1_distance_55 rfl (lv_at hl 1 rfl) ?_
              refine va_get (D := D) (ci := 1) (v := .ref z1) (C := RX1) (T := TX1) (N := 1) hx hb hts ih_X1_distance_X1 hown hK.1 hP 0 rfl rfl 0 (by decide) (hts (.fieldLink RX1 9 "ParishNames$Speller" "row" "[I") (by decide +kernel)) (fun _ h9 => h9) rfl dX1_distance_56 ?_
              refine lv_iconst (v := (nI 0)) hx hb dX1_distance_59 (by decide) ?_
              refine lv_iload hx hb dX1_distance_60 (lv_at hl 6 rfl) ?_
              refine pn_iast hx hb hK.1 hP (pn_D hN rfl) hS 1 0 rfl rfl (i := 0) (by omega) (Nat.le_of_ble_eq_true rfl) dX1_distance_62 (fun H locs hP hS => ?_)
              have hP : va_P D vwCl [(z0, .inr (1, [.ref z1])), (z1, .inl (cI, 9, .inl (upd Rb 0 (nI (i + 1)))))] H := hP
              refine lv_iconst (v := (nI 1)) hx hb dX1_distance_63 (by decide) ?_
              refine lv_istore (lv' := [(9, .int (nI 1)), (8, .int (nI (pn_lev (pn_let x1) (pn_let x2) i 0))), (0, .ref z0), (1, .long x1), (3, .long x2), (5, .int (nI (pn_len x1))), (6, .int (nI (pn_len x2))), (7, .int (nI (i + 1)))]) hx hb dX1_distance_64 hl (by decide) rfl (fun ls hl => ?_)
              have lp66_5 : ∀ (fu : Nat) (j : Nat) (Rc : Nat → Int32) (sl : Nat), pn_len x2 + 1 - j < fu → (j ≤ pn_len x2) → (∀ t, t ≤ j → Rc t = nI (pn_lev (pn_let x1) (pn_let x2) (i + 1) t)) → (∀ t, j < t → t ≤ pn_len x2 → Rc t = nI (pn_lev (pn_let x1) (pn_let x2) i t)) → (sl = (pn_lev (pn_let x1) (pn_let x2) i j)) → ∀ (H : Heap) (locs : List Loc) (ls : Array Slot), va_P D vwCl [(z0, .inr (1, [.ref z1])), (z1, .inl (cI, 9, .inl Rc))] H → va_S (pn_In [z0, z1]) s.heap H locs → lv_has ls 11 [(0, .ref z0), (1, .long x1), (3, .long x2), (5, .int (nI (pn_len x1))), (6, .int (nI (pn_len x2))), (7, .int (nI (i + 1))), (8, .int (nI sl)), (9, .int (nI (j + 1)))] → W p l e ({ frames := 2, cells := 0, slots := 0, locals := 44 }) s m (List.toArray [.ref z0, .long x1, .long x2]) below meth c H locs 0 0 (MQ below (va_Qi (fun r (u : Nat → Int32) => r = (nI (pn_lev (pn_let x1) (pn_let x2) (pn_len x1) (pn_len x2)))) (fun (u : Nat → Int32) t => va_P D vwCl [(z0, .inr (1, [.ref z1])), (z1, .inl (cI, 9, .inl u))] t.heap) (pn_In [z0, z1])) (List.toArray [.ref z0, .long x1, .long x2]) s 0 0 (pn_In [z0, z1])) (F0 m 66 ls []) := by
                intro fu
                induction fu with
                | zero => intro j Rc sl hfu; exact absurd hfu (Nat.not_lt_zero _)
                | succ fu ih66_5 =>
                  intro j Rc sl hfu hj e3 e4 e5 H locs ls hP hS hl
                  have b1 := pn_lev_le (pn_let x1) (pn_let x2) i j
                  have b2 := pn_lev_le (pn_let x1) (pn_let x2) i (j + 1)
                  have b3 := pn_lev_le (pn_let x1) (pn_let x2) (i + 1) j
                  refine lv_iload hx hb dX1_distance_66 (lv_at hl 7 rfl) ?_
                  refine lv_iload hx hb dX1_distance_68 (lv_at hl 4 rfl) ?_
                  refine lv_icmp_gt (tgt := 146) hx hb dX1_distance_70 (by decide) (fun c_6 => ?_) (fun c_6 => ?_)
                  · have c_6 : (pn_len x2) < (j + 1) := (pn_lt (by omega) (by omega)).mp (show nI (pn_len x2) < nI (j + 1) from c_6)
                    refine lv_iinc (v := (nI ((i + 1) + 1))) (lv' := [(7, .int (nI ((i + 1) + 1))), (0, .ref z0), (1, .long x1), (3, .long x2), (5, .int (nI (pn_len x1))), (6, .int (nI (pn_len x2))), (8, .int (nI sl)), (9, .int (nI (j + 1)))]) hx hb dX1_distance_146 hl (k := 5) rfl (nI_add (i + 1) 1) (by decide) rfl (fun ls hl => ?_)
                    refine lv_goto (tgt := 40) hx hb dX1_distance_149 (by decide) ?_
                    exact ih40_3 (i + 1) Rc (by omega) (by first | omega | assumption | grind | simp_all) (fun t h => e3 t (by omega)) _ _ _ hP hS (lv_sub hl [1, 2, 3, 4, 5, 0] rfl)
                  · have c_6 : ¬ (pn_len x2) < (j + 1) := fun h => (show ¬ nI (pn_len x2) < nI (j + 1) from c_6) ((pn_lt (by omega) (by omega)).mpr h)
                    refine lv_lload_n hx hb dX1_distance_73 rfl (lv_at hl 1 rfl) ?_
                    refine lv_iload hx hb dX1_distance_74 (lv_at hl 5 rfl) ?_
                    refine lv_iconst (v := (nI 1)) hx hb dX1_distance_76 (by decide) ?_
                    refine pn_isub hx hb (by omega) dX1_distance_77 ?_
                    refine pn_top (y := (nI i)) rfl ?_
                    refine pn_roi (w := [(z0, .inr (1, [.ref z1])), (z1, .inl (cI, 9, .inl Rc))]) hP hS (va_runS (As := [.long x1, .int (nI i)]) (rest := []) ⟨hx, hb, hml, hown, hts⟩ (c_X1_letterOf l D cI cL cZ cO x1 i) (va_cwS 2 hts gX1_distance_X1_letterOf rfl rfl rfl (by decide +kernel) ⟨Nat.le_of_ble_eq_true rfl, Nat.le_of_ble_eq_true rfl⟩) (pn_ps (WS := []) (fun k q h => by simp at h) hK) rfl rfl hl.1 rfl (lv_room (Nat.le_of_ble_eq_true rfl)) dX1_distance_78 ⟨Nat.le_of_ble_eq_true rfl, Nat.le_of_ble_eq_true rfl⟩) (fun H locs hP hS => ?_)
                    refine lv_lload_n hx hb dX1_distance_81 rfl (lv_at hl 2 rfl) ?_
                    refine lv_iload hx hb dX1_distance_82 (lv_at hl 7 rfl) ?_
                    refine lv_iconst (v := (nI 1)) hx hb dX1_distance_84 (by decide) ?_
                    refine pn_isub hx hb (by omega) dX1_distance_85 ?_
                    refine pn_top (y := (nI j)) rfl ?_
                    refine pn_roi (w := [(z0, .inr (1, [.ref z1])), (z1, .inl (cI, 9, .inl Rc))]) hP hS (va_runS (As := [.long x2, .int (nI j)]) (rest := [.int (pn_let x1 i)]) ⟨hx, hb, hml, hown, hts⟩ (c_X1_letterOf l D cI cL cZ cO x2 j) (va_cwS 2 hts gX1_distance_X1_letterOf rfl rfl rfl (by decide +kernel) ⟨Nat.le_of_ble_eq_true rfl, Nat.le_of_ble_eq_true rfl⟩) (pn_ps (WS := []) (fun k q h => by simp at h) hK) rfl rfl hl.1 rfl (lv_room (Nat.le_of_ble_eq_true rfl)) dX1_distance_86 ⟨Nat.le_of_ble_eq_true rfl, Nat.le_of_ble_eq_true rfl⟩) (fun H locs hP hS => ?_)
                    refine lv_icmp_ne (tgt := 97) hx hb dX1_distance_89 (by decide) (fun c_7 => ?_) (fun c_7 => ?_)
                    · have hcmp := c_7
                      refine lv_iload hx hb dX1_distance_97 (lv_at hl 6 rfl) ?_
                      refine lv_iconst (v := (nI 1)) hx hb dX1_distance_99 (by decide) ?_
                      refine pn_iadd hx hb dX1_distance_100 ?_
                      refine lv_istore (lv' := [(10, .int (nI (sl + 1))), (0, .ref z0), (1, .long x1), (3, .long x2), (5, .int (nI (pn_len x1))), (6, .int (nI (pn_len x2))), (7, .int (nI (i + 1))), (8, .int (nI sl)), (9, .int (nI (j + 1)))]) hx hb dX1_distance_101 hl (by decide) rfl (fun ls hl => ?_)
                      refine lv_aload_n hx hb dX1_distance_103 rfl (lv_at hl 1 rfl) ?_
                      refine va_get (D := D) (ci := 1) (v := .ref z1) (C := RX1) (T := TX1) (N := 1) hx hb hts ih_X1_distance_X1 hown hK.1 hP 0 rfl rfl 0 (by decide) (hts (.fieldLink RX1 9 "ParishNames$Speller" "row" "[I") (by decide +kernel)) (fun _ h9 => h9) rfl dX1_distance_104 ?_
                      refine lv_iload hx hb dX1_distance_107 (lv_at hl 8 rfl) ?_
                      refine pn_iald hx hb hK.1 hP 1 0 rfl rfl (i := (j + 1)) (by omega) (Nat.le_of_ble_eq_true rfl) dX1_distance_109 ?_
                      refine pn_top (y := (nI (pn_lev (pn_let x1) (pn_let x2) i (j + 1)))) (e4 (j + 1) (by omega) (by omega)) ?_
                      refine lv_istore (lv' := [(8, .int (nI (pn_lev (pn_let x1) (pn_let x2) i (j + 1)))), (10, .int (nI (sl + 1))), (0, .ref z0), (1, .long x1), (3, .long x2), (5, .int (nI (pn_len x1))), (6, .int (nI (pn_len x2))), (7, .int (nI (i + 1))), (9, .int (nI (j + 1)))]) hx hb dX1_distance_110 hl (by decide) rfl (fun ls hl => ?_)
                      refine lv_aload_n hx hb dX1_distance_112 rfl (lv_at hl 2 rfl) ?_
                      refine va_get (D := D) (ci := 1) (v := .ref z1) (C := RX1) (T := TX1) (N := 1) hx hb hts ih_X1_distance_X1 hown hK.1 hP 0 rfl rfl 0 (by decide) (hts (.fieldLink RX1 9 "ParishNames$Speller" "row" "[I") (by decide +kernel)) (fun _ h9 => h9) rfl dX1_distance_113 ?_
                      refine lv_iload hx hb dX1_distance_116 (lv_at hl 8 rfl) ?_
                      refine lv_iload hx hb dX1_distance_118 (lv_at hl 1 rfl) ?_
                      refine lv_iload hx hb dX1_distance_120 (lv_at hl 0 rfl) ?_
                      refine lv_aload_n hx hb dX1_distance_122 rfl (lv_at hl 2 rfl) ?_
                      refine va_get (D := D) (ci := 1) (v := .ref z1) (C := RX1) (T := TX1) (N := 1) hx hb hts ih_X1_distance_X1 hown hK.1 hP 0 rfl rfl 0 (by decide) (hts (.fieldLink RX1 9 "ParishNames$Speller" "row" "[I") (by decide +kernel)) (fun _ h9 => h9) rfl dX1_distance_123 ?_
                      refine lv_iload hx hb dX1_distance_126 (lv_at hl 8 rfl) ?_
                      refine lv_iconst (v := (nI 1)) hx hb dX1_distance_128 (by decide) ?_
                      refine pn_isub hx hb (by omega) dX1_distance_129 ?_
                      refine pn_top (y := (nI j)) rfl ?_
                      refine pn_iald hx hb hK.1 hP 1 0 rfl rfl (i := j) (by omega) (Nat.le_of_ble_eq_true rfl) dX1_distance_130 ?_
                      refine pn_top (y := (nI (pn_lev (pn_let x1) (pn_let x2) (i + 1) j))) (e3 j (Nat.le_refl _)) ?_
                      refine va_mmin hx hb (by rw [hml]; exact hl.1.symm) hown (hts (.methodLink RX1 38 Lib.Math.min.name) (by decide +kernel)) (hts (.static Lib.Math.min.name) (by decide +kernel)) (hts (.initialized "java/lang/Math") (by decide +kernel)) (hts (.code Lib.Math.min.name Lib.Math.min.code 2 (some .int)) (by decide +kernel)) (Nat.le_of_ble_eq_true rfl) (Nat.le_of_ble_eq_true rfl) (Nat.le_of_ble_eq_true rfl) (Nat.le_of_ble_eq_true rfl) dX1_distance_131 ?_
                      refine pn_top (y := (nI (min (pn_lev (pn_let x1) (pn_let x2) i (j + 1)) (pn_lev (pn_let x1) (pn_let x2) (i + 1) j)))) (pn_minI (by omega) (by omega)) ?_
                      refine lv_iconst (v := (nI 1)) hx hb dX1_distance_134 (by decide) ?_
                      refine pn_iadd hx hb dX1_distance_135 ?_
                      refine va_mmin hx hb (by rw [hml]; exact hl.1.symm) hown (hts (.methodLink RX1 38 Lib.Math.min.name) (by decide +kernel)) (hts (.static Lib.Math.min.name) (by decide +kernel)) (hts (.initialized "java/lang/Math") (by decide +kernel)) (hts (.code Lib.Math.min.name Lib.Math.min.code 2 (some .int)) (by decide +kernel)) (Nat.le_of_ble_eq_true rfl) (Nat.le_of_ble_eq_true rfl) (Nat.le_of_ble_eq_true rfl) (Nat.le_of_ble_eq_true rfl) dX1_distance_136 ?_
                      refine pn_top (y := (nI (min (sl + 1) ((min (pn_lev (pn_let x1) (pn_let x2) i (j + 1)) (pn_lev (pn_let x1) (pn_let x2) (i + 1) j)) + 1)))) (pn_minI (by omega) (by omega)) ?_
                      refine pn_iast hx hb hK.1 hP (pn_D hN rfl) hS 1 0 rfl rfl (i := (j + 1)) (by omega) (Nat.le_of_ble_eq_true rfl) dX1_distance_139 (fun H locs hP hS => ?_)
                      have hP : va_P D vwCl [(z0, .inr (1, [.ref z1])), (z1, .inl (cI, 9, .inl (upd Rc (j + 1) (nI (min (sl + 1) ((min (pn_lev (pn_let x1) (pn_let x2) i (j + 1)) (pn_lev (pn_let x1) (pn_let x2) (i + 1) j)) + 1))))))] H := hP
                      refine lv_iinc (v := (nI ((j + 1) + 1))) (lv' := [(9, .int (nI ((j + 1) + 1))), (8, .int (nI (pn_lev (pn_let x1) (pn_let x2) i (j + 1)))), (10, .int (nI (sl + 1))), (0, .ref z0), (1, .long x1), (3, .long x2), (5, .int (nI (pn_len x1))), (6, .int (nI (pn_len x2))), (7, .int (nI (i + 1)))]) hx hb dX1_distance_140 hl (k := 8) rfl (nI_add (j + 1) 1) (by decide) rfl (fun ls hl => ?_)
                      refine lv_goto (tgt := 66) hx hb dX1_distance_143 (by decide) ?_
                      exact ih66_5 (j + 1) (upd Rc (j + 1) (nI (min (sl + 1) ((min (pn_lev (pn_let x1) (pn_let x2) i (j + 1)) (pn_lev (pn_let x1) (pn_let x2) (i + 1) j)) + 1)))) (pn_lev (pn_let x1) (pn_let x2) i (j + 1)) (by omega) (by first | omega | assumption | grind | simp_all) (pn_row3 e3 (by rw [e5]; first | exact pn_lev_t hcmp | exact pn_lev_f hcmp)) (fun t h1 h2 => by rw [pk_un (by omega)]; exact e4 t (by omega) h2) rfl _ _ _ hP hS (lv_sub hl [3, 4, 5, 6, 7, 8, 1, 0] rfl)
                    · have hcmp := c_7
                      refine lv_iload hx hb dX1_distance_92 (lv_at hl 6 rfl) ?_
                      refine lv_goto (tgt := 101) hx hb dX1_distance_94 (by decide) ?_
                      refine lv_istore (lv' := [(10, .int (nI sl)), (0, .ref z0), (1, .long x1), (3, .long x2), (5, .int (nI (pn_len x1))), (6, .int (nI (pn_len x2))), (7, .int (nI (i + 1))), (8, .int (nI sl)), (9, .int (nI (j + 1)))]) hx hb dX1_distance_101 hl (by decide) rfl (fun ls hl => ?_)
                      refine lv_aload_n hx hb dX1_distance_103 rfl (lv_at hl 1 rfl) ?_
                      refine va_get (D := D) (ci := 1) (v := .ref z1) (C := RX1) (T := TX1) (N := 1) hx hb hts ih_X1_distance_X1 hown hK.1 hP 0 rfl rfl 0 (by decide) (hts (.fieldLink RX1 9 "ParishNames$Speller" "row" "[I") (by decide +kernel)) (fun _ h9 => h9) rfl dX1_distance_104 ?_
                      refine lv_iload hx hb dX1_distance_107 (lv_at hl 8 rfl) ?_
                      refine pn_iald hx hb hK.1 hP 1 0 rfl rfl (i := (j + 1)) (by omega) (Nat.le_of_ble_eq_true rfl) dX1_distance_109 ?_
                      refine pn_top (y := (nI (pn_lev (pn_let x1) (pn_let x2) i (j + 1)))) (e4 (j + 1) (by omega) (by omega)) ?_
                      refine lv_istore (lv' := [(8, .int (nI (pn_lev (pn_let x1) (pn_let x2) i (j + 1)))), (10, .int (nI sl)), (0, .ref z0), (1, .long x1), (3, .long x2), (5, .int (nI (pn_len x1))), (6, .int (nI (pn_len x2))), (7, .int (nI (i + 1))), (9, .int (nI (j + 1)))]) hx hb dX1_distance_110 hl (by decide) rfl (fun ls hl => ?_)
                      refine lv_aload_n hx hb dX1_distance_112 rfl (lv_at hl 2 rfl) ?_
                      refine va_get (D := D) (ci := 1) (v := .ref z1) (C := RX1) (T := TX1) (N := 1) hx hb hts ih_X1_distance_X1 hown hK.1 hP 0 rfl rfl 0 (by decide) (hts (.fieldLink RX1 9 "ParishNames$Speller" "row" "[I") (by decide +kernel)) (fun _ h9 => h9) rfl dX1_distance_113 ?_
                      refine lv_iload hx hb dX1_distance_116 (lv_at hl 8 rfl) ?_
                      refine lv_iload hx hb dX1_distance_118 (lv_at hl 1 rfl) ?_
                      refine lv_iload hx hb dX1_distance_120 (lv_at hl 0 rfl) ?_
                      refine lv_aload_n hx hb dX1_distance_122 rfl (lv_at hl 2 rfl) ?_
                      refine va_get (D := D) (ci := 1) (v := .ref z1) (C := RX1) (T := TX1) (N := 1) hx hb hts ih_X1_distance_X1 hown hK.1 hP 0 rfl rfl 0 (by decide) (hts (.fieldLink RX1 9 "ParishNames$Speller" "row" "[I") (by decide +kernel)) (fun _ h9 => h9) rfl dX1_distance_123 ?_
                      refine lv_iload hx hb dX1_distance_126 (lv_at hl 8 rfl) ?_
                      refine lv_iconst (v := (nI 1)) hx hb dX1_distance_128 (by decide) ?_
                      refine pn_isub hx hb (by omega) dX1_distance_129 ?_
                      refine pn_top (y := (nI j)) rfl ?_
                      refine pn_iald hx hb hK.1 hP 1 0 rfl rfl (i := j) (by omega) (Nat.le_of_ble_eq_true rfl) dX1_distance_130 ?_
                      refine pn_top (y := (nI (pn_lev (pn_let x1) (pn_let x2) (i + 1) j))) (e3 j (Nat.le_refl _)) ?_
                      refine va_mmin hx hb (by rw [hml]; exact hl.1.symm) hown (hts (.methodLink RX1 38 Lib.Math.min.name) (by decide +kernel)) (hts (.static Lib.Math.min.name) (by decide +kernel)) (hts (.initialized "java/lang/Math") (by decide +kernel)) (hts (.code Lib.Math.min.name Lib.Math.min.code 2 (some .int)) (by decide +kernel)) (Nat.le_of_ble_eq_true rfl) (Nat.le_of_ble_eq_true rfl) (Nat.le_of_ble_eq_true rfl) (Nat.le_of_ble_eq_true rfl) dX1_distance_131 ?_
                      refine pn_top (y := (nI (min (pn_lev (pn_let x1) (pn_let x2) i (j + 1)) (pn_lev (pn_let x1) (pn_let x2) (i + 1) j)))) (pn_minI (by omega) (by omega)) ?_
                      refine lv_iconst (v := (nI 1)) hx hb dX1_distance_134 (by decide) ?_
                      refine pn_iadd hx hb dX1_distance_135 ?_
                      refine va_mmin hx hb (by rw [hml]; exact hl.1.symm) hown (hts (.methodLink RX1 38 Lib.Math.min.name) (by decide +kernel)) (hts (.static Lib.Math.min.name) (by decide +kernel)) (hts (.initialized "java/lang/Math") (by decide +kernel)) (hts (.code Lib.Math.min.name Lib.Math.min.code 2 (some .int)) (by decide +kernel)) (Nat.le_of_ble_eq_true rfl) (Nat.le_of_ble_eq_true rfl) (Nat.le_of_ble_eq_true rfl) (Nat.le_of_ble_eq_true rfl) dX1_distance_136 ?_
                      refine pn_top (y := (nI (min sl ((min (pn_lev (pn_let x1) (pn_let x2) i (j + 1)) (pn_lev (pn_let x1) (pn_let x2) (i + 1) j)) + 1)))) (pn_minI (by omega) (by omega)) ?_
                      refine pn_iast hx hb hK.1 hP (pn_D hN rfl) hS 1 0 rfl rfl (i := (j + 1)) (by omega) (Nat.le_of_ble_eq_true rfl) dX1_distance_139 (fun H locs hP hS => ?_)
                      have hP : va_P D vwCl [(z0, .inr (1, [.ref z1])), (z1, .inl (cI, 9, .inl (upd Rc (j + 1) (nI (min sl ((min (pn_lev (pn_let x1) (pn_let x2) i (j + 1)) (pn_lev (pn_let x1) (pn_let x2) (i + 1) j)) + 1))))))] H := hP
                      refine lv_iinc (v := (nI ((j + 1) + 1))) (lv' := [(9, .int (nI ((j + 1) + 1))), (8, .int (nI (pn_lev (pn_let x1) (pn_let x2) i (j + 1)))), (10, .int (nI sl)), (0, .ref z0), (1, .long x1), (3, .long x2), (5, .int (nI (pn_len x1))), (6, .int (nI (pn_len x2))), (7, .int (nI (i + 1)))]) hx hb dX1_distance_140 hl (k := 8) rfl (nI_add (j + 1) 1) (by decide) rfl (fun ls hl => ?_)
                      refine lv_goto (tgt := 66) hx hb dX1_distance_143 (by decide) ?_
                      exact ih66_5 (j + 1) (upd Rc (j + 1) (nI (min sl ((min (pn_lev (pn_let x1) (pn_let x2) i (j + 1)) (pn_lev (pn_let x1) (pn_let x2) (i + 1) j)) + 1)))) (pn_lev (pn_let x1) (pn_let x2) i (j + 1)) (by omega) (by first | omega | assumption | grind | simp_all) (pn_row3 e3 (by rw [e5]; first | exact pn_lev_t hcmp | exact pn_lev_f hcmp)) (fun t h1 h2 => by rw [pk_un (by omega)]; exact e4 t (by omega) h2) rfl _ _ _ hP hS (lv_sub hl [3, 4, 5, 6, 7, 8, 1, 0] rfl)
              exact lp66_5 ((pn_len x2 + 1 - 0) + 1) 0 (upd Rb 0 (nI (i + 1))) (pn_lev (pn_let x1) (pn_let x2) i 0) (Nat.lt_succ_self _) (by first | omega | assumption | grind | simp_all) (fun t h => by obtain rfl : t = 0 := (by omega); rw [pk_us, pn_lev_i0]) (fun t h1 h2 => by rw [pk_un (by omega)]; exact e2 t h2) rfl _ _ _ hP hS (lv_sub hl [2, 3, 4, 5, 6, 7, 1, 0] rfl)
        exact lp40_3 ((pn_len x1 + 1 - 0) + 1) 0 Ra (Nat.lt_succ_self _) (by first | omega | assumption | grind | simp_all) (fun j h => by rw [pn_lev_0j]; exact e1 j (by omega)) _ _ _ hP hS (lv_sub hl [1, 2, 3, 4, 5, 0] rfl)
      · have c_2 : ¬ (pn_len x2) < k := fun h => (show ¬ nI (pn_len x2) < nI k from c_2) ((pn_lt (by omega) (by omega)).mpr h)
        refine lv_aload_n hx hb dX1_distance_22 rfl (lv_at hl 0 rfl) ?_
        refine va_get (D := D) (ci := 1) (v := .ref z1) (C := RX1) (T := TX1) (N := 1) hx hb hts ih_X1_distance_X1 hown hK.1 hP 0 rfl rfl 0 (by decide) (hts (.fieldLink RX1 9 "ParishNames$Speller" "row" "[I") (by decide +kernel)) (fun _ h9 => h9) rfl dX1_distance_23 ?_
        refine lv_iload hx hb dX1_distance_26 (lv_at hl 5 rfl) ?_
        refine lv_iload hx hb dX1_distance_28 (lv_at hl 5 rfl) ?_
        refine pn_iast hx hb hK.1 hP (pn_D hN rfl) hS 1 0 rfl rfl (i := k) (by omega) (Nat.le_of_ble_eq_true rfl) dX1_distance_30 (fun H locs hP hS => ?_)
        have hP : va_P D vwCl [(z0, .inr (1, [.ref z1])), (z1, .inl (cI, 9, .inl (upd Ra k (nI k))))] H := hP
        refine lv_iinc (v := (nI (k + 1))) (lv' := [(7, .int (nI (k + 1))), (0, .ref z0), (1, .long x1), (3, .long x2), (5, .int (nI (pn_len x1))), (6, .int (nI (pn_len x2)))]) hx hb dX1_distance_31 hl (k := 5) rfl (nI_add k 1) (by decide) rfl (fun ls hl => ?_)
        refine lv_goto (tgt := 15) hx hb dX1_distance_34 (by decide) ?_
        exact ih15_1 (k + 1) (upd Ra k (nI k)) (by omega) (by first | omega | assumption | grind | simp_all) (pn_upk e1) _ _ _ hP hS (lv_sub hl [1, 2, 3, 4, 5, 0] rfl)
  exact lp15_1 ((pn_len x2 + 1 - 0) + 1) 0 Rw (Nat.lt_succ_self _) (by first | omega | assumption | grind | simp_all) (fun i h => absurd h (Nat.not_lt_zero _)) _ _ _ hP hS (lv_sub hl [3, 4, 5, 2, 1, 0] rfl)
end
section
set_option maxHeartbeats 4000000 in
set_option maxRecDepth 100000 in
theorem c_X1_areAlike (l : Launch) (D : va_G) (cI cL cZ cO : ClassId) (z0 z1 : Nat) (Rw : Nat → Int32) (x1 : Int64) (x2 : Int64) (how : Int32) (hN : [z0, z1].Nodup) : Met l yX1_areAlike wsX1_areAlike ({ frames := 3, cells := 0, slots := 0, locals := 74 }) (va_Pc [.ref z0, .long x1, .long x2, .int how] (pn_Pr D cI cL cZ cO [(z0, .inr (1, [.ref z1])), (z1, .inl (cI, 9, .inl Rw))])) (va_Qi (fun r (u : Nat → Int32) => r = (pn_b (pn_like x1 x2 how))) (fun (u : Nat → Int32) t => va_P D vwCl [(z0, .inr (1, [.ref z1])), (z1, .inl (cI, 9, .inl u))] t.heap) (pn_In [z0, z1])) 0 0 (pn_In [z0, z1]) := by
  refine pn_mk (by decide) rfl (Nat.le_of_ble_eq_true rfl) ?_
  intro p e s m below meth c ls hx hb hr hml hown hts hlocks hK hP hl
  have hown : s.vm.findClass RX1 = some m.cls := hown
  have hS : va_S (pn_In [z0, z1]) s.heap s.heap [] := va_S.rf
  have hl : lv_has ls 6 [(0, .ref z0), (1, .long x1), (3, .long x2), (5, .int how)] := hl
  have h8a := pn_len8 x1
  have h8b := pn_len8 x2
  have b1 := pn_lev_le (pn_let x1) (pn_let x2) (pn_len x1) (pn_len x2)
  refine lv_iload hx hb dX1_areAlike_0 (lv_at hl 3 rfl) ?_
  refine lv_if_ne (tgt := 17) hx hb dX1_areAlike_2 (by decide) (fun c_1 => ?_) (fun c_1 => ?_)
  · have hh0 := c_1
    refine lv_iload hx hb dX1_areAlike_17 (lv_at hl 3 rfl) ?_
    refine lv_iconst (v := (nI 1)) hx hb dX1_areAlike_19 (by decide) ?_
    refine lv_icmp_ne (tgt := 40) hx hb dX1_areAlike_20 (by decide) (fun c_2 => ?_) (fun c_2 => ?_)
    · have hh1 := c_2
      refine lv_aload_n hx hb dX1_areAlike_40 rfl (lv_at hl 0 rfl) ?_
      refine lv_lload_n hx hb dX1_areAlike_41 rfl (lv_at hl 1 rfl) ?_
      refine lv_lload_n hx hb dX1_areAlike_42 rfl (lv_at hl 2 rfl) ?_
      refine pn_wri hS (fun q h => h) (va_runV (As := [.long x1, .long x2]) (rest := []) ⟨hx, hb, hml, hown, hts⟩ (c_X1_distance l D cI cL cZ cO z0 z1 Rw x1 x2 hN) (cwV 2 hts gX1_areAlike_X1_distance rfl rfl rfl (by decide +kernel) ⟨Nat.le_of_ble_eq_true rfl, Nat.le_of_ble_eq_true rfl⟩) (pn_pv hP hK (q0 := 0) rfl rfl) rfl rfl hl.1 rfl (lv_room (Nat.le_of_ble_eq_true rfl)) dX1_areAlike_43 ⟨Nat.le_of_ble_eq_true rfl, Nat.le_of_ble_eq_true rfl⟩) (fun r_3 u_3 H1 locs hp_3 hP1 hk1 hS => ?_)
      subst hp_3
      have hP : va_P D vwCl [(z0, .inr (1, [.ref z1])), (z1, .inl (cI, 9, .inl u_3))] H1 := hP1
      clear hk1 hP1
      generalize H1 = H at hP hS ⊢
      refine lv_iconst (v := (nI 1)) hx hb dX1_areAlike_46 (by decide) ?_
      refine lv_icmp_gt (tgt := 54) hx hb dX1_areAlike_47 (by decide) (fun c_4 => ?_) (fun c_4 => ?_)
      · have c_4 : 1 < (pn_lev (pn_let x1) (pn_let x2) (pn_len x1) (pn_len x2)) := (pn_lt (by omega) (by omega)).mp (show nI 1 < nI (pn_lev (pn_let x1) (pn_let x2) (pn_len x1) (pn_len x2)) from c_4)
        have hlv := c_4
        refine lv_iconst (v := (nI 0)) hx hb dX1_areAlike_54 (by decide) ?_
        exact W.zret hx hb hr (by decide) (fun t ht hW => ⟨⟨_, u_3, rfl, (by first | exact pn_bt ((pn_like2 hh0 hh1).mpr (Nat.le_of_not_lt hlv)) | exact pn_bf (fun q => absurd hlv (Nat.not_lt.mpr ((pn_like2 hh0 hh1).mp q)))), pn_atH ht hP⟩, hS.F ht⟩) hS.2.2 dX1_areAlike_55 hlocks
      · have c_4 : ¬ 1 < (pn_lev (pn_let x1) (pn_let x2) (pn_len x1) (pn_len x2)) := fun h => (show ¬ nI 1 < nI (pn_lev (pn_let x1) (pn_let x2) (pn_len x1) (pn_len x2)) from c_4) ((pn_lt (by omega) (by omega)).mpr h)
        have hlv := c_4
        refine lv_iconst (v := (nI 1)) hx hb dX1_areAlike_50 (by decide) ?_
        refine lv_goto (tgt := 55) hx hb dX1_areAlike_51 (by decide) ?_
        exact W.zret hx hb hr (by decide) (fun t ht hW => ⟨⟨_, u_3, rfl, (by first | exact pn_bt ((pn_like2 hh0 hh1).mpr (Nat.le_of_not_lt hlv)) | exact pn_bf (fun q => absurd hlv (Nat.not_lt.mpr ((pn_like2 hh0 hh1).mp q)))), pn_atH ht hP⟩, hS.F ht⟩) hS.2.2 dX1_areAlike_55 hlocks
    · have hh1 := c_2
      refine lv_lload_n hx hb dX1_areAlike_23 rfl (lv_at hl 1 rfl) ?_
      refine pn_roi (w := [(z0, .inr (1, [.ref z1])), (z1, .inl (cI, 9, .inl Rw))]) hP hS (va_runS (As := [.long x1]) (rest := []) ⟨hx, hb, hml, hown, hts⟩ (c_X1_soundOf l D cI cL cZ cO x1) (va_cwS 1 hts gX1_areAlike_X1_soundOf rfl rfl rfl (by decide +kernel) ⟨Nat.le_of_ble_eq_true rfl, Nat.le_of_ble_eq_true rfl⟩) (pn_ps (WS := []) (fun k q h => by simp at h) hK) rfl rfl hl.1 rfl (lv_room (Nat.le_of_ble_eq_true rfl)) dX1_areAlike_24 ⟨Nat.le_of_ble_eq_true rfl, Nat.le_of_ble_eq_true rfl⟩) (fun H locs hP hS => ?_)
      refine lv_lload_n hx hb dX1_areAlike_27 rfl (lv_at hl 2 rfl) ?_
      refine pn_roi (w := [(z0, .inr (1, [.ref z1])), (z1, .inl (cI, 9, .inl Rw))]) hP hS (va_runS (As := [.long x2]) (rest := [.int (pn_snd x1)]) ⟨hx, hb, hml, hown, hts⟩ (c_X1_soundOf l D cI cL cZ cO x2) (va_cwS 1 hts gX1_areAlike_X1_soundOf rfl rfl rfl (by decide +kernel) ⟨Nat.le_of_ble_eq_true rfl, Nat.le_of_ble_eq_true rfl⟩) (pn_ps (WS := []) (fun k q h => by simp at h) hK) rfl rfl hl.1 rfl (lv_room (Nat.le_of_ble_eq_true rfl)) dX1_areAlike_28 ⟨Nat.le_of_ble_eq_true rfl, Nat.le_of_ble_eq_true rfl⟩) (fun H locs hP hS => ?_)
      refine lv_icmp_ne (tgt := 38) hx hb dX1_areAlike_31 (by decide) (fun c_5 => ?_) (fun c_5 => ?_)
      · have hsn := c_5
        refine lv_iconst (v := (nI 0)) hx hb dX1_areAlike_38 (by decide) ?_
        exact W.zret hx hb hr (by decide) (fun t ht hW => ⟨⟨_, Rw, rfl, (by first | exact pn_bt ((pn_like1 hh1).mpr hsn) | exact pn_bf (fun q => hsn ((pn_like1 hh1).mp q))), pn_atH ht hP⟩, hS.F ht⟩) hS.2.2 dX1_areAlike_39 hlocks
      · have hsn := c_5
        refine lv_iconst (v := (nI 1)) hx hb dX1_areAlike_34 (by decide) ?_
        refine lv_goto (tgt := 39) hx hb dX1_areAlike_35 (by decide) ?_
        exact W.zret hx hb hr (by decide) (fun t ht hW => ⟨⟨_, Rw, rfl, (by first | exact pn_bt ((pn_like1 hh1).mpr hsn) | exact pn_bf (fun q => hsn ((pn_like1 hh1).mp q))), pn_atH ht hP⟩, hS.F ht⟩) hS.2.2 dX1_areAlike_39 hlocks
  · have hh0 := c_1
    refine lv_lload_n hx hb dX1_areAlike_5 rfl (lv_at hl 1 rfl) ?_
    refine lv_lload_n hx hb dX1_areAlike_6 rfl (lv_at hl 2 rfl) ?_
    refine W.lcmp hx hb dX1_areAlike_7 ?_
    refine lv_if_ne (tgt := 15) hx hb dX1_areAlike_8 (by decide) (fun c_6 => ?_) (fun c_6 => ?_)
    · have c_6 : ¬ x1 = x2 := fun h => c_6 (pn_cmp0.mpr h)
      have hxy := c_6
      refine lv_iconst (v := (nI 0)) hx hb dX1_areAlike_15 (by decide) ?_
      exact W.zret hx hb hr (by decide) (fun t ht hW => ⟨⟨_, Rw, rfl, (by first | exact pn_bt ((pn_like0 hh0).mpr hxy) | exact pn_bf (fun q => hxy ((pn_like0 hh0).mp q))), pn_atH ht hP⟩, hS.F ht⟩) hS.2.2 dX1_areAlike_16 hlocks
    · have c_6 : x1 = x2 := pn_cmp0.mp c_6
      have hxy := c_6
      refine lv_iconst (v := (nI 1)) hx hb dX1_areAlike_11 (by decide) ?_
      refine lv_goto (tgt := 16) hx hb dX1_areAlike_12 (by decide) ?_
      exact W.zret hx hb hr (by decide) (fun t ht hW => ⟨⟨_, Rw, rfl, (by first | exact pn_bt ((pn_like0 hh0).mpr hxy) | exact pn_bf (fun q => hxy ((pn_like0 hh0).mp q))), pn_atH ht hP⟩, hS.F ht⟩) hS.2.2 dX1_areAlike_16 hlocks
end
section
theorem ih_X0_lifeOf_X0 : ∀ w ∈ wsX00, w ∈ wsX0_lifeOf := by decide +kernel
set_option maxHeartbeats 4000000 in
set_option maxRecDepth 100000 in
theorem c_X0_lifeOf (l : Launch) (D : va_G) (cI cL cZ cO : ClassId) (h0 q1 q2 q3 q4 q5 q6 : Nat) (K Y P S O : Nat → Int32) (N : Nat → Int64) (n F : Nat) (pa : Int32) (wh : Nat) (hn : n ≤ 30) (hw : wh ≤ 4) : Met l yX0_lifeOf wsX0_lifeOf ({ frames := 2, cells := 0, slots := 0, locals := 42 }) (va_Pc [.ref h0, .int pa, .int (nI wh)] (pn_Pr D cI cL cZ cO [(h0, .inr (0, [.ref q1, .ref q2, .ref q3, .ref q4, .ref q5, .ref q6, .int (nI n), .int (nI F)])), (q1, .inl (cI, 30, .inl K)), (q2, .inl (cI, 30, .inl Y)), (q3, .inl (cI, 30, .inl P)), (q4, .inl (cI, 30, .inl S)), (q5, .inl (cI, 30, .inl O)), (q6, .inl (cL, 30, .inr (.inl N)))])) (va_Qi (fun r (_ : Unit) => r = (pn_lifeR Y P S O n pa wh)) (fun _ _ => True) pn_No) 0 0 pn_No := by
  refine pn_mk (by decide) rfl (Nat.le_of_ble_eq_true rfl) ?_
  intro p e s m below meth c ls hx hb hr hml hown hts hlocks hK hP hl
  have hown : s.vm.findClass RX0 = some m.cls := hown
  have hS : va_S pn_No s.heap s.heap [] := va_S.rf
  have hl : lv_has ls 9 [(0, .ref h0), (1, .int pa), (2, .int (nI wh))] := hl
  refine lv_bipush (v := (-6)) hx hb dX0_lifeOf_0 (by decide) ?_
  refine lv_istore_n (lv' := [(3, .int (-6)), (0, .ref h0), (1, .int pa), (2, .int (nI wh))]) hx hb dX0_lifeOf_2 rfl hl (by decide) rfl (fun ls hl => ?_)
  refine lv_bipush (v := (-6)) hx hb dX0_lifeOf_3 (by decide) ?_
  refine lv_istore (lv' := [(4, .int (-6)), (3, .int (-6)), (0, .ref h0), (1, .int pa), (2, .int (nI wh))]) hx hb dX0_lifeOf_5 hl (by decide) rfl (fun ls hl => ?_)
  refine lv_iconst (v := (nI 0)) hx hb dX0_lifeOf_7 (by decide) ?_
  refine lv_istore (lv' := [(5, .int (nI 0)), (4, .int (-6)), (3, .int (-6)), (0, .ref h0), (1, .int pa), (2, .int (nI wh))]) hx hb dX0_lifeOf_8 hl (by decide) rfl (fun ls hl => ?_)
  refine lv_iconst (v := (nI 0)) hx hb dX0_lifeOf_10 (by decide) ?_
  refine lv_istore (lv' := [(6, .int (nI 0)), (5, .int (nI 0)), (4, .int (-6)), (3, .int (-6)), (0, .ref h0), (1, .int pa), (2, .int (nI wh))]) hx hb dX0_lifeOf_11 hl (by decide) rfl (fun ls hl => ?_)
  refine lv_iload_n hx hb dX0_lifeOf_13 rfl (lv_at hl 5 rfl) ?_
  refine pn_roi (w := [(h0, .inr (0, [.ref q1, .ref q2, .ref q3, .ref q4, .ref q5, .ref q6, .int (nI n), .int (nI F)])), (q1, .inl (cI, 30, .inl K)), (q2, .inl (cI, 30, .inl Y)), (q3, .inl (cI, 30, .inl P)), (q4, .inl (cI, 30, .inl S)), (q5, .inl (cI, 30, .inl O)), (q6, .inl (cL, 30, .inr (.inl N)))]) hP hS (va_runS (As := [.int pa]) (rest := []) ⟨hx, hb, hml, hown, hts⟩ (c_X0_sitesAtFirst l D cI cL cZ cO pa) (va_cwS 1 hts gX0_lifeOf_X0_sitesAtFirst rfl rfl rfl (by decide +kernel) ⟨Nat.le_of_ble_eq_true rfl, Nat.le_of_ble_eq_true rfl⟩) (pn_ps (WS := []) (fun k q h => by simp at h) hK) rfl rfl hl.1 rfl (lv_room (Nat.le_of_ble_eq_true rfl)) dX0_lifeOf_14 ⟨Nat.le_of_ble_eq_true rfl, Nat.le_of_ble_eq_true rfl⟩) (fun H locs hP hS => ?_)
  refine lv_istore (lv' := [(7, .int (pn_sit0 pa)), (6, .int (nI 0)), (5, .int (nI 0)), (4, .int (-6)), (3, .int (-6)), (0, .ref h0), (1, .int pa), (2, .int (nI wh))]) hx hb dX0_lifeOf_17 hl (by decide) rfl (fun ls hl => ?_)
  refine lv_iconst (v := (nI 0)) hx hb dX0_lifeOf_19 (by decide) ?_
  refine lv_istore (lv' := [(8, .int (nI 0)), (7, .int (pn_sit0 pa)), (6, .int (nI 0)), (5, .int (nI 0)), (4, .int (-6)), (3, .int (-6)), (0, .ref h0), (1, .int pa), (2, .int (nI wh))]) hx hb dX0_lifeOf_20 hl (by decide) rfl (fun ls hl => ?_)
  have lp22_1 : ∀ (fu : Nat) (k : Nat) (f : Int32) (la : Int32) (lv : Int32) (ev : Int32) (hd : Int32), n + 1 - k < fu → (k ≤ n + 1) → ((f, la, lv, ev) = pn_life Y P S O n pa k) → (hd = pn_sit P S O pa (k - 1)) → ∀ (H : Heap) (locs : List Loc) (ls : Array Slot), va_P D vwCl [(h0, .inr (0, [.ref q1, .ref q2, .ref q3, .ref q4, .ref q5, .ref q6, .int (nI n), .int (nI F)])), (q1, .inl (cI, 30, .inl K)), (q2, .inl (cI, 30, .inl Y)), (q3, .inl (cI, 30, .inl P)), (q4, .inl (cI, 30, .inl S)), (q5, .inl (cI, 30, .inl O)), (q6, .inl (cL, 30, .inr (.inl N)))] H → va_S pn_No s.heap H locs → lv_has ls 9 [(0, .ref h0), (1, .int pa), (2, .int (nI wh)), (3, .int f), (4, .int la), (5, .int lv), (6, .int ev), (7, .int hd), (8, .int (nI k))] → W p l e ({ frames := 2, cells := 0, slots := 0, locals := 42 }) s m (List.toArray [.ref h0, .int pa, .int (nI wh)]) below meth c H locs 0 0 (MQ below (va_Qi (fun r (_ : Unit) => r = (pn_lifeR Y P S O n pa wh)) (fun _ _ => True) pn_No) (List.toArray [.ref h0, .int pa, .int (nI wh)]) s 0 0 pn_No) (F0 m 22 ls []) := by
    intro fu
    induction fu with
    | zero => intro k f la lv ev hd hfu; exact absurd hfu (Nat.not_lt_zero _)
    | succ fu ih22_1 =>
      intro k f la lv ev hd hfu hk e1 e5 H locs ls hP hS hl
      refine lv_iload hx hb dX0_lifeOf_22 (lv_at hl 8 rfl) ?_
      refine lv_aload_n hx hb dX0_lifeOf_24 rfl (lv_at hl 0 rfl) ?_
      refine va_get (D := D) (ci := 0) (v := .int (nI n)) (C := RX0) (T := TX0) (N := 8) hx hb hts ih_X0_lifeOf_X0 hown hK.1 hP 0 rfl rfl 6 (by decide) (hts (.fieldLink RX0 31 "ParishNames$Chronicle" "told" "I") (by decide +kernel)) (fun _ h9 => h9) rfl dX0_lifeOf_25 ?_
      refine lv_icmp_gt (tgt := 115) hx hb dX0_lifeOf_28 (by decide) (fun b28 => ?_) (fun b28 => ?_)
      · have b28 : n < k := (pn_lt (by omega) (by omega)).mp (show nI n < nI k from b28)
        refine lv_iload_n hx hb dX0_lifeOf_115 rfl (lv_at hl 2 rfl) ?_
        rcases pn_sw (nI wh) (lo := 0) (hi := 2) with b116 | b116
        · refine lv_tableOut (tgt := 152) hx hb dX0_lifeOf_116 b116 (by decide) ?_
          have b116 : wh < 0 ∨ 2 < wh := by rw [nI_toInt (by omega)] at b116; omega
          obtain ⟨z, rfl⟩ : ∃ z, wh = z + 3 := ⟨wh - 3, by omega⟩
          refine lv_iload hx hb dX0_lifeOf_152 (lv_at hl 6 rfl) ?_
          refine pn_roi (w := [(h0, .inr (0, [.ref q1, .ref q2, .ref q3, .ref q4, .ref q5, .ref q6, .int (nI n), .int (nI F)])), (q1, .inl (cI, 30, .inl K)), (q2, .inl (cI, 30, .inl Y)), (q3, .inl (cI, 30, .inl P)), (q4, .inl (cI, 30, .inl S)), (q5, .inl (cI, 30, .inl O)), (q6, .inl (cL, 30, .inr (.inl N)))]) hP hS (va_runS (As := [.int ev]) (rest := []) ⟨hx, hb, hml, hown, hts⟩ (c_J6_bitCount_0f7a4 l D cI cL cZ cO ev) (va_cwS 1 hts gX0_lifeOf_J6_bitCount_0f7a4 rfl rfl rfl (by decide +kernel) ⟨Nat.le_of_ble_eq_true rfl, Nat.le_of_ble_eq_true rfl⟩) (pn_ps (WS := []) (fun k q h => by simp at h) hK) rfl rfl hl.1 rfl (lv_room (Nat.le_of_ble_eq_true rfl)) dX0_lifeOf_154 ⟨Nat.le_of_ble_eq_true rfl, Nat.le_of_ble_eq_true rfl⟩) (fun H locs hP hS => ?_)
          exact W.iret hx hb hr (fun t ht hW => ⟨⟨_, (), rfl, (by obtain rfl : k = n + 1 := (by omega); (try subst_vars); show _ = _; unfold pn_lifeR; rw [← e1]; rfl), trivial⟩, hS.F ht⟩) hS.2.2 dX0_lifeOf_157 hlocks
        · obtain ⟨k_116, hk_116, b116⟩ := b116
          have hk_116 : k_116 = 0 ∨ k_116 = 1 ∨ k_116 = 2 := by omega
          rcases hk_116 with rfl | rfl | rfl
          · refine lv_tableIn (tgt := 144) hx hb dX0_lifeOf_116 (by rw [b116]; decide) (by rw [b116]; decide) (by rw [b116]; rfl) (by decide) ?_
            have b116 : (nI wh) = nI 0 := pn_swe b116 (by decide)
            have b116 : wh = 0 := (pn_eq (by omega) (by omega)).mp b116
            refine lv_iload_n hx hb dX0_lifeOf_144 rfl (lv_at hl 3 rfl) ?_
            exact W.iret hx hb hr (fun t ht hW => ⟨⟨_, (), rfl, (by obtain rfl : k = n + 1 := (by omega); (try subst_vars); show _ = _; unfold pn_lifeR; rw [← e1]; rfl), trivial⟩, hS.F ht⟩) hS.2.2 dX0_lifeOf_145 hlocks
          · refine lv_tableIn (tgt := 146) hx hb dX0_lifeOf_116 (by rw [b116]; decide) (by rw [b116]; decide) (by rw [b116]; rfl) (by decide) ?_
            have b116 : (nI wh) = nI 1 := pn_swe b116 (by decide)
            have b116 : wh = 1 := (pn_eq (by omega) (by omega)).mp b116
            refine lv_iload hx hb dX0_lifeOf_146 (lv_at hl 4 rfl) ?_
            exact W.iret hx hb hr (fun t ht hW => ⟨⟨_, (), rfl, (by obtain rfl : k = n + 1 := (by omega); (try subst_vars); show _ = _; unfold pn_lifeR; rw [← e1]; rfl), trivial⟩, hS.F ht⟩) hS.2.2 dX0_lifeOf_148 hlocks
          · refine lv_tableIn (tgt := 149) hx hb dX0_lifeOf_116 (by rw [b116]; decide) (by rw [b116]; decide) (by rw [b116]; rfl) (by decide) ?_
            have b116 : (nI wh) = nI 2 := pn_swe b116 (by decide)
            have b116 : wh = 2 := (pn_eq (by omega) (by omega)).mp b116
            refine lv_iload hx hb dX0_lifeOf_149 (lv_at hl 5 rfl) ?_
            exact W.iret hx hb hr (fun t ht hW => ⟨⟨_, (), rfl, (by obtain rfl : k = n + 1 := (by omega); (try subst_vars); show _ = _; unfold pn_lifeR; rw [← e1]; rfl), trivial⟩, hS.F ht⟩) hS.2.2 dX0_lifeOf_151 hlocks
      · have b28 : ¬ n < k := fun h => (show ¬ nI n < nI k from b28) ((pn_lt (by omega) (by omega)).mpr h)
        refine lv_iload hx hb dX0_lifeOf_31 (lv_at hl 8 rfl) ?_
        refine lv_if_le (tgt := 49) hx hb dX0_lifeOf_33 (by decide) (fun b33 => ?_) (fun b33 => ?_)
        · have b33 : k ≤ 0 := (pn_le (by omega) (by omega)).mp (show nI k ≤ nI 0 from b33)
          rw [show hd = (pn_sit P S O pa k) from (by rw [e5, show k - 1 = k by omega])] at hl
          refine lv_iload hx hb dX0_lifeOf_49 (lv_at hl 7 rfl) ?_
          refine lv_if_eq (tgt := 109) hx hb dX0_lifeOf_51 (by decide) (fun b51 => ?_) (fun b51 => ?_)
          · refine lv_iinc (v := (nI (k + 1))) (lv' := [(8, .int (nI (k + 1))), (0, .ref h0), (1, .int pa), (2, .int (nI wh)), (3, .int f), (4, .int la), (5, .int lv), (6, .int ev), (7, .int (pn_sit P S O pa k))]) hx hb dX0_lifeOf_109 hl (k := 8) rfl (nI_add k 1) (by decide) rfl (fun ls hl => ?_)
            refine lv_goto (tgt := 22) hx hb dX0_lifeOf_112 (by decide) ?_
            exact ih22_1 (k + 1) f la lv ev (pn_sit P S O pa k) (by omega) (by first | omega | assumption | grind | simp_all) (by first | exact pn_life_f e1 (Or.inl b51) | exact pn_life_f e1 (Or.inr b60) | exact pn_life_t1 e1 b51 b60 b68 | exact pn_life_t2 e1 b51 b60 b68) rfl _ _ _ hP hS (lv_sub hl [1, 2, 3, 4, 5, 6, 7, 8, 0] rfl)
          · refine lv_aload_n hx hb dX0_lifeOf_54 rfl (lv_at hl 0 rfl) ?_
            refine lv_iload hx hb dX0_lifeOf_55 (lv_at hl 8 rfl) ?_
            refine pn_roi (w := [(h0, .inr (0, [.ref q1, .ref q2, .ref q3, .ref q4, .ref q5, .ref q6, .int (nI n), .int (nI F)])), (q1, .inl (cI, 30, .inl K)), (q2, .inl (cI, 30, .inl Y)), (q3, .inl (cI, 30, .inl P)), (q4, .inl (cI, 30, .inl S)), (q5, .inl (cI, 30, .inl O)), (q6, .inl (cL, 30, .inr (.inl N)))]) hP hS (va_runV (As := [.int (nI k)]) (rest := []) ⟨hx, hb, hml, hown, hts⟩ (c_X0_holdsInAYear l D cI cL cZ cO h0 q1 q2 q3 q4 q5 q6 K Y P S O N n F k (by first | omega | assumption | grind | simp_all) (by first | omega | assumption | grind | simp_all)) (cwV 1 hts gX0_lifeOf_X0_holdsInAYear rfl rfl rfl (by decide +kernel) ⟨Nat.le_of_ble_eq_true rfl, Nat.le_of_ble_eq_true rfl⟩) (pn_pv hP hK (q0 := 0) rfl rfl) rfl rfl hl.1 rfl (lv_room (Nat.le_of_ble_eq_true rfl)) dX0_lifeOf_57 ⟨Nat.le_of_ble_eq_true rfl, Nat.le_of_ble_eq_true rfl⟩) (fun H locs hP hS => ?_)
            refine lv_if_ne (tgt := 66) hx hb dX0_lifeOf_60 (by decide) (fun b60 => ?_) (fun b60 => ?_)
            · have b60 : pn_fy Y n k ≤ pn_ly Y n k := pn_b1.mp b60
              refine lv_iload hx hb dX0_lifeOf_66 (lv_at hl 5 rfl) ?_
              refine lv_if_ne (tgt := 78) hx hb dX0_lifeOf_68 (by decide) (fun b68 => ?_) (fun b68 => ?_)
              · refine lv_aload_n hx hb dX0_lifeOf_78 rfl (lv_at hl 0 rfl) ?_
                refine lv_iload hx hb dX0_lifeOf_79 (lv_at hl 8 rfl) ?_
                refine pn_roi (w := [(h0, .inr (0, [.ref q1, .ref q2, .ref q3, .ref q4, .ref q5, .ref q6, .int (nI n), .int (nI F)])), (q1, .inl (cI, 30, .inl K)), (q2, .inl (cI, 30, .inl Y)), (q3, .inl (cI, 30, .inl P)), (q4, .inl (cI, 30, .inl S)), (q5, .inl (cI, 30, .inl O)), (q6, .inl (cL, 30, .inr (.inl N)))]) hP hS (va_runV (As := [.int (nI k)]) (rest := []) ⟨hx, hb, hml, hown, hts⟩ (c_X0_lastYear l D cI cL cZ cO h0 q1 q2 q3 q4 q5 q6 K Y P S O N n F k (by first | omega | assumption | grind | simp_all) (by first | omega | assumption | grind | simp_all)) (cwV 1 hts gX0_lifeOf_X0_lastYear rfl rfl rfl (by decide +kernel) ⟨Nat.le_of_ble_eq_true rfl, Nat.le_of_ble_eq_true rfl⟩) (pn_pv hP hK (q0 := 0) rfl rfl) rfl rfl hl.1 rfl (lv_room (Nat.le_of_ble_eq_true rfl)) dX0_lifeOf_81 ⟨Nat.le_of_ble_eq_true rfl, Nat.le_of_ble_eq_true rfl⟩) (fun H locs hP hS => ?_)
                refine lv_istore (lv' := [(4, .int (pn_ly Y n k)), (0, .ref h0), (1, .int pa), (2, .int (nI wh)), (3, .int f), (5, .int lv), (6, .int ev), (7, .int (pn_sit P S O pa k)), (8, .int (nI k))]) hx hb dX0_lifeOf_84 hl (by decide) rfl (fun ls hl => ?_)
                refine lv_iload hx hb dX0_lifeOf_86 (lv_at hl 5 rfl) ?_
                refine lv_iload hx hb dX0_lifeOf_88 (lv_at hl 0 rfl) ?_
                refine lv_aload_n hx hb dX0_lifeOf_90 rfl (lv_at hl 1 rfl) ?_
                refine lv_iload hx hb dX0_lifeOf_91 (lv_at hl 8 rfl) ?_
                refine pn_roi (w := [(h0, .inr (0, [.ref q1, .ref q2, .ref q3, .ref q4, .ref q5, .ref q6, .int (nI n), .int (nI F)])), (q1, .inl (cI, 30, .inl K)), (q2, .inl (cI, 30, .inl Y)), (q3, .inl (cI, 30, .inl P)), (q4, .inl (cI, 30, .inl S)), (q5, .inl (cI, 30, .inl O)), (q6, .inl (cL, 30, .inr (.inl N)))]) hP hS (va_runV (As := [.int (nI k)]) (rest := [.int (pn_ly Y n k), .int lv]) ⟨hx, hb, hml, hown, hts⟩ (c_X0_firstYear l D cI cL cZ cO h0 q1 q2 q3 q4 q5 q6 K Y P S O N n F k (by first | omega | assumption | grind | simp_all) (by first | omega | assumption | grind | simp_all)) (cwV 1 hts gX0_lifeOf_X0_firstYear rfl rfl rfl (by decide +kernel) ⟨Nat.le_of_ble_eq_true rfl, Nat.le_of_ble_eq_true rfl⟩) (pn_pv hP hK (q0 := 0) rfl rfl) rfl rfl hl.1 rfl (lv_room (Nat.le_of_ble_eq_true rfl)) dX0_lifeOf_93 ⟨Nat.le_of_ble_eq_true rfl, Nat.le_of_ble_eq_true rfl⟩) (fun H locs hP hS => ?_)
                refine lv_isub hx hb dX0_lifeOf_96 ?_
                refine lv_iconst (v := (nI 1)) hx hb dX0_lifeOf_97 (by decide) ?_
                refine lv_iadd hx hb dX0_lifeOf_98 ?_
                refine lv_iadd hx hb dX0_lifeOf_99 ?_
                refine lv_istore (lv' := [(5, .int (lv + (((pn_ly Y n k) - (pn_fy Y n k)) + (nI 1)))), (4, .int (pn_ly Y n k)), (0, .ref h0), (1, .int pa), (2, .int (nI wh)), (3, .int f), (6, .int ev), (7, .int (pn_sit P S O pa k)), (8, .int (nI k))]) hx hb dX0_lifeOf_100 hl (by decide) rfl (fun ls hl => ?_)
                refine lv_iload hx hb dX0_lifeOf_102 (lv_at hl 6 rfl) ?_
                refine lv_iload hx hb dX0_lifeOf_104 (lv_at hl 7 rfl) ?_
                refine lv_ior hx hb dX0_lifeOf_106 ?_
                refine lv_istore (lv' := [(6, .int (ev ||| (pn_sit P S O pa k))), (5, .int (lv + (((pn_ly Y n k) - (pn_fy Y n k)) + (nI 1)))), (4, .int (pn_ly Y n k)), (0, .ref h0), (1, .int pa), (2, .int (nI wh)), (3, .int f), (7, .int (pn_sit P S O pa k)), (8, .int (nI k))]) hx hb dX0_lifeOf_107 hl (by decide) rfl (fun ls hl => ?_)
                refine lv_iinc (v := (nI (k + 1))) (lv' := [(8, .int (nI (k + 1))), (6, .int (ev ||| (pn_sit P S O pa k))), (5, .int (lv + (((pn_ly Y n k) - (pn_fy Y n k)) + (nI 1)))), (4, .int (pn_ly Y n k)), (0, .ref h0), (1, .int pa), (2, .int (nI wh)), (3, .int f), (7, .int (pn_sit P S O pa k))]) hx hb dX0_lifeOf_109 hl (k := 8) rfl (nI_add k 1) (by decide) rfl (fun ls hl => ?_)
                refine lv_goto (tgt := 22) hx hb dX0_lifeOf_112 (by decide) ?_
                exact ih22_1 (k + 1) f (pn_ly Y n k) (lv + (((pn_ly Y n k) - (pn_fy Y n k)) + (nI 1))) (ev ||| (pn_sit P S O pa k)) (pn_sit P S O pa k) (by omega) (by first | omega | assumption | grind | simp_all) (by first | exact pn_life_f e1 (Or.inl b51) | exact pn_life_f e1 (Or.inr b60) | exact pn_life_t1 e1 b51 b60 b68 | exact pn_life_t2 e1 b51 b60 b68) rfl _ _ _ hP hS (lv_sub hl [4, 5, 6, 7, 3, 2, 1, 8, 0] rfl)
              · refine lv_aload_n hx hb dX0_lifeOf_71 rfl (lv_at hl 0 rfl) ?_
                refine lv_iload hx hb dX0_lifeOf_72 (lv_at hl 8 rfl) ?_
                refine pn_roi (w := [(h0, .inr (0, [.ref q1, .ref q2, .ref q3, .ref q4, .ref q5, .ref q6, .int (nI n), .int (nI F)])), (q1, .inl (cI, 30, .inl K)), (q2, .inl (cI, 30, .inl Y)), (q3, .inl (cI, 30, .inl P)), (q4, .inl (cI, 30, .inl S)), (q5, .inl (cI, 30, .inl O)), (q6, .inl (cL, 30, .inr (.inl N)))]) hP hS (va_runV (As := [.int (nI k)]) (rest := []) ⟨hx, hb, hml, hown, hts⟩ (c_X0_firstYear l D cI cL cZ cO h0 q1 q2 q3 q4 q5 q6 K Y P S O N n F k (by first | omega | assumption | grind | simp_all) (by first | omega | assumption | grind | simp_all)) (cwV 1 hts gX0_lifeOf_X0_firstYear rfl rfl rfl (by decide +kernel) ⟨Nat.le_of_ble_eq_true rfl, Nat.le_of_ble_eq_true rfl⟩) (pn_pv hP hK (q0 := 0) rfl rfl) rfl rfl hl.1 rfl (lv_room (Nat.le_of_ble_eq_true rfl)) dX0_lifeOf_74 ⟨Nat.le_of_ble_eq_true rfl, Nat.le_of_ble_eq_true rfl⟩) (fun H locs hP hS => ?_)
                refine lv_istore_n (lv' := [(3, .int (pn_fy Y n k)), (0, .ref h0), (1, .int pa), (2, .int (nI wh)), (4, .int la), (5, .int lv), (6, .int ev), (7, .int (pn_sit P S O pa k)), (8, .int (nI k))]) hx hb dX0_lifeOf_77 rfl hl (by decide) rfl (fun ls hl => ?_)
                refine lv_aload_n hx hb dX0_lifeOf_78 rfl (lv_at hl 1 rfl) ?_
                refine lv_iload hx hb dX0_lifeOf_79 (lv_at hl 8 rfl) ?_
                refine pn_roi (w := [(h0, .inr (0, [.ref q1, .ref q2, .ref q3, .ref q4, .ref q5, .ref q6, .int (nI n), .int (nI F)])), (q1, .inl (cI, 30, .inl K)), (q2, .inl (cI, 30, .inl Y)), (q3, .inl (cI, 30, .inl P)), (q4, .inl (cI, 30, .inl S)), (q5, .inl (cI, 30, .inl O)), (q6, .inl (cL, 30, .inr (.inl N)))]) hP hS (va_runV (As := [.int (nI k)]) (rest := []) ⟨hx, hb, hml, hown, hts⟩ (c_X0_lastYear l D cI cL cZ cO h0 q1 q2 q3 q4 q5 q6 K Y P S O N n F k (by first | omega | assumption | grind | simp_all) (by first | omega | assumption | grind | simp_all)) (cwV 1 hts gX0_lifeOf_X0_lastYear rfl rfl rfl (by decide +kernel) ⟨Nat.le_of_ble_eq_true rfl, Nat.le_of_ble_eq_true rfl⟩) (pn_pv hP hK (q0 := 0) rfl rfl) rfl rfl hl.1 rfl (lv_room (Nat.le_of_ble_eq_true rfl)) dX0_lifeOf_81 ⟨Nat.le_of_ble_eq_true rfl, Nat.le_of_ble_eq_true rfl⟩) (fun H locs hP hS => ?_)
                refine lv_istore (lv' := [(4, .int (pn_ly Y n k)), (3, .int (pn_fy Y n k)), (0, .ref h0), (1, .int pa), (2, .int (nI wh)), (5, .int lv), (6, .int ev), (7, .int (pn_sit P S O pa k)), (8, .int (nI k))]) hx hb dX0_lifeOf_84 hl (by decide) rfl (fun ls hl => ?_)
                refine lv_iload hx hb dX0_lifeOf_86 (lv_at hl 5 rfl) ?_
                refine lv_iload hx hb dX0_lifeOf_88 (lv_at hl 0 rfl) ?_
                refine lv_aload_n hx hb dX0_lifeOf_90 rfl (lv_at hl 2 rfl) ?_
                refine lv_iload hx hb dX0_lifeOf_91 (lv_at hl 8 rfl) ?_
                refine pn_roi (w := [(h0, .inr (0, [.ref q1, .ref q2, .ref q3, .ref q4, .ref q5, .ref q6, .int (nI n), .int (nI F)])), (q1, .inl (cI, 30, .inl K)), (q2, .inl (cI, 30, .inl Y)), (q3, .inl (cI, 30, .inl P)), (q4, .inl (cI, 30, .inl S)), (q5, .inl (cI, 30, .inl O)), (q6, .inl (cL, 30, .inr (.inl N)))]) hP hS (va_runV (As := [.int (nI k)]) (rest := [.int (pn_ly Y n k), .int lv]) ⟨hx, hb, hml, hown, hts⟩ (c_X0_firstYear l D cI cL cZ cO h0 q1 q2 q3 q4 q5 q6 K Y P S O N n F k (by first | omega | assumption | grind | simp_all) (by first | omega | assumption | grind | simp_all)) (cwV 1 hts gX0_lifeOf_X0_firstYear rfl rfl rfl (by decide +kernel) ⟨Nat.le_of_ble_eq_true rfl, Nat.le_of_ble_eq_true rfl⟩) (pn_pv hP hK (q0 := 0) rfl rfl) rfl rfl hl.1 rfl (lv_room (Nat.le_of_ble_eq_true rfl)) dX0_lifeOf_93 ⟨Nat.le_of_ble_eq_true rfl, Nat.le_of_ble_eq_true rfl⟩) (fun H locs hP hS => ?_)
                refine lv_isub hx hb dX0_lifeOf_96 ?_
                refine lv_iconst (v := (nI 1)) hx hb dX0_lifeOf_97 (by decide) ?_
                refine lv_iadd hx hb dX0_lifeOf_98 ?_
                refine lv_iadd hx hb dX0_lifeOf_99 ?_
                refine lv_istore (lv' := [(5, .int (lv + (((pn_ly Y n k) - (pn_fy Y n k)) + (nI 1)))), (4, .int (pn_ly Y n k)), (3, .int (pn_fy Y n k)), (0, .ref h0), (1, .int pa), (2, .int (nI wh)), (6, .int ev), (7, .int (pn_sit P S O pa k)), (8, .int (nI k))]) hx hb dX0_lifeOf_100 hl (by decide) rfl (fun ls hl => ?_)
                refine lv_iload hx hb dX0_lifeOf_102 (lv_at hl 6 rfl) ?_
                refine lv_iload hx hb dX0_lifeOf_104 (lv_at hl 7 rfl) ?_
                refine lv_ior hx hb dX0_lifeOf_106 ?_
                refine lv_istore (lv' := [(6, .int (ev ||| (pn_sit P S O pa k))), (5, .int (lv + (((pn_ly Y n k) - (pn_fy Y n k)) + (nI 1)))), (4, .int (pn_ly Y n k)), (3, .int (pn_fy Y n k)), (0, .ref h0), (1, .int pa), (2, .int (nI wh)), (7, .int (pn_sit P S O pa k)), (8, .int (nI k))]) hx hb dX0_lifeOf_107 hl (by decide) rfl (fun ls hl => ?_)
                refine lv_iinc (v := (nI (k + 1))) (lv' := [(8, .int (nI (k + 1))), (6, .int (ev ||| (pn_sit P S O pa k))), (5, .int (lv + (((pn_ly Y n k) - (pn_fy Y n k)) + (nI 1)))), (4, .int (pn_ly Y n k)), (3, .int (pn_fy Y n k)), (0, .ref h0), (1, .int pa), (2, .int (nI wh)), (7, .int (pn_sit P S O pa k))]) hx hb dX0_lifeOf_109 hl (k := 8) rfl (nI_add k 1) (by decide) rfl (fun ls hl => ?_)
                refine lv_goto (tgt := 22) hx hb dX0_lifeOf_112 (by decide) ?_
                exact ih22_1 (k + 1) (pn_fy Y n k) (pn_ly Y n k) (lv + (((pn_ly Y n k) - (pn_fy Y n k)) + (nI 1))) (ev ||| (pn_sit P S O pa k)) (pn_sit P S O pa k) (by omega) (by first | omega | assumption | grind | simp_all) (by first | exact pn_life_f e1 (Or.inl b51) | exact pn_life_f e1 (Or.inr b60) | exact pn_life_t1 e1 b51 b60 b68 | exact pn_life_t2 e1 b51 b60 b68) rfl _ _ _ hP hS (lv_sub hl [5, 6, 7, 4, 3, 2, 1, 8, 0] rfl)
            · have b60 : ¬ (pn_fy Y n k ≤ pn_ly Y n k) := pn_b0.mp b60
              refine lv_goto (tgt := 109) hx hb dX0_lifeOf_63 (by decide) ?_
              refine lv_iinc (v := (nI (k + 1))) (lv' := [(8, .int (nI (k + 1))), (0, .ref h0), (1, .int pa), (2, .int (nI wh)), (3, .int f), (4, .int la), (5, .int lv), (6, .int ev), (7, .int (pn_sit P S O pa k))]) hx hb dX0_lifeOf_109 hl (k := 8) rfl (nI_add k 1) (by decide) rfl (fun ls hl => ?_)
              refine lv_goto (tgt := 22) hx hb dX0_lifeOf_112 (by decide) ?_
              exact ih22_1 (k + 1) f la lv ev (pn_sit P S O pa k) (by omega) (by first | omega | assumption | grind | simp_all) (by first | exact pn_life_f e1 (Or.inl b51) | exact pn_life_f e1 (Or.inr b60) | exact pn_life_t1 e1 b51 b60 b68 | exact pn_life_t2 e1 b51 b60 b68) rfl _ _ _ hP hS (lv_sub hl [1, 2, 3, 4, 5, 6, 7, 8, 0] rfl)
        · have b33 : ¬ k ≤ 0 := fun h => (show ¬ nI k ≤ nI 0 from b33) ((pn_le (by omega) (by omega)).mpr h)
          refine lv_aload_n hx hb dX0_lifeOf_36 rfl (lv_at hl 0 rfl) ?_
          refine lv_iload hx hb dX0_lifeOf_37 (lv_at hl 8 rfl) ?_
          refine lv_iconst (v := (nI 1)) hx hb dX0_lifeOf_39 (by decide) ?_
          refine pn_isub hx hb (by omega) dX0_lifeOf_40 ?_
          refine lv_iload_n hx hb dX0_lifeOf_41 rfl (lv_at hl 1 rfl) ?_
          refine lv_iload hx hb dX0_lifeOf_42 (lv_at hl 7 rfl) ?_
          refine pn_roi (w := [(h0, .inr (0, [.ref q1, .ref q2, .ref q3, .ref q4, .ref q5, .ref q6, .int (nI n), .int (nI F)])), (q1, .inl (cI, 30, .inl K)), (q2, .inl (cI, 30, .inl Y)), (q3, .inl (cI, 30, .inl P)), (q4, .inl (cI, 30, .inl S)), (q5, .inl (cI, 30, .inl O)), (q6, .inl (cL, 30, .inr (.inl N)))]) hP hS (va_runV (As := [.int (nI (k - 1)), .int pa, .int hd]) (rest := []) ⟨hx, hb, hml, hown, hts⟩ (c_X0_sitesThrough l D cI cL cZ cO h0 q1 q2 q3 q4 q5 q6 K Y P S O N n F (k - 1) pa hd (by first | omega | assumption | grind | simp_all) (by first | omega | assumption | grind | simp_all)) (cwV 3 hts gX0_lifeOf_X0_sitesThrough rfl rfl rfl (by decide +kernel) ⟨Nat.le_of_ble_eq_true rfl, Nat.le_of_ble_eq_true rfl⟩) (pn_pv hP hK (q0 := 0) rfl rfl) rfl rfl hl.1 rfl (lv_room (Nat.le_of_ble_eq_true rfl)) dX0_lifeOf_44 ⟨Nat.le_of_ble_eq_true rfl, Nat.le_of_ble_eq_true rfl⟩) (fun H locs hP hS => ?_)
          refine lv_istore (lv' := [(7, .int (pn_sitT P S O (k - 1) pa hd)), (0, .ref h0), (1, .int pa), (2, .int (nI wh)), (3, .int f), (4, .int la), (5, .int lv), (6, .int ev), (8, .int (nI k))]) hx hb dX0_lifeOf_47 hl (by decide) rfl (fun ls hl => ?_)
          rw [show (pn_sitT P S O (k - 1) pa hd) = (pn_sit P S O pa k) from (by rw [e5]; obtain ⟨j, rfl⟩ : ∃ j, k = j + 1 := ⟨k - 1, by omega⟩; rfl)] at hl
          refine lv_iload hx hb dX0_lifeOf_49 (lv_at hl 0 rfl) ?_
          refine lv_if_eq (tgt := 109) hx hb dX0_lifeOf_51 (by decide) (fun b51 => ?_) (fun b51 => ?_)
          · refine lv_iinc (v := (nI (k + 1))) (lv' := [(8, .int (nI (k + 1))), (7, .int (pn_sit P S O pa k)), (0, .ref h0), (1, .int pa), (2, .int (nI wh)), (3, .int f), (4, .int la), (5, .int lv), (6, .int ev)]) hx hb dX0_lifeOf_109 hl (k := 8) rfl (nI_add k 1) (by decide) rfl (fun ls hl => ?_)
            refine lv_goto (tgt := 22) hx hb dX0_lifeOf_112 (by decide) ?_
            exact ih22_1 (k + 1) f la lv ev (pn_sit P S O pa k) (by omega) (by first | omega | assumption | grind | simp_all) (by first | exact pn_life_f e1 (Or.inl b51) | exact pn_life_f e1 (Or.inr b60) | exact pn_life_t1 e1 b51 b60 b68 | exact pn_life_t2 e1 b51 b60 b68) rfl _ _ _ hP hS (lv_sub hl [2, 3, 4, 5, 6, 7, 8, 1, 0] rfl)
          · refine lv_aload_n hx hb dX0_lifeOf_54 rfl (lv_at hl 1 rfl) ?_
            refine lv_iload hx hb dX0_lifeOf_55 (lv_at hl 8 rfl) ?_
            refine pn_roi (w := [(h0, .inr (0, [.ref q1, .ref q2, .ref q3, .ref q4, .ref q5, .ref q6, .int (nI n), .int (nI F)])), (q1, .inl (cI, 30, .inl K)), (q2, .inl (cI, 30, .inl Y)), (q3, .inl (cI, 30, .inl P)), (q4, .inl (cI, 30, .inl S)), (q5, .inl (cI, 30, .inl O)), (q6, .inl (cL, 30, .inr (.inl N)))]) hP hS (va_runV (As := [.int (nI k)]) (rest := []) ⟨hx, hb, hml, hown, hts⟩ (c_X0_holdsInAYear l D cI cL cZ cO h0 q1 q2 q3 q4 q5 q6 K Y P S O N n F k (by first | omega | assumption | grind | simp_all) (by first | omega | assumption | grind | simp_all)) (cwV 1 hts gX0_lifeOf_X0_holdsInAYear rfl rfl rfl (by decide +kernel) ⟨Nat.le_of_ble_eq_true rfl, Nat.le_of_ble_eq_true rfl⟩) (pn_pv hP hK (q0 := 0) rfl rfl) rfl rfl hl.1 rfl (lv_room (Nat.le_of_ble_eq_true rfl)) dX0_lifeOf_57 ⟨Nat.le_of_ble_eq_true rfl, Nat.le_of_ble_eq_true rfl⟩) (fun H locs hP hS => ?_)
            refine lv_if_ne (tgt := 66) hx hb dX0_lifeOf_60 (by decide) (fun b60 => ?_) (fun b60 => ?_)
            · have b60 : pn_fy Y n k ≤ pn_ly Y n k := pn_b1.mp b60
              refine lv_iload hx hb dX0_lifeOf_66 (lv_at hl 6 rfl) ?_
              refine lv_if_ne (tgt := 78) hx hb dX0_lifeOf_68 (by decide) (fun b68 => ?_) (fun b68 => ?_)
              · refine lv_aload_n hx hb dX0_lifeOf_78 rfl (lv_at hl 1 rfl) ?_
                refine lv_iload hx hb dX0_lifeOf_79 (lv_at hl 8 rfl) ?_
                refine pn_roi (w := [(h0, .inr (0, [.ref q1, .ref q2, .ref q3, .ref q4, .ref q5, .ref q6, .int (nI n), .int (nI F)])), (q1, .inl (cI, 30, .inl K)), (q2, .inl (cI, 30, .inl Y)), (q3, .inl (cI, 30, .inl P)), (q4, .inl (cI, 30, .inl S)), (q5, .inl (cI, 30, .inl O)), (q6, .inl (cL, 30, .inr (.inl N)))]) hP hS (va_runV (As := [.int (nI k)]) (rest := []) ⟨hx, hb, hml, hown, hts⟩ (c_X0_lastYear l D cI cL cZ cO h0 q1 q2 q3 q4 q5 q6 K Y P S O N n F k (by first | omega | assumption | grind | simp_all) (by first | omega | assumption | grind | simp_all)) (cwV 1 hts gX0_lifeOf_X0_lastYear rfl rfl rfl (by decide +kernel) ⟨Nat.le_of_ble_eq_true rfl, Nat.le_of_ble_eq_true rfl⟩) (pn_pv hP hK (q0 := 0) rfl rfl) rfl rfl hl.1 rfl (lv_room (Nat.le_of_ble_eq_true rfl)) dX0_lifeOf_81 ⟨Nat.le_of_ble_eq_true rfl, Nat.le_of_ble_eq_true rfl⟩) (fun H locs hP hS => ?_)
                refine lv_istore (lv' := [(4, .int (pn_ly Y n k)), (7, .int (pn_sit P S O pa k)), (0, .ref h0), (1, .int pa), (2, .int (nI wh)), (3, .int f), (5, .int lv), (6, .int ev), (8, .int (nI k))]) hx hb dX0_lifeOf_84 hl (by decide) rfl (fun ls hl => ?_)
                refine lv_iload hx hb dX0_lifeOf_86 (lv_at hl 6 rfl) ?_
                refine lv_iload hx hb dX0_lifeOf_88 (lv_at hl 0 rfl) ?_
                refine lv_aload_n hx hb dX0_lifeOf_90 rfl (lv_at hl 2 rfl) ?_
                refine lv_iload hx hb dX0_lifeOf_91 (lv_at hl 8 rfl) ?_
                refine pn_roi (w := [(h0, .inr (0, [.ref q1, .ref q2, .ref q3, .ref q4, .ref q5, .ref q6, .int (nI n), .int (nI F)])), (q1, .inl (cI, 30, .inl K)), (q2, .inl (cI, 30, .inl Y)), (q3, .inl (cI, 30, .inl P)), (q4, .inl (cI, 30, .inl S)), (q5, .inl (cI, 30, .inl O)), (q6, .inl (cL, 30, .inr (.inl N)))]) hP hS (va_runV (As := [.int (nI k)]) (rest := [.int (pn_ly Y n k), .int lv]) ⟨hx, hb, hml, hown, hts⟩ (c_X0_firstYear l D cI cL cZ cO h0 q1 q2 q3 q4 q5 q6 K Y P S O N n F k (by first | omega | assumption | grind | simp_all) (by first | omega | assumption | grind | simp_all)) (cwV 1 hts gX0_lifeOf_X0_firstYear rfl rfl rfl (by decide +kernel) ⟨Nat.le_of_ble_eq_true rfl, Nat.le_of_ble_eq_true rfl⟩) (pn_pv hP hK (q0 := 0) rfl rfl) rfl rfl hl.1 rfl (lv_room (Nat.le_of_ble_eq_true rfl)) dX0_lifeOf_93 ⟨Nat.le_of_ble_eq_true rfl, Nat.le_of_ble_eq_true rfl⟩) (fun H locs hP hS => ?_)
                refine lv_isub hx hb dX0_lifeOf_96 ?_
                refine lv_iconst (v := (nI 1)) hx hb dX0_lifeOf_97 (by decide) ?_
                refine lv_iadd hx hb dX0_lifeOf_98 ?_
                refine lv_iadd hx hb dX0_lifeOf_99 ?_
                refine lv_istore (lv' := [(5, .int (lv + (((pn_ly Y n k) - (pn_fy Y n k)) + (nI 1)))), (4, .int (pn_ly Y n k)), (7, .int (pn_sit P S O pa k)), (0, .ref h0), (1, .int pa), (2, .int (nI wh)), (3, .int f), (6, .int ev), (8, .int (nI k))]) hx hb dX0_lifeOf_100 hl (by decide) rfl (fun ls hl => ?_)
                refine lv_iload hx hb dX0_lifeOf_102 (lv_at hl 7 rfl) ?_
                refine lv_iload hx hb dX0_lifeOf_104 (lv_at hl 2 rfl) ?_
                refine lv_ior hx hb dX0_lifeOf_106 ?_
                refine lv_istore (lv' := [(6, .int (ev ||| (pn_sit P S O pa k))), (5, .int (lv + (((pn_ly Y n k) - (pn_fy Y n k)) + (nI 1)))), (4, .int (pn_ly Y n k)), (7, .int (pn_sit P S O pa k)), (0, .ref h0), (1, .int pa), (2, .int (nI wh)), (3, .int f), (8, .int (nI k))]) hx hb dX0_lifeOf_107 hl (by decide) rfl (fun ls hl => ?_)
                refine lv_iinc (v := (nI (k + 1))) (lv' := [(8, .int (nI (k + 1))), (6, .int (ev ||| (pn_sit P S O pa k))), (5, .int (lv + (((pn_ly Y n k) - (pn_fy Y n k)) + (nI 1)))), (4, .int (pn_ly Y n k)), (7, .int (pn_sit P S O pa k)), (0, .ref h0), (1, .int pa), (2, .int (nI wh)), (3, .int f)]) hx hb dX0_lifeOf_109 hl (k := 8) rfl (nI_add k 1) (by decide) rfl (fun ls hl => ?_)
                refine lv_goto (tgt := 22) hx hb dX0_lifeOf_112 (by decide) ?_
                exact ih22_1 (k + 1) f (pn_ly Y n k) (lv + (((pn_ly Y n k) - (pn_fy Y n k)) + (nI 1))) (ev ||| (pn_sit P S O pa k)) (pn_sit P S O pa k) (by omega) (by first | omega | assumption | grind | simp_all) (by first | exact pn_life_f e1 (Or.inl b51) | exact pn_life_f e1 (Or.inr b60) | exact pn_life_t1 e1 b51 b60 b68 | exact pn_life_t2 e1 b51 b60 b68) rfl _ _ _ hP hS (lv_sub hl [5, 6, 7, 8, 3, 2, 1, 4, 0] rfl)
              · refine lv_aload_n hx hb dX0_lifeOf_71 rfl (lv_at hl 1 rfl) ?_
                refine lv_iload hx hb dX0_lifeOf_72 (lv_at hl 8 rfl) ?_
                refine pn_roi (w := [(h0, .inr (0, [.ref q1, .ref q2, .ref q3, .ref q4, .ref q5, .ref q6, .int (nI n), .int (nI F)])), (q1, .inl (cI, 30, .inl K)), (q2, .inl (cI, 30, .inl Y)), (q3, .inl (cI, 30, .inl P)), (q4, .inl (cI, 30, .inl S)), (q5, .inl (cI, 30, .inl O)), (q6, .inl (cL, 30, .inr (.inl N)))]) hP hS (va_runV (As := [.int (nI k)]) (rest := []) ⟨hx, hb, hml, hown, hts⟩ (c_X0_firstYear l D cI cL cZ cO h0 q1 q2 q3 q4 q5 q6 K Y P S O N n F k (by first | omega | assumption | grind | simp_all) (by first | omega | assumption | grind | simp_all)) (cwV 1 hts gX0_lifeOf_X0_firstYear rfl rfl rfl (by decide +kernel) ⟨Nat.le_of_ble_eq_true rfl, Nat.le_of_ble_eq_true rfl⟩) (pn_pv hP hK (q0 := 0) rfl rfl) rfl rfl hl.1 rfl (lv_room (Nat.le_of_ble_eq_true rfl)) dX0_lifeOf_74 ⟨Nat.le_of_ble_eq_true rfl, Nat.le_of_ble_eq_true rfl⟩) (fun H locs hP hS => ?_)
                refine lv_istore_n (lv' := [(3, .int (pn_fy Y n k)), (7, .int (pn_sit P S O pa k)), (0, .ref h0), (1, .int pa), (2, .int (nI wh)), (4, .int la), (5, .int lv), (6, .int ev), (8, .int (nI k))]) hx hb dX0_lifeOf_77 rfl hl (by decide) rfl (fun ls hl => ?_)
                refine lv_aload_n hx hb dX0_lifeOf_78 rfl (lv_at hl 2 rfl) ?_
                refine lv_iload hx hb dX0_lifeOf_79 (lv_at hl 8 rfl) ?_
                refine pn_roi (w := [(h0, .inr (0, [.ref q1, .ref q2, .ref q3, .ref q4, .ref q5, .ref q6, .int (nI n), .int (nI F)])), (q1, .inl (cI, 30, .inl K)), (q2, .inl (cI, 30, .inl Y)), (q3, .inl (cI, 30, .inl P)), (q4, .inl (cI, 30, .inl S)), (q5, .inl (cI, 30, .inl O)), (q6, .inl (cL, 30, .inr (.inl N)))]) hP hS (va_runV (As := [.int (nI k)]) (rest := []) ⟨hx, hb, hml, hown, hts⟩ (c_X0_lastYear l D cI cL cZ cO h0 q1 q2 q3 q4 q5 q6 K Y P S O N n F k (by first | omega | assumption | grind | simp_all) (by first | omega | assumption | grind | simp_all)) (cwV 1 hts gX0_lifeOf_X0_lastYear rfl rfl rfl (by decide +kernel) ⟨Nat.le_of_ble_eq_true rfl, Nat.le_of_ble_eq_true rfl⟩) (pn_pv hP hK (q0 := 0) rfl rfl) rfl rfl hl.1 rfl (lv_room (Nat.le_of_ble_eq_true rfl)) dX0_lifeOf_81 ⟨Nat.le_of_ble_eq_true rfl, Nat.le_of_ble_eq_true rfl⟩) (fun H locs hP hS => ?_)
                refine lv_istore (lv' := [(4, .int (pn_ly Y n k)), (3, .int (pn_fy Y n k)), (7, .int (pn_sit P S O pa k)), (0, .ref h0), (1, .int pa), (2, .int (nI wh)), (5, .int lv), (6, .int ev), (8, .int (nI k))]) hx hb dX0_lifeOf_84 hl (by decide) rfl (fun ls hl => ?_)
                refine lv_iload hx hb dX0_lifeOf_86 (lv_at hl 6 rfl) ?_
                refine lv_iload hx hb dX0_lifeOf_88 (lv_at hl 0 rfl) ?_
                refine lv_aload_n hx hb dX0_lifeOf_90 rfl (lv_at hl 3 rfl) ?_
                refine lv_iload hx hb dX0_lifeOf_91 (lv_at hl 8 rfl) ?_
                refine pn_roi (w := [(h0, .inr (0, [.ref q1, .ref q2, .ref q3, .ref q4, .ref q5, .ref q6, .int (nI n), .int (nI F)])), (q1, .inl (cI, 30, .inl K)), (q2, .inl (cI, 30, .inl Y)), (q3, .inl (cI, 30, .inl P)), (q4, .inl (cI, 30, .inl S)), (q5, .inl (cI, 30, .inl O)), (q6, .inl (cL, 30, .inr (.inl N)))]) hP hS (va_runV (As := [.int (nI k)]) (rest := [.int (pn_ly Y n k), .int lv]) ⟨hx, hb, hml, hown, hts⟩ (c_X0_firstYear l D cI cL cZ cO h0 q1 q2 q3 q4 q5 q6 K Y P S O N n F k (by first | omega | assumption | grind | simp_all) (by first | omega | assumption | grind | simp_all)) (cwV 1 hts gX0_lifeOf_X0_firstYear rfl rfl rfl (by decide +kernel) ⟨Nat.le_of_ble_eq_true rfl, Nat.le_of_ble_eq_true rfl⟩) (pn_pv hP hK (q0 := 0) rfl rfl) rfl rfl hl.1 rfl (lv_room (Nat.le_of_ble_eq_true rfl)) dX0_lifeOf_93 ⟨Nat.le_of_ble_eq_true rfl, Nat.le_of_ble_eq_true rfl⟩) (fun H locs hP hS => ?_)
                refine lv_isub hx hb dX0_lifeOf_96 ?_
                refine lv_iconst (v := (nI 1)) hx hb dX0_lifeOf_97 (by decide) ?_
                refine lv_iadd hx hb dX0_lifeOf_98 ?_
                refine lv_iadd hx hb dX0_lifeOf_99 ?_
                refine lv_istore (lv' := [(5, .int (lv + (((pn_ly Y n k) - (pn_fy Y n k)) + (nI 1)))), (4, .int (pn_ly Y n k)), (3, .int (pn_fy Y n k)), (7, .int (pn_sit P S O pa k)), (0, .ref h0), (1, .int pa), (2, .int (nI wh)), (6, .int ev), (8, .int (nI k))]) hx hb dX0_lifeOf_100 hl (by decide) rfl (fun ls hl => ?_)
                refine lv_iload hx hb dX0_lifeOf_102 (lv_at hl 7 rfl) ?_
                refine lv_iload hx hb dX0_lifeOf_104 (lv_at hl 3 rfl) ?_
                refine lv_ior hx hb dX0_lifeOf_106 ?_
                refine lv_istore (lv' := [(6, .int (ev ||| (pn_sit P S O pa k))), (5, .int (lv + (((pn_ly Y n k) - (pn_fy Y n k)) + (nI 1)))), (4, .int (pn_ly Y n k)), (3, .int (pn_fy Y n k)), (7, .int (pn_sit P S O pa k)), (0, .ref h0), (1, .int pa), (2, .int (nI wh)), (8, .int (nI k))]) hx hb dX0_lifeOf_107 hl (by decide) rfl (fun ls hl => ?_)
                refine lv_iinc (v := (nI (k + 1))) (lv' := [(8, .int (nI (k + 1))), (6, .int (ev ||| (pn_sit P S O pa k))), (5, .int (lv + (((pn_ly Y n k) - (pn_fy Y n k)) + (nI 1)))), (4, .int (pn_ly Y n k)), (3, .int (pn_fy Y n k)), (7, .int (pn_sit P S O pa k)), (0, .ref h0), (1, .int pa), (2, .int (nI wh))]) hx hb dX0_lifeOf_109 hl (k := 8) rfl (nI_add k 1) (by decide) rfl (fun ls hl => ?_)
                refine lv_goto (tgt := 22) hx hb dX0_lifeOf_112 (by decide) ?_
                exact ih22_1 (k + 1) (pn_fy Y n k) (pn_ly Y n k) (lv + (((pn_ly Y n k) - (pn_fy Y n k)) + (nI 1))) (ev ||| (pn_sit P S O pa k)) (pn_sit P S O pa k) (by omega) (by first | omega | assumption | grind | simp_all) (by first | exact pn_life_f e1 (Or.inl b51) | exact pn_life_f e1 (Or.inr b60) | exact pn_life_t1 e1 b51 b60 b68 | exact pn_life_t2 e1 b51 b60 b68) rfl _ _ _ hP hS (lv_sub hl [6, 7, 8, 4, 3, 2, 1, 5, 0] rfl)
            · have b60 : ¬ (pn_fy Y n k ≤ pn_ly Y n k) := pn_b0.mp b60
              refine lv_goto (tgt := 109) hx hb dX0_lifeOf_63 (by decide) ?_
              refine lv_iinc (v := (nI (k + 1))) (lv' := [(8, .int (nI (k + 1))), (7, .int (pn_sit P S O pa k)), (0, .ref h0), (1, .int pa), (2, .int (nI wh)), (3, .int f), (4, .int la), (5, .int lv), (6, .int ev)]) hx hb dX0_lifeOf_109 hl (k := 8) rfl (nI_add k 1) (by decide) rfl (fun ls hl => ?_)
              refine lv_goto (tgt := 22) hx hb dX0_lifeOf_112 (by decide) ?_
              exact ih22_1 (k + 1) f la lv ev (pn_sit P S O pa k) (by omega) (by first | omega | assumption | grind | simp_all) (by first | exact pn_life_f e1 (Or.inl b51) | exact pn_life_f e1 (Or.inr b60) | exact pn_life_t1 e1 b51 b60 b68 | exact pn_life_t2 e1 b51 b60 b68) rfl _ _ _ hP hS (lv_sub hl [2, 3, 4, 5, 6, 7, 8, 1, 0] rfl)
  exact lp22_1 ((n + 1 - 0) + 1) 0 (-6) (-6) (nI 0) (nI 0) (pn_sit0 pa) (Nat.lt_succ_self _) (by first | omega | assumption | grind | simp_all) rfl rfl _ _ _ hP hS (lv_sub hl [6, 7, 8, 5, 4, 3, 2, 1, 0] rfl)
end
