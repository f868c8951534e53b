section
-- ===== PART A: goes FIRST, ahead of the names: the tables' words, and 'selects' of the private methods out of them =====
/-- a private method of a class that the tables say can be made, by its rows of tables_1 -/
def lw_okq (q : MethodName × Nat) : Prop := (q.1.cls ≠ "java/lang/invoke/MethodHandle" ∧ q.1.cls ≠ "java/lang/invoke/VarHandle") ∧ Cond.instantiable q.1.cls q.2 ∈ tables_1 ∧ Cond.privateMethod q.1 ∈ tables_1 ∧ Cond.instanceMethod q.1 ∈ tables_1
theorem lw_p0 : lw_okq (⟨"ParishNames", "padIsNoName", "()Z"⟩, 5) := ⟨⟨by decide +kernel, by decide +kernel⟩, List.mem_of_getElem? (i := 9) (by decide +kernel), List.mem_of_getElem? (i := 105) (by decide +kernel), List.mem_of_getElem? (i := 106) (by decide +kernel)⟩
theorem lw_p1 : lw_okq (⟨"ParishNames", "takePad", "()J"⟩, 5) := ⟨⟨by decide +kernel, by decide +kernel⟩, List.mem_of_getElem? (i := 9) (by decide +kernel), List.mem_of_getElem? (i := 132) (by decide +kernel), List.mem_of_getElem? (i := 133) (by decide +kernel)⟩
theorem lw_p2 : lw_okq (⟨"ParishNames", "wasCalled", "(IIII)Z"⟩, 5) := ⟨⟨by decide +kernel, by decide +kernel⟩, List.mem_of_getElem? (i := 9) (by decide +kernel), List.mem_of_getElem? (i := 290) (by decide +kernel), List.mem_of_getElem? (i := 291) (by decide +kernel)⟩
theorem lw_p3 : lw_okq (⟨"ParishNames", "spanFact", "(IIII)I"⟩, 5) := ⟨⟨by decide +kernel, by decide +kernel⟩, List.mem_of_getElem? (i := 9) (by decide +kernel), List.mem_of_getElem? (i := 338) (by decide +kernel), List.mem_of_getElem? (i := 339) (by decide +kernel)⟩
theorem lw_p4 : lw_okq (⟨"ParishNames$Chronicle", "isNameOfLesser", "(I)Z"⟩, 8) := ⟨⟨by decide +kernel, by decide +kernel⟩, List.mem_of_getElem? (i := 17) (by decide +kernel), List.mem_of_getElem? (i := 375) (by decide +kernel), List.mem_of_getElem? (i := 376) (by decide +kernel)⟩
theorem lw_p5 : lw_okq (⟨"ParishNamesModel", "isParish", "(I)Z"⟩, 16) := ⟨⟨by decide +kernel, by decide +kernel⟩, List.mem_of_getElem? (i := 383) (by decide +kernel), List.mem_of_getElem? (i := 454) (by decide +kernel), List.mem_of_getElem? (i := 455) (by decide +kernel)⟩
theorem lw_p6 : lw_okq (⟨"ParishNamesModel", "lastYear", "()I"⟩, 16) := ⟨⟨by decide +kernel, by decide +kernel⟩, List.mem_of_getElem? (i := 383) (by decide +kernel), List.mem_of_getElem? (i := 461) (by decide +kernel), List.mem_of_getElem? (i := 462) (by decide +kernel)⟩
theorem lw_p7 : lw_okq (⟨"ParishNamesModel", "goToEnd", "()V"⟩, 16) := ⟨⟨by decide +kernel, by decide +kernel⟩, List.mem_of_getElem? (i := 383) (by decide +kernel), List.mem_of_getElem? (i := 465) (by decide +kernel), List.mem_of_getElem? (i := 466) (by decide +kernel)⟩
theorem lw_p8 : lw_okq (⟨"ParishNamesModel", "goThrough", "(I)V"⟩, 16) := ⟨⟨by decide +kernel, by decide +kernel⟩, List.mem_of_getElem? (i := 383) (by decide +kernel), List.mem_of_getElem? (i := 469) (by decide +kernel), List.mem_of_getElem? (i := 470) (by decide +kernel)⟩
theorem lw_p9 : lw_okq (⟨"ParishNamesModel", "sitesOf", "(I)I"⟩, 16) := ⟨⟨by decide +kernel, by decide +kernel⟩, List.mem_of_getElem? (i := 383) (by decide +kernel), List.mem_of_getElem? (i := 473) (by decide +kernel), List.mem_of_getElem? (i := 474) (by decide +kernel)⟩
theorem lw_p10 : lw_okq (⟨"ParishNamesModel", "add", "(IIIII)V"⟩, 16) := ⟨⟨by decide +kernel, by decide +kernel⟩, List.mem_of_getElem? (i := 383) (by decide +kernel), List.mem_of_getElem? (i := 477) (by decide +kernel), List.mem_of_getElem? (i := 478) (by decide +kernel)⟩
theorem lw_p11 : lw_okq (⟨"ParishNamesModel", "takeName", "(I)V"⟩, 16) := ⟨⟨by decide +kernel, by decide +kernel⟩, List.mem_of_getElem? (i := 383) (by decide +kernel), List.mem_of_getElem? (i := 481) (by decide +kernel), List.mem_of_getElem? (i := 482) (by decide +kernel)⟩
theorem lw_p12 : lw_okq (⟨"ParishNamesModel", "isSome", "(II)Z"⟩, 16) := ⟨⟨by decide +kernel, by decide +kernel⟩, List.mem_of_getElem? (i := 383) (by decide +kernel), List.mem_of_getElem? (i := 489) (by decide +kernel), List.mem_of_getElem? (i := 490) (by decide +kernel)⟩
theorem lw_p13 : lw_okq (⟨"ParishNamesModel", "goTo", "(I)V"⟩, 16) := ⟨⟨by decide +kernel, by decide +kernel⟩, List.mem_of_getElem? (i := 383) (by decide +kernel), List.mem_of_getElem? (i := 516) (by decide +kernel), List.mem_of_getElem? (i := 517) (by decide +kernel)⟩
theorem lw_p14 : lw_okq (⟨"ParishNamesModel", "lettersOf", "(I)I"⟩, 16) := ⟨⟨by decide +kernel, by decide +kernel⟩, List.mem_of_getElem? (i := 383) (by decide +kernel), List.mem_of_getElem? (i := 528) (by decide +kernel), List.mem_of_getElem? (i := 529) (by decide +kernel)⟩
theorem lw_p15 : lw_okq (⟨"ParishNamesModel", "letterOf", "(II)I"⟩, 16) := ⟨⟨by decide +kernel, by decide +kernel⟩, List.mem_of_getElem? (i := 383) (by decide +kernel), List.mem_of_getElem? (i := 532) (by decide +kernel), List.mem_of_getElem? (i := 533) (by decide +kernel)⟩
def lw_privs_1 : List (MethodName × Nat) := [(⟨"ParishNames", "padIsNoName", "()Z"⟩, 5), (⟨"ParishNames", "takePad", "()J"⟩, 5), (⟨"ParishNames", "wasCalled", "(IIII)Z"⟩, 5), (⟨"ParishNames", "spanFact", "(IIII)I"⟩, 5), (⟨"ParishNames$Chronicle", "isNameOfLesser", "(I)Z"⟩, 8), (⟨"ParishNamesModel", "isParish", "(I)Z"⟩, 16), (⟨"ParishNamesModel", "lastYear", "()I"⟩, 16), (⟨"ParishNamesModel", "goToEnd", "()V"⟩, 16), (⟨"ParishNamesModel", "goThrough", "(I)V"⟩, 16), (⟨"ParishNamesModel", "sitesOf", "(I)I"⟩, 16), (⟨"ParishNamesModel", "add", "(IIIII)V"⟩, 16), (⟨"ParishNamesModel", "takeName", "(I)V"⟩, 16), (⟨"ParishNamesModel", "isSome", "(II)Z"⟩, 16), (⟨"ParishNamesModel", "goTo", "(I)V"⟩, 16), (⟨"ParishNamesModel", "lettersOf", "(I)I"⟩, 16), (⟨"ParishNamesModel", "letterOf", "(II)I"⟩, 16)]
theorem lw_r1 : ∀ q ∈ lw_privs_1, lw_okq q := List.forall_mem_cons.mpr ⟨lw_p0, List.forall_mem_cons.mpr ⟨lw_p1, List.forall_mem_cons.mpr ⟨lw_p2, List.forall_mem_cons.mpr ⟨lw_p3, List.forall_mem_cons.mpr ⟨lw_p4, List.forall_mem_cons.mpr ⟨lw_p5, List.forall_mem_cons.mpr ⟨lw_p6, List.forall_mem_cons.mpr ⟨lw_p7, List.forall_mem_cons.mpr ⟨lw_p8, List.forall_mem_cons.mpr ⟨lw_p9, List.forall_mem_cons.mpr ⟨lw_p10, List.forall_mem_cons.mpr ⟨lw_p11, List.forall_mem_cons.mpr ⟨lw_p12, List.forall_mem_cons.mpr ⟨lw_p13, List.forall_mem_cons.mpr ⟨lw_p14, List.forall_mem_cons.mpr ⟨lw_p15, fun _ h => absurd h List.not_mem_nil⟩⟩⟩⟩⟩⟩⟩⟩⟩⟩⟩⟩⟩⟩⟩⟩
theorem lw_p16 : lw_okq (⟨"ParishNamesModel", "layFirst", "(I)V"⟩, 16) := ⟨⟨by decide +kernel, by decide +kernel⟩, List.mem_of_getElem? (i := 383) (by decide +kernel), List.mem_of_getElem? (i := 540) (by decide +kernel), List.mem_of_getElem? (i := 541) (by decide +kernel)⟩
theorem lw_p17 : lw_okq (⟨"ParishNamesModel", "toldOf", "(I)I"⟩, 16) := ⟨⟨by decide +kernel, by decide +kernel⟩, List.mem_of_getElem? (i := 383) (by decide +kernel), List.mem_of_getElem? (i := 554) (by decide +kernel), List.mem_of_getElem? (i := 555) (by decide +kernel)⟩
theorem lw_p18 : lw_okq (⟨"ParishNamesModel", "layPad", "()V"⟩, 16) := ⟨⟨by decide +kernel, by decide +kernel⟩, List.mem_of_getElem? (i := 383) (by decide +kernel), List.mem_of_getElem? (i := 568) (by decide +kernel), List.mem_of_getElem? (i := 569) (by decide +kernel)⟩
theorem lw_p19 : lw_okq (⟨"ParishNamesModel", "isLike", "(II)Z"⟩, 16) := ⟨⟨by decide +kernel, by decide +kernel⟩, List.mem_of_getElem? (i := 383) (by decide +kernel), List.mem_of_getElem? (i := 572) (by decide +kernel), List.mem_of_getElem? (i := 573) (by decide +kernel)⟩
theorem lw_p20 : lw_okq (⟨"ParishNamesModel", "areSame", "()Z"⟩, 16) := ⟨⟨by decide +kernel, by decide +kernel⟩, List.mem_of_getElem? (i := 383) (by decide +kernel), List.mem_of_getElem? (i := 576) (by decide +kernel), List.mem_of_getElem? (i := 577) (by decide +kernel)⟩
theorem lw_p21 : lw_okq (⟨"ParishNamesModel", "soundSame", "()Z"⟩, 16) := ⟨⟨by decide +kernel, by decide +kernel⟩, List.mem_of_getElem? (i := 383) (by decide +kernel), List.mem_of_getElem? (i := 580) (by decide +kernel), List.mem_of_getElem? (i := 581) (by decide +kernel)⟩
theorem lw_p22 : lw_okq (⟨"ParishNamesModel", "offNow", "()I"⟩, 16) := ⟨⟨by decide +kernel, by decide +kernel⟩, List.mem_of_getElem? (i := 383) (by decide +kernel), List.mem_of_getElem? (i := 584) (by decide +kernel), List.mem_of_getElem? (i := 585) (by decide +kernel)⟩
theorem lw_p23 : lw_okq (⟨"ParishNamesModel", "keepFirst", "()V"⟩, 16) := ⟨⟨by decide +kernel, by decide +kernel⟩, List.mem_of_getElem? (i := 383) (by decide +kernel), List.mem_of_getElem? (i := 603) (by decide +kernel), List.mem_of_getElem? (i := 604) (by decide +kernel)⟩
theorem lw_p24 : lw_okq (⟨"ParishNamesModel", "ofKind", "(I)I"⟩, 16) := ⟨⟨by decide +kernel, by decide +kernel⟩, List.mem_of_getElem? (i := 383) (by decide +kernel), List.mem_of_getElem? (i := 623) (by decide +kernel), List.mem_of_getElem? (i := 624) (by decide +kernel)⟩
theorem lw_p25 : lw_okq (⟨"ParishNamesModel", "thereNow", "()I"⟩, 16) := ⟨⟨by decide +kernel, by decide +kernel⟩, List.mem_of_getElem? (i := 383) (by decide +kernel), List.mem_of_getElem? (i := 627) (by decide +kernel), List.mem_of_getElem? (i := 628) (by decide +kernel)⟩
theorem lw_p26 : lw_okq (⟨"ParishNamesModel", "namesNow", "()I"⟩, 16) := ⟨⟨by decide +kernel, by decide +kernel⟩, List.mem_of_getElem? (i := 383) (by decide +kernel), List.mem_of_getElem? (i := 631) (by decide +kernel), List.mem_of_getElem? (i := 632) (by decide +kernel)⟩
def lw_privs_2 : List (MethodName × Nat) := [(⟨"ParishNamesModel", "layFirst", "(I)V"⟩, 16), (⟨"ParishNamesModel", "toldOf", "(I)I"⟩, 16), (⟨"ParishNamesModel", "layPad", "()V"⟩, 16), (⟨"ParishNamesModel", "isLike", "(II)Z"⟩, 16), (⟨"ParishNamesModel", "areSame", "()Z"⟩, 16), (⟨"ParishNamesModel", "soundSame", "()Z"⟩, 16), (⟨"ParishNamesModel", "offNow", "()I"⟩, 16), (⟨"ParishNamesModel", "keepFirst", "()V"⟩, 16), (⟨"ParishNamesModel", "ofKind", "(I)I"⟩, 16), (⟨"ParishNamesModel", "thereNow", "()I"⟩, 16), (⟨"ParishNamesModel", "namesNow", "()I"⟩, 16)]
theorem lw_r2 : ∀ q ∈ lw_privs_2, lw_okq q := List.forall_mem_cons.mpr ⟨lw_p16, List.forall_mem_cons.mpr ⟨lw_p17, List.forall_mem_cons.mpr ⟨lw_p18, List.forall_mem_cons.mpr ⟨lw_p19, List.forall_mem_cons.mpr ⟨lw_p20, List.forall_mem_cons.mpr ⟨lw_p21, List.forall_mem_cons.mpr ⟨lw_p22, List.forall_mem_cons.mpr ⟨lw_p23, List.forall_mem_cons.mpr ⟨lw_p24, List.forall_mem_cons.mpr ⟨lw_p25, List.forall_mem_cons.mpr ⟨lw_p26, fun _ h => absurd h List.not_mem_nil⟩⟩⟩⟩⟩⟩⟩⟩⟩⟩⟩
def lw_privs : List (MethodName × Nat) := lw_privs_1 ++ (lw_privs_2)
def lw_tbl : List Cond := k2_sels lw_privs ++ tables_1
theorem lw_privs_ok : ∀ q ∈ lw_privs, lw_okq q := by
  show ∀ q ∈ lw_privs_1 ++ (lw_privs_2), lw_okq q
  exact List.forall_mem_append.mpr ⟨lw_r1, lw_r2⟩
/-! ===== BEGIN words of one list among another's, by their places ===== -/
theorem goodIn_r {big : List Cond} (ws : List Cond) (ps : List Nat) (hp : ws = ps.filterMap (fun i => big[i]?)) (h : ws.all goodWord = true) : GoodIn big ws := by
  intro w hw
  have h1 := List.all_eq_true.mp h w hw
  rw [hp] at hw
  obtain ⟨i, -, hi⟩ := List.mem_filterMap.mp hw
  have hm : w ∈ big := by first | exact List.mem_of_getElem? hi | exact List.getElem?_mem hi
  exact ⟨hm, good_of_word h1⟩
theorem goodIn_app {big a b : List Cond} (ha : GoodIn big a) (hb : GoodIn big b) : GoodIn big (a ++ b) := fun w h => (List.mem_append.mp h).elim (ha w) (hb w)
theorem goodIn_ca {big a b : List Cond} {c : Cond} (ha : GoodIn big (c :: a)) (hb : GoodIn big b) : GoodIn big (c :: (a ++ b)) := fun w h => (List.mem_cons.mp h).elim (fun e => ha w (List.mem_cons.mpr (Or.inl e))) (fun h => (List.mem_append.mp h).elim (fun h => ha w (List.mem_cons.mpr (Or.inr h))) (hb w))
theorem goodIn_sub {big ws : List Cond} (hm : ∀ w ∈ ws, w ∈ big) (h : ws.all goodWord = true) : GoodIn big ws := fun w hw => ⟨hm w hw, good_of_word (List.all_eq_true.mp h w hw)⟩
/-! ===== END ===== -/

/-! ===== BEGIN printed: names, fields, word lists, decode rows ===== -/
def RX0 : String := "ParishNames$Chronicle"
def TX0 : u_T := fun k => match k with
  | 0 => ("ParishNames$Chronicle", "kinds", "[I", true)
  | 1 => ("ParishNames$Chronicle", "years", "[I", true)
  | 2 => ("ParishNames$Chronicle", "parishes", "[I", true)
  | 3 => ("ParishNames$Chronicle", "sets", "[I", true)
  | 4 => ("ParishNames$Chronicle", "owners", "[I", true)
  | 5 => ("ParishNames$Chronicle", "names", "[J", true)
  | 6 => ("ParishNames$Chronicle", "told", "I", false)
  | _ => ("ParishNames$Chronicle", "founded", "I", false)
def tyX0 : Nat → FieldType := fun k => match k with
  | 0 => .array .int
  | 1 => .array .int
  | 2 => .array .int
  | 3 => .array .int
  | 4 => .array .int
  | 5 => .array .long
  | 6 => .int
  | _ => .int
abbrev wsX00 : List Cond := u_ws RX0 TX0 8
theorem nmX0 : ∀ a, a < 8 → ∀ b, b < 8 → a ≠ b → (TX0 a).2.1 ≠ (TX0 b).2.1 := by decide +kernel
theorem tyX0_ok : ∀ k, k < 8 → parseFieldDescriptor (TX0 k).2.2.1 = some (tyX0 k) := by decide +kernel
abbrev cX0_init : ByteArray := prog_2_method_1_code
def yX0_init : MethodName := ⟨RX0, "<init>", "()V"⟩
abbrev cX0_eventCount : ByteArray := prog_2_method_2_code
def yX0_eventCount : MethodName := ⟨RX0, "eventCount", "()I"⟩
abbrev cX0_lastEvent : ByteArray := prog_2_method_3_code
def yX0_lastEvent : MethodName := ⟨RX0, "lastEvent", "()I"⟩
abbrev cX0_parishCount : ByteArray := prog_2_method_4_code
def yX0_parishCount : MethodName := ⟨RX0, "parishCount", "()I"⟩
abbrev cX0_isFull : ByteArray := prog_2_method_5_code
def yX0_isFull : MethodName := ⟨RX0, "isFull", "()Z"⟩
abbrev cX0_knows : ByteArray := prog_2_method_6_code
def yX0_knows : MethodName := ⟨RX0, "knows", "(I)Z"⟩
abbrev cX0_yearOfLast : ByteArray := prog_2_method_7_code
def yX0_yearOfLast : MethodName := ⟨RX0, "yearOfLast", "()I"⟩
abbrev cX0_tell : ByteArray := prog_2_method_8_code
def yX0_tell : MethodName := ⟨RX0, "tell", "(IIIIIJ)V"⟩
abbrev cX0_forgetLast : ByteArray := prog_2_method_9_code
def yX0_forgetLast : MethodName := ⟨RX0, "forgetLast", "()V"⟩
abbrev cX0_becomeLike : ByteArray := prog_2_method_10_code
def yX0_becomeLike : MethodName := ⟨RX0, "becomeLike", "(LParishNames$Chronicle;)V"⟩
abbrev cX0_factOf : ByteArray := prog_2_method_11_code
def yX0_factOf : MethodName := ⟨RX0, "factOf", "(II)I"⟩
abbrev cX0_firstYear : ByteArray := prog_2_method_12_code
def yX0_firstYear : MethodName := ⟨RX0, "firstYear", "(I)I"⟩
abbrev cX0_lastYear : ByteArray := prog_2_method_13_code
def yX0_lastYear : MethodName := ⟨RX0, "lastYear", "(I)I"⟩
abbrev cX0_holdsInAYear : ByteArray := prog_2_method_14_code
def yX0_holdsInAYear : MethodName := ⟨RX0, "holdsInAYear", "(I)Z"⟩
abbrev cX0_stageIn : ByteArray := prog_2_method_15_code
def yX0_stageIn : MethodName := ⟨RX0, "stageIn", "(I)I"⟩
abbrev cX0_sitesAtFirst : ByteArray := prog_2_method_16_code
def yX0_sitesAtFirst : MethodName := ⟨RX0, "sitesAtFirst", "(I)I"⟩
abbrev cX0_nameAtFirst : ByteArray := prog_2_method_17_code
def yX0_nameAtFirst : MethodName := ⟨RX0, "nameAtFirst", "(I)J"⟩
abbrev cX0_sitesThrough : ByteArray := prog_2_method_18_code
def yX0_sitesThrough : MethodName := ⟨RX0, "sitesThrough", "(III)I"⟩
abbrev cX0_nameThrough : ByteArray := prog_2_method_19_code
def yX0_nameThrough : MethodName := ⟨RX0, "nameThrough", "(IIJ)J"⟩
abbrev cX0_sitesBehind : ByteArray := prog_2_method_20_code
def yX0_sitesBehind : MethodName := ⟨RX0, "sitesBehind", "(II)I"⟩
abbrev cX0_nameBehind : ByteArray := prog_2_method_21_code
def yX0_nameBehind : MethodName := ⟨RX0, "nameBehind", "(II)J"⟩
abbrev cX0_ownerBehind : ByteArray := prog_2_method_22_code
def yX0_ownerBehind : MethodName := ⟨RX0, "ownerBehind", "(II)I"⟩
abbrev cX0_sitesNow : ByteArray := prog_2_method_23_code
def yX0_sitesNow : MethodName := ⟨RX0, "sitesNow", "(I)I"⟩
abbrev cX0_nameIn : ByteArray := prog_2_method_24_code
def yX0_nameIn : MethodName := ⟨RX0, "nameIn", "(II)J"⟩
abbrev cX0_nameAt : ByteArray := prog_2_method_25_code
def yX0_nameAt : MethodName := ⟨RX0, "nameAt", "(II)J"⟩
abbrev cX0_eventsOf : ByteArray := prog_2_method_26_code
def yX0_eventsOf : MethodName := ⟨RX0, "eventsOf", "(I)I"⟩
abbrev cX0_eventsOfKind : ByteArray := prog_2_method_27_code
def yX0_eventsOfKind : MethodName := ⟨RX0, "eventsOfKind", "(I)I"⟩
abbrev cX0_lifeOf : ByteArray := prog_2_method_28_code
def yX0_lifeOf : MethodName := ⟨RX0, "lifeOf", "(II)I"⟩
abbrev cX0_nextSpan : ByteArray := prog_2_method_29_code
def yX0_nextSpan : MethodName := ⟨RX0, "nextSpan", "(II)I"⟩
abbrev cX0_parishesNow : ByteArray := prog_2_method_30_code
def yX0_parishesNow : MethodName := ⟨RX0, "parishesNow", "()I"⟩
abbrev cX0_unlikeNamesNow : ByteArray := prog_2_method_31_code
def yX0_unlikeNamesNow : MethodName := ⟨RX0, "unlikeNamesNow", "()I"⟩
abbrev cX0_isNameOfLesser : ByteArray := prog_2_method_32_code
def yX0_isNameOfLesser : MethodName := ⟨RX0, "isNameOfLesser", "(I)Z"⟩
def RX1 : String := "ParishNames$Speller"
def TX1 : u_T := fun k => match k with
  | _ => ("ParishNames$Speller", "row", "[I", true)
def tyX1 : Nat → FieldType := fun k => match k with
  | _ => .array .int
abbrev wsX10 : List Cond := u_ws RX1 TX1 1
theorem nmX1 : ∀ a, a < 1 → ∀ b, b < 1 → a ≠ b → (TX1 a).2.1 ≠ (TX1 b).2.1 := by decide +kernel
theorem tyX1_ok : ∀ k, k < 1 → parseFieldDescriptor (TX1 k).2.2.1 = some (tyX1 k) := by decide +kernel
abbrev cX1_init : ByteArray := prog_3_method_1_code
def yX1_init : MethodName := ⟨RX1, "<init>", "()V"⟩
abbrev cX1_letterOf : ByteArray := prog_3_method_2_code
def yX1_letterOf : MethodName := ⟨RX1, "letterOf", "(JI)I"⟩
abbrev cX1_withLetter : ByteArray := prog_3_method_3_code
def yX1_withLetter : MethodName := ⟨RX1, "withLetter", "(JII)J"⟩
abbrev cX1_lengthOf : ByteArray := prog_3_method_4_code
def yX1_lengthOf : MethodName := ⟨RX1, "lengthOf", "(J)I"⟩
abbrev cX1_classOf : ByteArray := prog_3_method_5_code
def yX1_classOf : MethodName := ⟨RX1, "classOf", "(I)I"⟩
abbrev cX1_soundOf : ByteArray := prog_3_method_6_code
def yX1_soundOf : MethodName := ⟨RX1, "soundOf", "(J)I"⟩
abbrev cX1_lengthOfSound : ByteArray := prog_3_method_7_code
def yX1_lengthOfSound : MethodName := ⟨RX1, "lengthOfSound", "(I)I"⟩
abbrev cX1_classOfSound : ByteArray := prog_3_method_8_code
def yX1_classOfSound : MethodName := ⟨RX1, "classOfSound", "(II)I"⟩
abbrev cX1_areAlike : ByteArray := prog_3_method_9_code
def yX1_areAlike : MethodName := ⟨RX1, "areAlike", "(JJI)Z"⟩
abbrev cX1_distance : ByteArray := prog_3_method_10_code
def yX1_distance : MethodName := ⟨RX1, "distance", "(JJ)I"⟩
def RX2 : String := "ParishNames"
def TX2 : u_T := fun k => match k with
  | 0 => ("ParishNames", "now", "LParishNames$Chronicle;", true)
  | 1 => ("ParishNames", "kept", "[LParishNames$Chronicle;", true)
  | 2 => ("ParishNames", "speller", "LParishNames$Speller;", true)
  | 3 => ("ParishNames", "keptSet", "I", false)
  | _ => ("ParishNames", "pad", "J", false)
def tyX2 : Nat → FieldType := fun k => match k with
  | 0 => .object "ParishNames$Chronicle"
  | 1 => .array (.object "ParishNames$Chronicle")
  | 2 => .object "ParishNames$Speller"
  | 3 => .int
  | _ => .long
abbrev wsX20 : List Cond := u_ws RX2 TX2 5
theorem nmX2 : ∀ a, a < 5 → ∀ b, b < 5 → a ≠ b → (TX2 a).2.1 ≠ (TX2 b).2.1 := by decide +kernel
theorem tyX2_ok : ∀ k, k < 5 → parseFieldDescriptor (TX2 k).2.2.1 = some (tyX2 k) := by decide +kernel
abbrev cX2_init : ByteArray := prog_1_method_1_code
def yX2_init : MethodName := ⟨RX2, "<init>", "()V"⟩
abbrev cX2_say : ByteArray := prog_1_method_2_code
def yX2_say : MethodName := ⟨RX2, "say", "(I)I"⟩
abbrev cX2_wipe : ByteArray := prog_1_method_3_code
def yX2_wipe : MethodName := ⟨RX2, "wipe", "()I"⟩
abbrev cX2_name : ByteArray := prog_1_method_4_code
def yX2_name : MethodName := ⟨RX2, "name", "(II)I"⟩
abbrev cX2_split : ByteArray := prog_1_method_5_code
def yX2_split : MethodName := ⟨RX2, "split", "(III)I"⟩
abbrev cX2_merge : ByteArray := prog_1_method_6_code
def yX2_merge : MethodName := ⟨RX2, "merge", "(III)I"⟩
abbrev cX2_shift : ByteArray := prog_1_method_7_code
def yX2_shift : MethodName := ⟨RX2, "shift", "(IIII)I"⟩
abbrev cX2_undo : ByteArray := prog_1_method_8_code
def yX2_undo : MethodName := ⟨RX2, "undo", "()I"⟩
abbrev cX2_event : ByteArray := prog_1_method_9_code
def yX2_event : MethodName := ⟨RX2, "event", "(II)I"⟩
abbrev cX2_at : ByteArray := prog_1_method_10_code
def yX2_at : MethodName := ⟨RX2, "at", "(II)I"⟩
abbrev cX2_sites : ByteArray := prog_1_method_11_code
def yX2_sites : MethodName := ⟨RX2, "sites", "(II)I"⟩
abbrev cX2_letter : ByteArray := prog_1_method_12_code
def yX2_letter : MethodName := ⟨RX2, "letter", "(III)I"⟩
abbrev cX2_sound : ByteArray := prog_1_method_13_code
def yX2_sound : MethodName := ⟨RX2, "sound", "(III)I"⟩
abbrev cX2_parish : ByteArray := prog_1_method_14_code
def yX2_parish : MethodName := ⟨RX2, "parish", "(II)I"⟩
abbrev cX2_find : ByteArray := prog_1_method_15_code
def yX2_find : MethodName := ⟨RX2, "find", "(IIII)I"⟩
abbrev cX2_called : ByteArray := prog_1_method_16_code
def yX2_called : MethodName := ⟨RX2, "called", "(IIIII)I"⟩
abbrev cX2_off : ByteArray := prog_1_method_17_code
def yX2_off : MethodName := ⟨RX2, "off", "(II)I"⟩
abbrev cX2_span : ByteArray := prog_1_method_18_code
def yX2_span : MethodName := ⟨RX2, "span", "(III)I"⟩
abbrev cX2_heirs : ByteArray := prog_1_method_19_code
def yX2_heirs : MethodName := ⟨RX2, "heirs", "(III)I"⟩
abbrev cX2_image : ByteArray := prog_1_method_20_code
def yX2_image : MethodName := ⟨RX2, "image", "(I)I"⟩
abbrev cX2_restore : ByteArray := prog_1_method_21_code
def yX2_restore : MethodName := ⟨RX2, "restore", "(I)I"⟩
abbrev cX2_count : ByteArray := prog_1_method_22_code
def yX2_count : MethodName := ⟨RX2, "count", "(I)I"⟩
abbrev cX2_isYear : ByteArray := prog_1_method_23_code
def yX2_isYear : MethodName := ⟨RX2, "isYear", "(I)Z"⟩
abbrev cX2_areYears : ByteArray := prog_1_method_24_code
def yX2_areYears : MethodName := ⟨RX2, "areYears", "(II)Z"⟩
abbrev cX2_isSite : ByteArray := prog_1_method_25_code
def yX2_isSite : MethodName := ⟨RX2, "isSite", "(I)Z"⟩
abbrev cX2_isSetOfSites : ByteArray := prog_1_method_26_code
def yX2_isSetOfSites : MethodName := ⟨RX2, "isSetOfSites", "(I)Z"⟩
abbrev cX2_isHow : ByteArray := prog_1_method_27_code
def yX2_isHow : MethodName := ⟨RX2, "isHow", "(I)Z"⟩
abbrev cX2_has : ByteArray := prog_1_method_28_code
def yX2_has : MethodName := ⟨RX2, "has", "(II)Z"⟩
abbrev cX2_isProperPart : ByteArray := prog_1_method_29_code
def yX2_isProperPart : MethodName := ⟨RX2, "isProperPart", "(II)Z"⟩
abbrev cX2_padIsNoName : ByteArray := prog_1_method_30_code
def yX2_padIsNoName : MethodName := ⟨RX2, "padIsNoName", "()Z"⟩
abbrev cX2_takePad : ByteArray := prog_1_method_31_code
def yX2_takePad : MethodName := ⟨RX2, "takePad", "()J"⟩
abbrev cX2_wasCalled : ByteArray := prog_1_method_32_code
def yX2_wasCalled : MethodName := ⟨RX2, "wasCalled", "(IIII)Z"⟩
abbrev cX2_spanFact : ByteArray := prog_1_method_33_code
def yX2_spanFact : MethodName := ⟨RX2, "spanFact", "(IIII)I"⟩
def RX3 : String := "ParishNamesModel"
def TX3 : u_T := fun k => match k with
  | 0 => ("ParishNamesModel", "state", "[I", true)
  | 1 => ("ParishNamesModel", "images", "[I", true)
  | 2 => ("ParishNamesModel", "isKept", "[Z", true)
  | 3 => ("ParishNamesModel", "pad", "[I", true)
  | 4 => ("ParishNamesModel", "said", "I", false)
  | 5 => ("ParishNamesModel", "owner", "[I", true)
  | 6 => ("ParishNamesModel", "namedBy", "[I", true)
  | 7 => ("ParishNamesModel", "first", "[I", true)
  | 8 => ("ParishNamesModel", "firstLong", "I", false)
  | 9 => ("ParishNamesModel", "second", "[I", true)
  | 10 => ("ParishNamesModel", "secondLong", "I", false)
  | 11 => ("ParishNamesModel", "firstSound", "[I", true)
  | 12 => ("ParishNamesModel", "firstClasses", "I", false)
  | 13 => ("ParishNamesModel", "secondSound", "[I", true)
  | 14 => ("ParishNamesModel", "secondClasses", "I", false)
  | _ => ("ParishNamesModel", "costs", "[I", true)
def tyX3 : Nat → FieldType := fun k => match k with
  | 0 => .array .int
  | 1 => .array .int
  | 2 => .array .boolean
  | 3 => .array .int
  | 4 => .int
  | 5 => .array .int
  | 6 => .array .int
  | 7 => .array .int
  | 8 => .int
  | 9 => .array .int
  | 10 => .int
  | 11 => .array .int
  | 12 => .int
  | 13 => .array .int
  | 14 => .int
  | _ => .array .int
abbrev wsX30 : List Cond := u_ws RX3 TX3 16
theorem nmX3 : ∀ a, a < 16 → ∀ b, b < 16 → a ≠ b → (TX3 a).2.1 ≠ (TX3 b).2.1 := by decide +kernel
theorem tyX3_ok : ∀ k, k < 16 → parseFieldDescriptor (TX3 k).2.2.1 = some (tyX3 k) := by decide +kernel
abbrev cX3_init : ByteArray := prog_5_method_1_code
def yX3_init : MethodName := ⟨RX3, "<init>", "()V"⟩
abbrev cX3_in : ByteArray := prog_5_method_2_code
def yX3_in : MethodName := ⟨RX3, "in", "(III)Z"⟩
abbrev cX3_isParish : ByteArray := prog_5_method_3_code
def yX3_isParish : MethodName := ⟨RX3, "isParish", "(I)Z"⟩
abbrev cX3_isSite : ByteArray := prog_5_method_4_code
def yX3_isSite : MethodName := ⟨RX3, "isSite", "(I)Z"⟩
abbrev cX3_isYear : ByteArray := prog_5_method_5_code
def yX3_isYear : MethodName := ⟨RX3, "isYear", "(I)Z"⟩
abbrev cX3_bits : ByteArray := prog_5_method_6_code
def yX3_bits : MethodName := ⟨RX3, "bits", "(I)I"⟩
abbrev cX3_say : ByteArray := prog_5_method_7_code
def yX3_say : MethodName := ⟨RX3, "say", "(I)I"⟩
abbrev cX3_wipe : ByteArray := prog_5_method_8_code
def yX3_wipe : MethodName := ⟨RX3, "wipe", "()I"⟩
abbrev cX3_goThrough : ByteArray := prog_5_method_9_code
def yX3_goThrough : MethodName := ⟨RX3, "goThrough", "(I)V"⟩
abbrev cX3_goTo : ByteArray := prog_5_method_10_code
def yX3_goTo : MethodName := ⟨RX3, "goTo", "(I)V"⟩
abbrev cX3_goToEnd : ByteArray := prog_5_method_11_code
def yX3_goToEnd : MethodName := ⟨RX3, "goToEnd", "()V"⟩
abbrev cX3_sitesOf : ByteArray := prog_5_method_12_code
def yX3_sitesOf : MethodName := ⟨RX3, "sitesOf", "(I)I"⟩
abbrev cX3_lettersOf : ByteArray := prog_5_method_13_code
def yX3_lettersOf : MethodName := ⟨RX3, "lettersOf", "(I)I"⟩
abbrev cX3_letterOf : ByteArray := prog_5_method_14_code
def yX3_letterOf : MethodName := ⟨RX3, "letterOf", "(II)I"⟩
abbrev cX3_lastYear : ByteArray := prog_5_method_15_code
def yX3_lastYear : MethodName := ⟨RX3, "lastYear", "()I"⟩
abbrev cX3_add : ByteArray := prog_5_method_16_code
def yX3_add : MethodName := ⟨RX3, "add", "(IIIII)V"⟩
abbrev cX3_takeName : ByteArray := prog_5_method_17_code
def yX3_takeName : MethodName := ⟨RX3, "takeName", "(I)V"⟩
abbrev cX3_name : ByteArray := prog_5_method_18_code
def yX3_name : MethodName := ⟨RX3, "name", "(II)I"⟩
abbrev cX3_isSome : ByteArray := prog_5_method_19_code
def yX3_isSome : MethodName := ⟨RX3, "isSome", "(II)Z"⟩
abbrev cX3_split : ByteArray := prog_5_method_20_code
def yX3_split : MethodName := ⟨RX3, "split", "(III)I"⟩
abbrev cX3_merge : ByteArray := prog_5_method_21_code
def yX3_merge : MethodName := ⟨RX3, "merge", "(III)I"⟩
abbrev cX3_shift : ByteArray := prog_5_method_22_code
def yX3_shift : MethodName := ⟨RX3, "shift", "(IIII)I"⟩
abbrev cX3_undo : ByteArray := prog_5_method_23_code
def yX3_undo : MethodName := ⟨RX3, "undo", "()I"⟩
abbrev cX3_event : ByteArray := prog_5_method_24_code
def yX3_event : MethodName := ⟨RX3, "event", "(II)I"⟩
abbrev cX3_at : ByteArray := prog_5_method_25_code
def yX3_at : MethodName := ⟨RX3, "at", "(II)I"⟩
abbrev cX3_sites : ByteArray := prog_5_method_26_code
def yX3_sites : MethodName := ⟨RX3, "sites", "(II)I"⟩
abbrev cX3_letter : ByteArray := prog_5_method_27_code
def yX3_letter : MethodName := ⟨RX3, "letter", "(III)I"⟩
abbrev cX3_classOf : ByteArray := prog_5_method_28_code
def yX3_classOf : MethodName := ⟨RX3, "classOf", "(I)I"⟩
abbrev cX3_laySound : ByteArray := prog_5_method_29_code
def yX3_laySound : MethodName := ⟨RX3, "laySound", "([II[I)I"⟩
abbrev cX3_layFirst : ByteArray := prog_5_method_30_code
def yX3_layFirst : MethodName := ⟨RX3, "layFirst", "(I)V"⟩
abbrev cX3_layPad : ByteArray := prog_5_method_31_code
def yX3_layPad : MethodName := ⟨RX3, "layPad", "()V"⟩
abbrev cX3_areSame : ByteArray := prog_5_method_32_code
def yX3_areSame : MethodName := ⟨RX3, "areSame", "()Z"⟩
abbrev cX3_soundSame : ByteArray := prog_5_method_33_code
def yX3_soundSame : MethodName := ⟨RX3, "soundSame", "()Z"⟩
abbrev cX3_least : ByteArray := prog_5_method_34_code
def yX3_least : MethodName := ⟨RX3, "least", "(III)I"⟩
abbrev cX3_offNow : ByteArray := prog_5_method_35_code
def yX3_offNow : MethodName := ⟨RX3, "offNow", "()I"⟩
abbrev cX3_isLike : ByteArray := prog_5_method_36_code
def yX3_isLike : MethodName := ⟨RX3, "isLike", "(II)Z"⟩
abbrev cX3_sound : ByteArray := prog_5_method_37_code
def yX3_sound : MethodName := ⟨RX3, "sound", "(III)I"⟩
abbrev cX3_toldOf : ByteArray := prog_5_method_38_code
def yX3_toldOf : MethodName := ⟨RX3, "toldOf", "(I)I"⟩
abbrev cX3_parish : ByteArray := prog_5_method_39_code
def yX3_parish : MethodName := ⟨RX3, "parish", "(II)I"⟩
abbrev cX3_areYears : ByteArray := prog_5_method_40_code
def yX3_areYears : MethodName := ⟨RX3, "areYears", "(II)Z"⟩
abbrev cX3_find : ByteArray := prog_5_method_41_code
def yX3_find : MethodName := ⟨RX3, "find", "(IIII)I"⟩
abbrev cX3_called : ByteArray := prog_5_method_42_code
def yX3_called : MethodName := ⟨RX3, "called", "(IIIII)I"⟩
abbrev cX3_off : ByteArray := prog_5_method_43_code
def yX3_off : MethodName := ⟨RX3, "off", "(II)I"⟩
abbrev cX3_keepFirst : ByteArray := prog_5_method_44_code
def yX3_keepFirst : MethodName := ⟨RX3, "keepFirst", "()V"⟩
abbrev cX3_span : ByteArray := prog_5_method_45_code
def yX3_span : MethodName := ⟨RX3, "span", "(III)I"⟩
abbrev cX3_heirs : ByteArray := prog_5_method_46_code
def yX3_heirs : MethodName := ⟨RX3, "heirs", "(III)I"⟩
abbrev cX3_image : ByteArray := prog_5_method_47_code
def yX3_image : MethodName := ⟨RX3, "image", "(I)I"⟩
abbrev cX3_restore : ByteArray := prog_5_method_48_code
def yX3_restore : MethodName := ⟨RX3, "restore", "(I)I"⟩
abbrev cX3_thereNow : ByteArray := prog_5_method_49_code
def yX3_thereNow : MethodName := ⟨RX3, "thereNow", "()I"⟩
abbrev cX3_namesNow : ByteArray := prog_5_method_50_code
def yX3_namesNow : MethodName := ⟨RX3, "namesNow", "()I"⟩
abbrev cX3_ofKind : ByteArray := prog_5_method_51_code
def yX3_ofKind : MethodName := ⟨RX3, "ofKind", "(I)I"⟩
abbrev cX3_count : ByteArray := prog_5_method_52_code
def yX3_count : MethodName := ⟨RX3, "count", "(I)I"⟩
def RJ6 : String := "java/lang/Integer"
def TJ6 : u_T := fun k => match k with
  | _ => ("", "", "", false)
def tyJ6 : Nat → FieldType := fun k => match k with
  | _ => .int
abbrev wsJ60 : List Cond := u_ws RJ6 TJ6 0
theorem nmJ6 : ∀ a, a < 0 → ∀ b, b < 0 → a ≠ b → (TJ6 a).2.1 ≠ (TJ6 b).2.1 := by decide +kernel
theorem tyJ6_ok : ∀ k, k < 0 → parseFieldDescriptor (TJ6 k).2.2.1 = some (tyJ6 k) := by decide +kernel
abbrev cJ6_bitCount_0f7a4 : ByteArray := prog_6_method_49_code
def yJ6_bitCount_0f7a4 : MethodName := ⟨RJ6, "bitCount", "(I)I"⟩
def RJ9 : String := "java/lang/Math"
def TJ9 : u_T := fun k => match k with
  | _ => ("", "", "", false)
def tyJ9 : Nat → FieldType := fun k => match k with
  | _ => .int
abbrev wsJ90 : List Cond := u_ws RJ9 TJ9 0
theorem nmJ9 : ∀ a, a < 0 → ∀ b, b < 0 → a ≠ b → (TJ9 a).2.1 ≠ (TJ9 b).2.1 := by decide +kernel
theorem tyJ9_ok : ∀ k, k < 0 → parseFieldDescriptor (TJ9 k).2.2.1 = some (tyJ9 k) := by decide +kernel
abbrev cJ9_max_7cf53 : ByteArray := prog_7_method_65_code
def yJ9_max_7cf53 : MethodName := ⟨RJ9, "max", "(II)I"⟩
abbrev cJ9_min_7cf53 : ByteArray := prog_7_method_69_code
def yJ9_min_7cf53 : MethodName := ⟨RJ9, "min", "(II)I"⟩
def RJ10 : String := "java/lang/System"
def TJ10 : u_T := fun k => match k with
  | _ => ("", "", "", false)
def tyJ10 : Nat → FieldType := fun k => match k with
  | _ => .int
abbrev wsJ100 : List Cond := u_ws RJ10 TJ10 0
theorem nmJ10 : ∀ a, a < 0 → ∀ b, b < 0 → a ≠ b → (TJ10 a).2.1 ≠ (TJ10 b).2.1 := by decide +kernel
theorem tyJ10_ok : ∀ k, k < 0 → parseFieldDescriptor (TJ10 k).2.2.1 = some (tyJ10 k) := by decide +kernel
def RL : String := "ParishNamesLaw"
abbrev cL_law : ByteArray := code
def yL_law : MethodName := ⟨RL, "law", "([I)Z"⟩
def wsX0_init : List Cond := .code yX0_init cX0_init 1 none :: ([.methodLink RX0 3 objectInit, .instanceMethod objectInit, .code objectInit ⟨#[0xb1]⟩ 1 none, .arrayClass .int, .fieldLink RX0 9 "ParishNames$Chronicle" "kinds" "[I", .fieldLink RX0 15 "ParishNames$Chronicle" "years" "[I", .fieldLink RX0 18 "ParishNames$Chronicle" "parishes" "[I", .fieldLink RX0 21 "ParishNames$Chronicle" "sets" "[I", .fieldLink RX0 24 "ParishNames$Chronicle" "owners" "[I", .arrayClass .long, .fieldLink RX0 27 "ParishNames$Chronicle" "names" "[J", .fieldLink RX0 31 "ParishNames$Chronicle" "told" "I", .fieldLink RX0 35 "ParishNames$Chronicle" "founded" "I"] ++ wsX00)
def wsX0_eventCount : List Cond := .code yX0_eventCount cX0_eventCount 1 (some .int) :: ([.fieldLink RX0 31 "ParishNames$Chronicle" "told" "I"] ++ wsX00)
def wsX0_lastEvent : List Cond := .code yX0_lastEvent cX0_lastEvent 1 (some .int) :: ([.fieldLink RX0 31 "ParishNames$Chronicle" "told" "I"] ++ wsX00)
def wsX0_parishCount : List Cond := .code yX0_parishCount cX0_parishCount 1 (some .int) :: ([.fieldLink RX0 35 "ParishNames$Chronicle" "founded" "I"] ++ wsX00)
def wsX0_isFull : List Cond := .code yX0_isFull cX0_isFull 1 (some .boolean) :: ([.fieldLink RX0 31 "ParishNames$Chronicle" "told" "I"] ++ wsX00)
def wsX0_knows : List Cond := .code yX0_knows cX0_knows 2 (some .boolean) :: ([.fieldLink RX0 35 "ParishNames$Chronicle" "founded" "I"] ++ wsX00)
def wsX0_yearOfLast : List Cond := .code yX0_yearOfLast cX0_yearOfLast 1 (some .int) :: ([.fieldLink RX0 31 "ParishNames$Chronicle" "told" "I", .fieldLink RX0 15 "ParishNames$Chronicle" "years" "[I"] ++ wsX00)
def wsX0_tell : List Cond := .code yX0_tell cX0_tell 8 none :: ([.fieldLink RX0 9 "ParishNames$Chronicle" "kinds" "[I", .fieldLink RX0 31 "ParishNames$Chronicle" "told" "I", .fieldLink RX0 15 "ParishNames$Chronicle" "years" "[I", .fieldLink RX0 18 "ParishNames$Chronicle" "parishes" "[I", .fieldLink RX0 21 "ParishNames$Chronicle" "sets" "[I", .fieldLink RX0 24 "ParishNames$Chronicle" "owners" "[I", .fieldLink RX0 27 "ParishNames$Chronicle" "names" "[J", .fieldLink RX0 35 "ParishNames$Chronicle" "founded" "I", .methodLink RX0 38 yX0_isFull, .instanceMethod yX0_isFull, .selects RX0 yX0_isFull yX0_isFull, .initialized RX0, .code yX0_isFull cX0_isFull 1 (some .boolean)] ++ wsX00)
def wsX0_forgetLast : List Cond := .code yX0_forgetLast cX0_forgetLast 1 none :: ([.fieldLink RX0 31 "ParishNames$Chronicle" "told" "I", .fieldLink RX0 9 "ParishNames$Chronicle" "kinds" "[I", .fieldLink RX0 35 "ParishNames$Chronicle" "founded" "I"] ++ wsX00)
def wsX0_becomeLike : List Cond := .code yX0_becomeLike cX0_becomeLike 2 none :: ([.fieldLink RX0 9 "ParishNames$Chronicle" "kinds" "[I", .methodLink RX0 42 arraycopyName, .native arraycopyName, .static arraycopyName, .initialized "java/lang/System", .fieldLink RX0 15 "ParishNames$Chronicle" "years" "[I", .fieldLink RX0 18 "ParishNames$Chronicle" "parishes" "[I", .fieldLink RX0 21 "ParishNames$Chronicle" "sets" "[I", .fieldLink RX0 24 "ParishNames$Chronicle" "owners" "[I", .fieldLink RX0 27 "ParishNames$Chronicle" "names" "[J", .fieldLink RX0 31 "ParishNames$Chronicle" "told" "I", .fieldLink RX0 35 "ParishNames$Chronicle" "founded" "I"] ++ wsX00)
def wsX0_factOf : List Cond := .code yX0_factOf cX0_factOf 3 (some .int) :: ([.fieldLink RX0 31 "ParishNames$Chronicle" "told" "I", .fieldLink RX0 9 "ParishNames$Chronicle" "kinds" "[I", .fieldLink RX0 15 "ParishNames$Chronicle" "years" "[I", .fieldLink RX0 18 "ParishNames$Chronicle" "parishes" "[I", .fieldLink RX0 21 "ParishNames$Chronicle" "sets" "[I", .fieldLink RX0 24 "ParishNames$Chronicle" "owners" "[I"] ++ wsX00)
def wsX0_firstYear : List Cond := .code yX0_firstYear cX0_firstYear 2 (some .int) :: ([.fieldLink RX0 31 "ParishNames$Chronicle" "told" "I", .fieldLink RX0 15 "ParishNames$Chronicle" "years" "[I"] ++ wsX00)
def wsX0_lastYear : List Cond := .code yX0_lastYear cX0_lastYear 2 (some .int) :: ([.fieldLink RX0 31 "ParishNames$Chronicle" "told" "I", .fieldLink RX0 15 "ParishNames$Chronicle" "years" "[I"] ++ wsX00)
def wsX0_holdsInAYear : List Cond := .code yX0_holdsInAYear cX0_holdsInAYear 2 (some .boolean) :: ([.methodLink RX0 48 yX0_firstYear, .instanceMethod yX0_firstYear, .selects RX0 yX0_firstYear yX0_firstYear, .initialized RX0, .code yX0_firstYear cX0_firstYear 2 (some .int), .fieldLink RX0 31 "ParishNames$Chronicle" "told" "I", .fieldLink RX0 15 "ParishNames$Chronicle" "years" "[I", .methodLink RX0 52 yX0_lastYear, .instanceMethod yX0_lastYear, .selects RX0 yX0_lastYear yX0_lastYear, .code yX0_lastYear cX0_lastYear 2 (some .int)] ++ wsX00)
def wsX0_stageIn : List Cond := .code yX0_stageIn cX0_stageIn 3 (some .int) :: ([.fieldLink RX0 31 "ParishNames$Chronicle" "told" "I", .fieldLink RX0 15 "ParishNames$Chronicle" "years" "[I"] ++ wsX00)
def wsX0_sitesAtFirst : List Cond := .code yX0_sitesAtFirst cX0_sitesAtFirst 1 (some .int) :: ([])
def wsX1_withLetter : List Cond := .code yX1_withLetter cX1_withLetter 4 (some .long) :: ([])
def wsX0_nameAtFirst : List Cond := .code yX0_nameAtFirst cX0_nameAtFirst 1 (some .long) :: ([.methodLink RX0 55 yX1_withLetter, .static yX1_withLetter, .initialized RX1, .code yX1_withLetter cX1_withLetter 4 (some .long)])
def wsX0_sitesThrough : List Cond := .code yX0_sitesThrough cX0_sitesThrough 4 (some .int) :: ([.fieldLink RX0 31 "ParishNames$Chronicle" "told" "I", .fieldLink RX0 18 "ParishNames$Chronicle" "parishes" "[I", .fieldLink RX0 21 "ParishNames$Chronicle" "sets" "[I", .fieldLink RX0 24 "ParishNames$Chronicle" "owners" "[I"] ++ wsX00)
def wsX0_nameThrough : List Cond := .code yX0_nameThrough cX0_nameThrough 5 (some .long) :: ([.fieldLink RX0 31 "ParishNames$Chronicle" "told" "I", .fieldLink RX0 9 "ParishNames$Chronicle" "kinds" "[I", .fieldLink RX0 18 "ParishNames$Chronicle" "parishes" "[I", .fieldLink RX0 27 "ParishNames$Chronicle" "names" "[J", .fieldLink RX0 24 "ParishNames$Chronicle" "owners" "[I"] ++ wsX00)
def wsX0_sitesBehind : List Cond := .code yX0_sitesBehind cX0_sitesBehind 5 (some .int) :: ([.fieldLink RX0 31 "ParishNames$Chronicle" "told" "I", .methodLink RX0 61 yX0_sitesAtFirst, .static yX0_sitesAtFirst, .initialized RX0, .code yX0_sitesAtFirst cX0_sitesAtFirst 1 (some .int), .methodLink RX0 64 yX0_sitesThrough, .instanceMethod yX0_sitesThrough, .selects RX0 yX0_sitesThrough yX0_sitesThrough, .code yX0_sitesThrough cX0_sitesThrough 4 (some .int), .fieldLink RX0 18 "ParishNames$Chronicle" "parishes" "[I", .fieldLink RX0 21 "ParishNames$Chronicle" "sets" "[I", .fieldLink RX0 24 "ParishNames$Chronicle" "owners" "[I"] ++ wsX00)
def wsX0_nameBehind : List Cond := .code yX0_nameBehind cX0_nameBehind 6 (some .long) :: ([.fieldLink RX0 31 "ParishNames$Chronicle" "told" "I", .methodLink RX0 68 yX0_nameAtFirst, .static yX0_nameAtFirst, .initialized RX0, .code yX0_nameAtFirst cX0_nameAtFirst 1 (some .long), .methodLink RX0 55 yX1_withLetter, .static yX1_withLetter, .initialized RX1, .code yX1_withLetter cX1_withLetter 4 (some .long), .methodLink RX0 72 yX0_nameThrough, .instanceMethod yX0_nameThrough, .selects RX0 yX0_nameThrough yX0_nameThrough, .code yX0_nameThrough cX0_nameThrough 5 (some .long), .fieldLink RX0 9 "ParishNames$Chronicle" "kinds" "[I", .fieldLink RX0 18 "ParishNames$Chronicle" "parishes" "[I", .fieldLink RX0 27 "ParishNames$Chronicle" "names" "[J", .fieldLink RX0 24 "ParishNames$Chronicle" "owners" "[I"] ++ wsX00)
def wsX2_has : List Cond := .code yX2_has cX2_has 2 (some .boolean) :: ([])
def wsX0_ownerBehind : List Cond := .code yX0_ownerBehind cX0_ownerBehind 5 (some .int) :: ([.fieldLink RX0 31 "ParishNames$Chronicle" "told" "I", .fieldLink RX0 21 "ParishNames$Chronicle" "sets" "[I", .fieldLink RX0 24 "ParishNames$Chronicle" "owners" "[I", .static yX2_has, .initialized RX2, .code yX2_has cX2_has 2 (some .boolean)] ++ wsX00)
def wsX0_sitesNow : List Cond := .code yX0_sitesNow cX0_sitesNow 2 (some .int) :: ([.fieldLink RX0 31 "ParishNames$Chronicle" "told" "I", .methodLink RX0 80 yX0_sitesBehind, .instanceMethod yX0_sitesBehind, .selects RX0 yX0_sitesBehind yX0_sitesBehind, .initialized RX0, .code yX0_sitesBehind cX0_sitesBehind 5 (some .int), .methodLink RX0 61 yX0_sitesAtFirst, .static yX0_sitesAtFirst, .code yX0_sitesAtFirst cX0_sitesAtFirst 1 (some .int), .methodLink RX0 64 yX0_sitesThrough, .instanceMethod yX0_sitesThrough, .selects RX0 yX0_sitesThrough yX0_sitesThrough, .code yX0_sitesThrough cX0_sitesThrough 4 (some .int), .fieldLink RX0 18 "ParishNames$Chronicle" "parishes" "[I", .fieldLink RX0 21 "ParishNames$Chronicle" "sets" "[I", .fieldLink RX0 24 "ParishNames$Chronicle" "owners" "[I"] ++ wsX00)
def wsX0_nameIn_r1 : List Cond := [Cond.methodLink RX0 84 yX0_stageIn, Cond.instanceMethod yX0_stageIn, Cond.selects RX0 yX0_stageIn yX0_stageIn, Cond.initialized RX0, Cond.code yX0_stageIn cX0_stageIn 3 (some .int), Cond.fieldLink RX0 31 "ParishNames$Chronicle" "told" "I", Cond.fieldLink RX0 15 "ParishNames$Chronicle" "years" "[I", Cond.methodLink RX0 80 yX0_sitesBehind, Cond.instanceMethod yX0_sitesBehind, Cond.selects RX0 yX0_sitesBehind yX0_sitesBehind, Cond.code yX0_sitesBehind cX0_sitesBehind 5 (some .int), Cond.methodLink RX0 61 yX0_sitesAtFirst, Cond.static yX0_sitesAtFirst, Cond.code yX0_sitesAtFirst cX0_sitesAtFirst 1 (some .int), Cond.methodLink RX0 64 yX0_sitesThrough, Cond.instanceMethod yX0_sitesThrough, Cond.selects RX0 yX0_sitesThrough yX0_sitesThrough, Cond.code yX0_sitesThrough cX0_sitesThrough 4 (some .int), Cond.fieldLink RX0 18 "ParishNames$Chronicle" "parishes" "[I", Cond.fieldLink RX0 21 "ParishNames$Chronicle" "sets" "[I", Cond.fieldLink RX0 24 "ParishNames$Chronicle" "owners" "[I", Cond.methodLink RX0 87 yX0_nameBehind, Cond.instanceMethod yX0_nameBehind, Cond.selects RX0 yX0_nameBehind yX0_nameBehind]
def wsX0_nameIn_r2 : List Cond := [Cond.code yX0_nameBehind cX0_nameBehind 6 (some .long), Cond.methodLink RX0 68 yX0_nameAtFirst, Cond.static yX0_nameAtFirst, Cond.code yX0_nameAtFirst cX0_nameAtFirst 1 (some .long), Cond.methodLink RX0 55 yX1_withLetter, Cond.static yX1_withLetter, Cond.initialized RX1, Cond.code yX1_withLetter cX1_withLetter 4 (some .long), Cond.methodLink RX0 72 yX0_nameThrough, Cond.instanceMethod yX0_nameThrough, Cond.selects RX0 yX0_nameThrough yX0_nameThrough, Cond.code yX0_nameThrough cX0_nameThrough 5 (some .long), Cond.fieldLink RX0 9 "ParishNames$Chronicle" "kinds" "[I", Cond.fieldLink RX0 27 "ParishNames$Chronicle" "names" "[J"]
def wsX0_nameIn : List Cond := .code yX0_nameIn cX0_nameIn 4 (some .long) :: ((wsX0_nameIn_r1 ++ wsX0_nameIn_r2) ++ wsX00)
def wsX0_nameAt_r1 : List Cond := [Cond.methodLink RX0 91 yX0_ownerBehind, Cond.instanceMethod yX0_ownerBehind, Cond.selects RX0 yX0_ownerBehind yX0_ownerBehind, Cond.initialized RX0, Cond.code yX0_ownerBehind cX0_ownerBehind 5 (some .int), Cond.fieldLink RX0 31 "ParishNames$Chronicle" "told" "I", Cond.fieldLink RX0 21 "ParishNames$Chronicle" "sets" "[I", Cond.fieldLink RX0 24 "ParishNames$Chronicle" "owners" "[I", Cond.static yX2_has, Cond.initialized RX2, Cond.code yX2_has cX2_has 2 (some .boolean), Cond.methodLink RX0 87 yX0_nameBehind, Cond.instanceMethod yX0_nameBehind, Cond.selects RX0 yX0_nameBehind yX0_nameBehind, Cond.code yX0_nameBehind cX0_nameBehind 6 (some .long), Cond.methodLink RX0 68 yX0_nameAtFirst, Cond.static yX0_nameAtFirst, Cond.code yX0_nameAtFirst cX0_nameAtFirst 1 (some .long), Cond.methodLink RX0 55 yX1_withLetter, Cond.static yX1_withLetter, Cond.initialized RX1, Cond.code yX1_withLetter cX1_withLetter 4 (some .long), Cond.methodLink RX0 72 yX0_nameThrough, Cond.instanceMethod yX0_nameThrough]
def wsX0_nameAt_r2 : List Cond := [Cond.selects RX0 yX0_nameThrough yX0_nameThrough, Cond.code yX0_nameThrough cX0_nameThrough 5 (some .long), Cond.fieldLink RX0 9 "ParishNames$Chronicle" "kinds" "[I", Cond.fieldLink RX0 18 "ParishNames$Chronicle" "parishes" "[I", Cond.fieldLink RX0 27 "ParishNames$Chronicle" "names" "[J"]
def wsX0_nameAt : List Cond := .code yX0_nameAt cX0_nameAt 3 (some .long) :: ((wsX0_nameAt_r1 ++ wsX0_nameAt_r2) ++ wsX00)
def wsX0_eventsOf : List Cond := .code yX0_eventsOf cX0_eventsOf 4 (some .int) :: ([.fieldLink RX0 31 "ParishNames$Chronicle" "told" "I", .fieldLink RX0 18 "ParishNames$Chronicle" "parishes" "[I", .fieldLink RX0 24 "ParishNames$Chronicle" "owners" "[I"] ++ wsX00)
def wsX0_eventsOfKind : List Cond := .code yX0_eventsOfKind cX0_eventsOfKind 4 (some .int) :: ([.fieldLink RX0 31 "ParishNames$Chronicle" "told" "I", .fieldLink RX0 9 "ParishNames$Chronicle" "kinds" "[I"] ++ wsX00)
def wsJ6_bitCount_0f7a4 : List Cond := .code yJ6_bitCount_0f7a4 cJ6_bitCount_0f7a4 1 (some .int) :: ([.constant RJ6 265 (1431655765), .constant RJ6 266 (858993459), .constant RJ6 267 (252645135)])
def wsX0_lifeOf_r1 : List Cond := [Cond.fieldLink RX0 31 "ParishNames$Chronicle" "told" "I", Cond.methodLink RX0 61 yX0_sitesAtFirst, Cond.static yX0_sitesAtFirst, Cond.initialized RX0, Cond.code yX0_sitesAtFirst cX0_sitesAtFirst 1 (some .int), Cond.methodLink RX0 64 yX0_sitesThrough, Cond.instanceMethod yX0_sitesThrough, Cond.selects RX0 yX0_sitesThrough yX0_sitesThrough, Cond.code yX0_sitesThrough cX0_sitesThrough 4 (some .int), Cond.fieldLink RX0 18 "ParishNames$Chronicle" "parishes" "[I", Cond.fieldLink RX0 21 "ParishNames$Chronicle" "sets" "[I", Cond.fieldLink RX0 24 "ParishNames$Chronicle" "owners" "[I", Cond.methodLink RX0 94 yX0_holdsInAYear, Cond.instanceMethod yX0_holdsInAYear, Cond.selects RX0 yX0_holdsInAYear yX0_holdsInAYear, Cond.code yX0_holdsInAYear cX0_holdsInAYear 2 (some .boolean), Cond.methodLink RX0 48 yX0_firstYear, Cond.instanceMethod yX0_firstYear, Cond.selects RX0 yX0_firstYear yX0_firstYear, Cond.code yX0_firstYear cX0_firstYear 2 (some .int), Cond.fieldLink RX0 15 "ParishNames$Chronicle" "years" "[I", Cond.methodLink RX0 52 yX0_lastYear, Cond.instanceMethod yX0_lastYear, Cond.selects RX0 yX0_lastYear yX0_lastYear]
def wsX0_lifeOf_r2 : List Cond := [Cond.code yX0_lastYear cX0_lastYear 2 (some .int), Cond.methodLink RX0 98 yJ6_bitCount_0f7a4, Cond.static yJ6_bitCount_0f7a4, Cond.initialized RJ6, Cond.code yJ6_bitCount_0f7a4 cJ6_bitCount_0f7a4 1 (some .int), Cond.constant RJ6 265 (1431655765), Cond.constant RJ6 266 (858993459), Cond.constant RJ6 267 (252645135)]
def wsX0_lifeOf : List Cond := .code yX0_lifeOf cX0_lifeOf 9 (some .int) :: ((wsX0_lifeOf_r1 ++ wsX0_lifeOf_r2) ++ wsX00)
def wsX0_nextSpan_r1 : List Cond := [Cond.fieldLink RX0 31 "ParishNames$Chronicle" "told" "I", Cond.methodLink RX0 91 yX0_ownerBehind, Cond.instanceMethod yX0_ownerBehind, Cond.selects RX0 yX0_ownerBehind yX0_ownerBehind, Cond.initialized RX0, Cond.code yX0_ownerBehind cX0_ownerBehind 5 (some .int), Cond.fieldLink RX0 21 "ParishNames$Chronicle" "sets" "[I", Cond.fieldLink RX0 24 "ParishNames$Chronicle" "owners" "[I", Cond.static yX2_has, Cond.initialized RX2, Cond.code yX2_has cX2_has 2 (some .boolean), Cond.methodLink RX0 87 yX0_nameBehind, Cond.instanceMethod yX0_nameBehind, Cond.selects RX0 yX0_nameBehind yX0_nameBehind, Cond.code yX0_nameBehind cX0_nameBehind 6 (some .long), Cond.methodLink RX0 68 yX0_nameAtFirst, Cond.static yX0_nameAtFirst, Cond.code yX0_nameAtFirst cX0_nameAtFirst 1 (some .long), Cond.methodLink RX0 55 yX1_withLetter, Cond.static yX1_withLetter, Cond.initialized RX1, Cond.code yX1_withLetter cX1_withLetter 4 (some .long), Cond.methodLink RX0 72 yX0_nameThrough, Cond.instanceMethod yX0_nameThrough]
def wsX0_nextSpan_r2 : List Cond := [Cond.selects RX0 yX0_nameThrough yX0_nameThrough, Cond.code yX0_nameThrough cX0_nameThrough 5 (some .long), Cond.fieldLink RX0 9 "ParishNames$Chronicle" "kinds" "[I", Cond.fieldLink RX0 18 "ParishNames$Chronicle" "parishes" "[I", Cond.fieldLink RX0 27 "ParishNames$Chronicle" "names" "[J", Cond.methodLink RX0 94 yX0_holdsInAYear, Cond.instanceMethod yX0_holdsInAYear, Cond.selects RX0 yX0_holdsInAYear yX0_holdsInAYear, Cond.code yX0_holdsInAYear cX0_holdsInAYear 2 (some .boolean), Cond.methodLink RX0 48 yX0_firstYear, Cond.instanceMethod yX0_firstYear, Cond.selects RX0 yX0_firstYear yX0_firstYear, Cond.code yX0_firstYear cX0_firstYear 2 (some .int), Cond.fieldLink RX0 15 "ParishNames$Chronicle" "years" "[I", Cond.methodLink RX0 52 yX0_lastYear, Cond.instanceMethod yX0_lastYear, Cond.selects RX0 yX0_lastYear yX0_lastYear, Cond.code yX0_lastYear cX0_lastYear 2 (some .int)]
def wsX0_nextSpan : List Cond := .code yX0_nextSpan cX0_nextSpan 8 (some .int) :: ((wsX0_nextSpan_r1 ++ wsX0_nextSpan_r2) ++ wsX00)
def wsX0_parishesNow : List Cond := .code yX0_parishesNow cX0_parishesNow 3 (some .int) :: ([.fieldLink RX0 35 "ParishNames$Chronicle" "founded" "I", .methodLink RX0 103 yX0_sitesNow, .instanceMethod yX0_sitesNow, .selects RX0 yX0_sitesNow yX0_sitesNow, .initialized RX0, .code yX0_sitesNow cX0_sitesNow 2 (some .int), .fieldLink RX0 31 "ParishNames$Chronicle" "told" "I", .methodLink RX0 80 yX0_sitesBehind, .instanceMethod yX0_sitesBehind, .selects RX0 yX0_sitesBehind yX0_sitesBehind, .code yX0_sitesBehind cX0_sitesBehind 5 (some .int), .methodLink RX0 61 yX0_sitesAtFirst, .static yX0_sitesAtFirst, .code yX0_sitesAtFirst cX0_sitesAtFirst 1 (some .int), .methodLink RX0 64 yX0_sitesThrough, .instanceMethod yX0_sitesThrough, .selects RX0 yX0_sitesThrough yX0_sitesThrough, .code yX0_sitesThrough cX0_sitesThrough 4 (some .int), .fieldLink RX0 18 "ParishNames$Chronicle" "parishes" "[I", .fieldLink RX0 21 "ParishNames$Chronicle" "sets" "[I", .fieldLink RX0 24 "ParishNames$Chronicle" "owners" "[I"] ++ wsX00)
def wsX0_isNameOfLesser_r1 : List Cond := [Cond.fieldLink RX0 31 "ParishNames$Chronicle" "told" "I", Cond.methodLink RX0 87 yX0_nameBehind, Cond.instanceMethod yX0_nameBehind, Cond.selects RX0 yX0_nameBehind yX0_nameBehind, Cond.initialized RX0, Cond.code yX0_nameBehind cX0_nameBehind 6 (some .long), Cond.methodLink RX0 68 yX0_nameAtFirst, Cond.static yX0_nameAtFirst, Cond.code yX0_nameAtFirst cX0_nameAtFirst 1 (some .long), Cond.methodLink RX0 55 yX1_withLetter, Cond.static yX1_withLetter, Cond.initialized RX1, Cond.code yX1_withLetter cX1_withLetter 4 (some .long), Cond.methodLink RX0 72 yX0_nameThrough, Cond.instanceMethod yX0_nameThrough, Cond.selects RX0 yX0_nameThrough yX0_nameThrough, Cond.code yX0_nameThrough cX0_nameThrough 5 (some .long), Cond.fieldLink RX0 9 "ParishNames$Chronicle" "kinds" "[I", Cond.fieldLink RX0 18 "ParishNames$Chronicle" "parishes" "[I", Cond.fieldLink RX0 27 "ParishNames$Chronicle" "names" "[J", Cond.fieldLink RX0 24 "ParishNames$Chronicle" "owners" "[I", Cond.methodLink RX0 103 yX0_sitesNow, Cond.instanceMethod yX0_sitesNow, Cond.selects RX0 yX0_sitesNow yX0_sitesNow]
def wsX0_isNameOfLesser_r2 : List Cond := [Cond.code yX0_sitesNow cX0_sitesNow 2 (some .int), Cond.methodLink RX0 80 yX0_sitesBehind, Cond.instanceMethod yX0_sitesBehind, Cond.selects RX0 yX0_sitesBehind yX0_sitesBehind, Cond.code yX0_sitesBehind cX0_sitesBehind 5 (some .int), Cond.methodLink RX0 61 yX0_sitesAtFirst, Cond.static yX0_sitesAtFirst, Cond.code yX0_sitesAtFirst cX0_sitesAtFirst 1 (some .int), Cond.methodLink RX0 64 yX0_sitesThrough, Cond.instanceMethod yX0_sitesThrough, Cond.selects RX0 yX0_sitesThrough yX0_sitesThrough, Cond.code yX0_sitesThrough cX0_sitesThrough 4 (some .int), Cond.fieldLink RX0 21 "ParishNames$Chronicle" "sets" "[I"]
def wsX0_isNameOfLesser : List Cond := .code yX0_isNameOfLesser cX0_isNameOfLesser 5 (some .boolean) :: ((wsX0_isNameOfLesser_r1 ++ wsX0_isNameOfLesser_r2) ++ wsX00)
def wsX0_unlikeNamesNow_r1 : List Cond := [Cond.fieldLink RX0 35 "ParishNames$Chronicle" "founded" "I", Cond.methodLink RX0 103 yX0_sitesNow, Cond.instanceMethod yX0_sitesNow, Cond.selects RX0 yX0_sitesNow yX0_sitesNow, Cond.initialized RX0, Cond.code yX0_sitesNow cX0_sitesNow 2 (some .int), Cond.fieldLink RX0 31 "ParishNames$Chronicle" "told" "I", Cond.methodLink RX0 80 yX0_sitesBehind, Cond.instanceMethod yX0_sitesBehind, Cond.selects RX0 yX0_sitesBehind yX0_sitesBehind, Cond.code yX0_sitesBehind cX0_sitesBehind 5 (some .int), Cond.methodLink RX0 61 yX0_sitesAtFirst, Cond.static yX0_sitesAtFirst, Cond.code yX0_sitesAtFirst cX0_sitesAtFirst 1 (some .int), Cond.methodLink RX0 64 yX0_sitesThrough, Cond.instanceMethod yX0_sitesThrough, Cond.selects RX0 yX0_sitesThrough yX0_sitesThrough, Cond.code yX0_sitesThrough cX0_sitesThrough 4 (some .int), Cond.fieldLink RX0 18 "ParishNames$Chronicle" "parishes" "[I", Cond.fieldLink RX0 21 "ParishNames$Chronicle" "sets" "[I", Cond.fieldLink RX0 24 "ParishNames$Chronicle" "owners" "[I", Cond.methodLink RX0 106 yX0_isNameOfLesser, Cond.instanceMethod yX0_isNameOfLesser, Cond.selects RX0 yX0_isNameOfLesser yX0_isNameOfLesser]
def wsX0_unlikeNamesNow_r2 : List Cond := [Cond.code yX0_isNameOfLesser cX0_isNameOfLesser 5 (some .boolean), Cond.methodLink RX0 87 yX0_nameBehind, Cond.instanceMethod yX0_nameBehind, Cond.selects RX0 yX0_nameBehind yX0_nameBehind, Cond.code yX0_nameBehind cX0_nameBehind 6 (some .long), Cond.methodLink RX0 68 yX0_nameAtFirst, Cond.static yX0_nameAtFirst, Cond.code yX0_nameAtFirst cX0_nameAtFirst 1 (some .long), Cond.methodLink RX0 55 yX1_withLetter, Cond.static yX1_withLetter, Cond.initialized RX1, Cond.code yX1_withLetter cX1_withLetter 4 (some .long), Cond.methodLink RX0 72 yX0_nameThrough, Cond.instanceMethod yX0_nameThrough, Cond.selects RX0 yX0_nameThrough yX0_nameThrough, Cond.code yX0_nameThrough cX0_nameThrough 5 (some .long), Cond.fieldLink RX0 9 "ParishNames$Chronicle" "kinds" "[I", Cond.fieldLink RX0 27 "ParishNames$Chronicle" "names" "[J"]
def wsX0_unlikeNamesNow : List Cond := .code yX0_unlikeNamesNow cX0_unlikeNamesNow 3 (some .int) :: ((wsX0_unlikeNamesNow_r1 ++ wsX0_unlikeNamesNow_r2) ++ wsX00)
def wsX1_init : List Cond := .code yX1_init cX1_init 1 none :: ([.methodLink RX1 3 objectInit, .instanceMethod objectInit, .code objectInit ⟨#[0xb1]⟩ 1 none, .arrayClass .int, .fieldLink RX1 9 "ParishNames$Speller" "row" "[I"] ++ wsX10)
def wsX1_letterOf : List Cond := .code yX1_letterOf cX1_letterOf 3 (some .int) :: ([])
def wsX1_lengthOf : List Cond := .code yX1_lengthOf cX1_lengthOf 3 (some .int) :: ([.methodLink RX1 15 yX1_letterOf, .static yX1_letterOf, .initialized RX1, .code yX1_letterOf cX1_letterOf 3 (some .int)])
def wsX1_classOf : List Cond := .code yX1_classOf cX1_classOf 1 (some .int) :: ([])
def wsX1_soundOf : List Cond := .code yX1_soundOf cX1_soundOf 8 (some .int) :: ([.methodLink RX1 15 yX1_letterOf, .static yX1_letterOf, .initialized RX1, .code yX1_letterOf cX1_letterOf 3 (some .int), .methodLink RX1 19 yX1_classOf, .static yX1_classOf, .code yX1_classOf cX1_classOf 1 (some .int), .methodLink RX1 23 yX1_lengthOf, .static yX1_lengthOf, .code yX1_lengthOf cX1_lengthOf 3 (some .int)])
def wsX1_classOfSound : List Cond := .code yX1_classOfSound cX1_classOfSound 2 (some .int) :: ([])
def wsX1_lengthOfSound : List Cond := .code yX1_lengthOfSound cX1_lengthOfSound 2 (some .int) :: ([.methodLink RX1 27 yX1_classOfSound, .static yX1_classOfSound, .initialized RX1, .code yX1_classOfSound cX1_classOfSound 2 (some .int)])
def wsX1_distance : List Cond := .code yX1_distance cX1_distance 11 (some .int) :: ([.fieldLink RX1 9 "ParishNames$Speller" "row" "[I", .methodLink RX1 38 Lib.Math.min.name, .static Lib.Math.min.name, .initialized "java/lang/Math", .code Lib.Math.min.name Lib.Math.min.code 2 (some .int), .methodLink RX1 23 yX1_lengthOf, .static yX1_lengthOf, .initialized RX1, .code yX1_lengthOf cX1_lengthOf 3 (some .int), .methodLink RX1 15 yX1_letterOf, .static yX1_letterOf, .code yX1_letterOf cX1_letterOf 3 (some .int)] ++ wsX10)
def wsX1_areAlike : List Cond := .code yX1_areAlike cX1_areAlike 6 (some .boolean) :: ([.methodLink RX1 31 yX1_soundOf, .static yX1_soundOf, .initialized RX1, .code yX1_soundOf cX1_soundOf 8 (some .int), .methodLink RX1 15 yX1_letterOf, .static yX1_letterOf, .code yX1_letterOf cX1_letterOf 3 (some .int), .methodLink RX1 19 yX1_classOf, .static yX1_classOf, .code yX1_classOf cX1_classOf 1 (some .int), .methodLink RX1 23 yX1_lengthOf, .static yX1_lengthOf, .code yX1_lengthOf cX1_lengthOf 3 (some .int), .methodLink RX1 34 yX1_distance, .instanceMethod yX1_distance, .selects RX1 yX1_distance yX1_distance, .code yX1_distance cX1_distance 11 (some .int), .fieldLink RX1 9 "ParishNames$Speller" "row" "[I", .methodLink RX1 38 Lib.Math.min.name, .static Lib.Math.min.name, .initialized "java/lang/Math", .code Lib.Math.min.name Lib.Math.min.code 2 (some .int)] ++ wsX10)
def wsX2_init_r1 : List Cond := [Cond.methodLink RX2 1 objectInit, Cond.instanceMethod objectInit, Cond.code objectInit ⟨#[0xb1]⟩ 1 none, Cond.classLink RX2 7 RX0, Cond.instantiable RX0 8, Cond.initialized RX0, Cond.fieldLink RX2 10 "ParishNames" "now" "LParishNames$Chronicle;", Cond.fieldLink RX2 16 "ParishNames" "kept" "[LParishNames$Chronicle;", Cond.classLink RX2 20 RX1, Cond.instantiable RX1 1, Cond.initialized RX1, Cond.fieldLink RX2 23 "ParishNames" "speller" "LParishNames$Speller;", Cond.fieldLink RX2 27 "ParishNames" "keptSet" "I", Cond.fieldLink RX2 31 "ParishNames" "pad" "J", Cond.instanceMethod yX0_init, Cond.code yX0_init cX0_init 1 none, Cond.methodLink RX0 3 objectInit, Cond.arrayClass .int, Cond.fieldLink RX0 9 "ParishNames$Chronicle" "kinds" "[I", Cond.fieldLink RX0 15 "ParishNames$Chronicle" "years" "[I", Cond.fieldLink RX0 18 "ParishNames$Chronicle" "parishes" "[I", Cond.fieldLink RX0 21 "ParishNames$Chronicle" "sets" "[I", Cond.fieldLink RX0 24 "ParishNames$Chronicle" "owners" "[I", Cond.arrayClass .long]
def wsX2_init_r2 : List Cond := [Cond.fieldLink RX0 27 "ParishNames$Chronicle" "names" "[J", Cond.fieldLink RX0 31 "ParishNames$Chronicle" "told" "I", Cond.fieldLink RX0 35 "ParishNames$Chronicle" "founded" "I", Cond.instanceMethod yX1_init, Cond.code yX1_init cX1_init 1 none, Cond.methodLink RX1 3 objectInit, Cond.fieldLink RX1 9 "ParishNames$Speller" "row" "[I"]
def wsX2_init : List Cond := .code yX2_init cX2_init 1 none :: ((wsX2_init_r1 ++ wsX2_init_r2) ++ wsX00 ++ wsX20 ++ wsX10)
def wsX2_say : List Cond := .code yX2_say cX2_say 3 (some .int) :: ([.fieldLink RX2 31 "ParishNames" "pad" "J", .methodLink RX2 35 yX1_lengthOf, .static yX1_lengthOf, .initialized RX1, .code yX1_lengthOf cX1_lengthOf 3 (some .int), .methodLink RX1 15 yX1_letterOf, .static yX1_letterOf, .code yX1_letterOf cX1_letterOf 3 (some .int), .methodLink RX2 39 yX1_withLetter, .static yX1_withLetter, .code yX1_withLetter cX1_withLetter 4 (some .long)] ++ wsX20)
def wsX2_wipe : List Cond := .code yX2_wipe cX2_wipe 2 (some .int) :: ([.fieldLink RX2 31 "ParishNames" "pad" "J", .methodLink RX2 35 yX1_lengthOf, .static yX1_lengthOf, .initialized RX1, .code yX1_lengthOf cX1_lengthOf 3 (some .int), .methodLink RX1 15 yX1_letterOf, .static yX1_letterOf, .code yX1_letterOf cX1_letterOf 3 (some .int)] ++ wsX20)
def wsX2_isYear : List Cond := .code yX2_isYear cX2_isYear 1 (some .boolean) :: ([])
def wsX2_padIsNoName : List Cond := .code yX2_padIsNoName cX2_padIsNoName 1 (some .boolean) :: ([.fieldLink RX2 31 "ParishNames" "pad" "J"] ++ wsX20)
def wsX2_takePad : List Cond := .code yX2_takePad cX2_takePad 3 (some .long) :: ([.fieldLink RX2 31 "ParishNames" "pad" "J"] ++ wsX20)
def wsX2_name_r1 : List Cond := [Cond.fieldLink RX2 10 "ParishNames" "now" "LParishNames$Chronicle;", Cond.methodLink RX2 43 yX0_knows, Cond.instanceMethod yX0_knows, Cond.selects RX0 yX0_knows yX0_knows, Cond.initialized RX0, Cond.code yX0_knows cX0_knows 2 (some .boolean), Cond.fieldLink RX0 35 "ParishNames$Chronicle" "founded" "I", Cond.methodLink RX2 47 yX2_isYear, Cond.static yX2_isYear, Cond.initialized RX2, Cond.code yX2_isYear cX2_isYear 1 (some .boolean), Cond.methodLink RX2 50 yX2_padIsNoName, Cond.instanceMethod yX2_padIsNoName, Cond.selects RX2 yX2_padIsNoName yX2_padIsNoName, Cond.code yX2_padIsNoName cX2_padIsNoName 1 (some .boolean), Cond.fieldLink RX2 31 "ParishNames" "pad" "J", Cond.methodLink RX2 54 yX0_yearOfLast, Cond.instanceMethod yX0_yearOfLast, Cond.selects RX0 yX0_yearOfLast yX0_yearOfLast, Cond.code yX0_yearOfLast cX0_yearOfLast 1 (some .int), Cond.fieldLink RX0 31 "ParishNames$Chronicle" "told" "I", Cond.fieldLink RX0 15 "ParishNames$Chronicle" "years" "[I", Cond.methodLink RX2 58 yX0_sitesNow, Cond.instanceMethod yX0_sitesNow]
def wsX2_name_r2 : List Cond := [Cond.selects RX0 yX0_sitesNow yX0_sitesNow, Cond.code yX0_sitesNow cX0_sitesNow 2 (some .int), Cond.methodLink RX0 80 yX0_sitesBehind, Cond.instanceMethod yX0_sitesBehind, Cond.selects RX0 yX0_sitesBehind yX0_sitesBehind, Cond.code yX0_sitesBehind cX0_sitesBehind 5 (some .int), Cond.methodLink RX0 61 yX0_sitesAtFirst, Cond.static yX0_sitesAtFirst, Cond.code yX0_sitesAtFirst cX0_sitesAtFirst 1 (some .int), Cond.methodLink RX0 64 yX0_sitesThrough, Cond.instanceMethod yX0_sitesThrough, Cond.selects RX0 yX0_sitesThrough yX0_sitesThrough, Cond.code yX0_sitesThrough cX0_sitesThrough 4 (some .int), Cond.fieldLink RX0 18 "ParishNames$Chronicle" "parishes" "[I", Cond.fieldLink RX0 21 "ParishNames$Chronicle" "sets" "[I", Cond.fieldLink RX0 24 "ParishNames$Chronicle" "owners" "[I", Cond.methodLink RX2 62 yX0_isFull, Cond.instanceMethod yX0_isFull, Cond.selects RX0 yX0_isFull yX0_isFull, Cond.code yX0_isFull cX0_isFull 1 (some .boolean), Cond.methodLink RX2 65 yX2_takePad, Cond.instanceMethod yX2_takePad, Cond.selects RX2 yX2_takePad yX2_takePad, Cond.code yX2_takePad cX2_takePad 3 (some .long)]
def wsX2_name_r3 : List Cond := [Cond.methodLink RX2 69 yX0_tell, Cond.instanceMethod yX0_tell, Cond.selects RX0 yX0_tell yX0_tell, Cond.code yX0_tell cX0_tell 8 none, Cond.fieldLink RX0 9 "ParishNames$Chronicle" "kinds" "[I", Cond.fieldLink RX0 27 "ParishNames$Chronicle" "names" "[J", Cond.methodLink RX0 38 yX0_isFull, Cond.methodLink RX2 73 yX0_lastEvent, Cond.instanceMethod yX0_lastEvent, Cond.selects RX0 yX0_lastEvent yX0_lastEvent, Cond.code yX0_lastEvent cX0_lastEvent 1 (some .int)]
def wsX2_name : List Cond := .code yX2_name cX2_name 3 (some .int) :: ((wsX2_name_r1 ++ (wsX2_name_r2 ++ wsX2_name_r3)) ++ wsX20 ++ wsX00)
def wsX2_isSetOfSites : List Cond := .code yX2_isSetOfSites cX2_isSetOfSites 1 (some .boolean) :: ([])
def wsX2_isProperPart : List Cond := .code yX2_isProperPart cX2_isProperPart 2 (some .boolean) :: ([])
def wsX2_split_r1 : List Cond := [Cond.fieldLink RX2 10 "ParishNames" "now" "LParishNames$Chronicle;", Cond.methodLink RX2 43 yX0_knows, Cond.instanceMethod yX0_knows, Cond.selects RX0 yX0_knows yX0_knows, Cond.initialized RX0, Cond.code yX0_knows cX0_knows 2 (some .boolean), Cond.fieldLink RX0 35 "ParishNames$Chronicle" "founded" "I", Cond.methodLink RX2 76 yX2_isSetOfSites, Cond.static yX2_isSetOfSites, Cond.initialized RX2, Cond.code yX2_isSetOfSites cX2_isSetOfSites 1 (some .boolean), Cond.methodLink RX2 47 yX2_isYear, Cond.static yX2_isYear, Cond.code yX2_isYear cX2_isYear 1 (some .boolean), Cond.methodLink RX2 50 yX2_padIsNoName, Cond.instanceMethod yX2_padIsNoName, Cond.selects RX2 yX2_padIsNoName yX2_padIsNoName, Cond.code yX2_padIsNoName cX2_padIsNoName 1 (some .boolean), Cond.fieldLink RX2 31 "ParishNames" "pad" "J", Cond.methodLink RX2 54 yX0_yearOfLast, Cond.instanceMethod yX0_yearOfLast, Cond.selects RX0 yX0_yearOfLast yX0_yearOfLast, Cond.code yX0_yearOfLast cX0_yearOfLast 1 (some .int), Cond.fieldLink RX0 31 "ParishNames$Chronicle" "told" "I"]
def wsX2_split_r2 : List Cond := [Cond.fieldLink RX0 15 "ParishNames$Chronicle" "years" "[I", Cond.methodLink RX2 58 yX0_sitesNow, Cond.instanceMethod yX0_sitesNow, Cond.selects RX0 yX0_sitesNow yX0_sitesNow, Cond.code yX0_sitesNow cX0_sitesNow 2 (some .int), Cond.methodLink RX0 80 yX0_sitesBehind, Cond.instanceMethod yX0_sitesBehind, Cond.selects RX0 yX0_sitesBehind yX0_sitesBehind, Cond.code yX0_sitesBehind cX0_sitesBehind 5 (some .int), Cond.methodLink RX0 61 yX0_sitesAtFirst, Cond.static yX0_sitesAtFirst, Cond.code yX0_sitesAtFirst cX0_sitesAtFirst 1 (some .int), Cond.methodLink RX0 64 yX0_sitesThrough, Cond.instanceMethod yX0_sitesThrough, Cond.selects RX0 yX0_sitesThrough yX0_sitesThrough, Cond.code yX0_sitesThrough cX0_sitesThrough 4 (some .int), Cond.fieldLink RX0 18 "ParishNames$Chronicle" "parishes" "[I", Cond.fieldLink RX0 21 "ParishNames$Chronicle" "sets" "[I", Cond.fieldLink RX0 24 "ParishNames$Chronicle" "owners" "[I", Cond.methodLink RX2 79 yX2_isProperPart, Cond.static yX2_isProperPart, Cond.code yX2_isProperPart cX2_isProperPart 2 (some .boolean), Cond.methodLink RX2 62 yX0_isFull, Cond.instanceMethod yX0_isFull]
def wsX2_split_r3 : List Cond := [Cond.selects RX0 yX0_isFull yX0_isFull, Cond.code yX0_isFull cX0_isFull 1 (some .boolean), Cond.methodLink RX2 83 yX0_parishCount, Cond.instanceMethod yX0_parishCount, Cond.selects RX0 yX0_parishCount yX0_parishCount, Cond.code yX0_parishCount cX0_parishCount 1 (some .int), Cond.methodLink RX2 65 yX2_takePad, Cond.instanceMethod yX2_takePad, Cond.selects RX2 yX2_takePad yX2_takePad, Cond.code yX2_takePad cX2_takePad 3 (some .long), Cond.methodLink RX2 69 yX0_tell, Cond.instanceMethod yX0_tell, Cond.selects RX0 yX0_tell yX0_tell, Cond.code yX0_tell cX0_tell 8 none, Cond.fieldLink RX0 9 "ParishNames$Chronicle" "kinds" "[I", Cond.fieldLink RX0 27 "ParishNames$Chronicle" "names" "[J", Cond.methodLink RX0 38 yX0_isFull]
def wsX2_split : List Cond := .code yX2_split cX2_split 5 (some .int) :: ((wsX2_split_r1 ++ (wsX2_split_r2 ++ wsX2_split_r3)) ++ wsX20 ++ wsX00)
def wsX2_merge_r1 : List Cond := [Cond.fieldLink RX2 10 "ParishNames" "now" "LParishNames$Chronicle;", Cond.methodLink RX2 43 yX0_knows, Cond.instanceMethod yX0_knows, Cond.selects RX0 yX0_knows yX0_knows, Cond.initialized RX0, Cond.code yX0_knows cX0_knows 2 (some .boolean), Cond.fieldLink RX0 35 "ParishNames$Chronicle" "founded" "I", Cond.methodLink RX2 47 yX2_isYear, Cond.static yX2_isYear, Cond.initialized RX2, Cond.code yX2_isYear cX2_isYear 1 (some .boolean), Cond.methodLink RX2 54 yX0_yearOfLast, Cond.instanceMethod yX0_yearOfLast, Cond.selects RX0 yX0_yearOfLast yX0_yearOfLast, Cond.code yX0_yearOfLast cX0_yearOfLast 1 (some .int), Cond.fieldLink RX0 31 "ParishNames$Chronicle" "told" "I", Cond.fieldLink RX0 15 "ParishNames$Chronicle" "years" "[I", Cond.methodLink RX2 58 yX0_sitesNow, Cond.instanceMethod yX0_sitesNow, Cond.selects RX0 yX0_sitesNow yX0_sitesNow, Cond.code yX0_sitesNow cX0_sitesNow 2 (some .int), Cond.methodLink RX0 80 yX0_sitesBehind, Cond.instanceMethod yX0_sitesBehind, Cond.selects RX0 yX0_sitesBehind yX0_sitesBehind]
def wsX2_merge_r2 : List Cond := [Cond.code yX0_sitesBehind cX0_sitesBehind 5 (some .int), Cond.methodLink RX0 61 yX0_sitesAtFirst, Cond.static yX0_sitesAtFirst, Cond.code yX0_sitesAtFirst cX0_sitesAtFirst 1 (some .int), Cond.methodLink RX0 64 yX0_sitesThrough, Cond.instanceMethod yX0_sitesThrough, Cond.selects RX0 yX0_sitesThrough yX0_sitesThrough, Cond.code yX0_sitesThrough cX0_sitesThrough 4 (some .int), Cond.fieldLink RX0 18 "ParishNames$Chronicle" "parishes" "[I", Cond.fieldLink RX0 21 "ParishNames$Chronicle" "sets" "[I", Cond.fieldLink RX0 24 "ParishNames$Chronicle" "owners" "[I", Cond.methodLink RX2 62 yX0_isFull, Cond.instanceMethod yX0_isFull, Cond.selects RX0 yX0_isFull yX0_isFull, Cond.code yX0_isFull cX0_isFull 1 (some .boolean), Cond.methodLink RX2 69 yX0_tell, Cond.instanceMethod yX0_tell, Cond.selects RX0 yX0_tell yX0_tell, Cond.code yX0_tell cX0_tell 8 none, Cond.fieldLink RX0 9 "ParishNames$Chronicle" "kinds" "[I", Cond.fieldLink RX0 27 "ParishNames$Chronicle" "names" "[J", Cond.methodLink RX0 38 yX0_isFull, Cond.methodLink RX2 73 yX0_lastEvent, Cond.instanceMethod yX0_lastEvent]
def wsX2_merge_r3 : List Cond := [Cond.selects RX0 yX0_lastEvent yX0_lastEvent, Cond.code yX0_lastEvent cX0_lastEvent 1 (some .int)]
def wsX2_merge : List Cond := .code yX2_merge cX2_merge 5 (some .int) :: ((wsX2_merge_r1 ++ (wsX2_merge_r2 ++ wsX2_merge_r3)) ++ wsX20 ++ wsX00)
def wsX2_shift_r1 : List Cond := [Cond.fieldLink RX2 10 "ParishNames" "now" "LParishNames$Chronicle;", Cond.methodLink RX2 43 yX0_knows, Cond.instanceMethod yX0_knows, Cond.selects RX0 yX0_knows yX0_knows, Cond.initialized RX0, Cond.code yX0_knows cX0_knows 2 (some .boolean), Cond.fieldLink RX0 35 "ParishNames$Chronicle" "founded" "I", Cond.methodLink RX2 76 yX2_isSetOfSites, Cond.static yX2_isSetOfSites, Cond.initialized RX2, Cond.code yX2_isSetOfSites cX2_isSetOfSites 1 (some .boolean), Cond.methodLink RX2 47 yX2_isYear, Cond.static yX2_isYear, Cond.code yX2_isYear cX2_isYear 1 (some .boolean), Cond.methodLink RX2 54 yX0_yearOfLast, Cond.instanceMethod yX0_yearOfLast, Cond.selects RX0 yX0_yearOfLast yX0_yearOfLast, Cond.code yX0_yearOfLast cX0_yearOfLast 1 (some .int), Cond.fieldLink RX0 31 "ParishNames$Chronicle" "told" "I", Cond.fieldLink RX0 15 "ParishNames$Chronicle" "years" "[I", Cond.methodLink RX2 58 yX0_sitesNow, Cond.instanceMethod yX0_sitesNow, Cond.selects RX0 yX0_sitesNow yX0_sitesNow, Cond.code yX0_sitesNow cX0_sitesNow 2 (some .int)]
def wsX2_shift_r2 : List Cond := [Cond.methodLink RX0 80 yX0_sitesBehind, Cond.instanceMethod yX0_sitesBehind, Cond.selects RX0 yX0_sitesBehind yX0_sitesBehind, Cond.code yX0_sitesBehind cX0_sitesBehind 5 (some .int), Cond.methodLink RX0 61 yX0_sitesAtFirst, Cond.static yX0_sitesAtFirst, Cond.code yX0_sitesAtFirst cX0_sitesAtFirst 1 (some .int), Cond.methodLink RX0 64 yX0_sitesThrough, Cond.instanceMethod yX0_sitesThrough, Cond.selects RX0 yX0_sitesThrough yX0_sitesThrough, Cond.code yX0_sitesThrough cX0_sitesThrough 4 (some .int), Cond.fieldLink RX0 18 "ParishNames$Chronicle" "parishes" "[I", Cond.fieldLink RX0 21 "ParishNames$Chronicle" "sets" "[I", Cond.fieldLink RX0 24 "ParishNames$Chronicle" "owners" "[I", Cond.methodLink RX2 79 yX2_isProperPart, Cond.static yX2_isProperPart, Cond.code yX2_isProperPart cX2_isProperPart 2 (some .boolean), Cond.methodLink RX2 62 yX0_isFull, Cond.instanceMethod yX0_isFull, Cond.selects RX0 yX0_isFull yX0_isFull, Cond.code yX0_isFull cX0_isFull 1 (some .boolean), Cond.methodLink RX2 69 yX0_tell, Cond.instanceMethod yX0_tell, Cond.selects RX0 yX0_tell yX0_tell]
def wsX2_shift_r3 : List Cond := [Cond.code yX0_tell cX0_tell 8 none, Cond.fieldLink RX0 9 "ParishNames$Chronicle" "kinds" "[I", Cond.fieldLink RX0 27 "ParishNames$Chronicle" "names" "[J", Cond.methodLink RX0 38 yX0_isFull, Cond.methodLink RX2 73 yX0_lastEvent, Cond.instanceMethod yX0_lastEvent, Cond.selects RX0 yX0_lastEvent yX0_lastEvent, Cond.code yX0_lastEvent cX0_lastEvent 1 (some .int)]
def wsX2_shift : List Cond := .code yX2_shift cX2_shift 5 (some .int) :: ((wsX2_shift_r1 ++ (wsX2_shift_r2 ++ wsX2_shift_r3)) ++ wsX20 ++ wsX00)
def wsX2_undo : List Cond := .code yX2_undo cX2_undo 1 (some .int) :: ([.fieldLink RX2 10 "ParishNames" "now" "LParishNames$Chronicle;", .methodLink RX2 86 yX0_eventCount, .instanceMethod yX0_eventCount, .selects RX0 yX0_eventCount yX0_eventCount, .initialized RX0, .code yX0_eventCount cX0_eventCount 1 (some .int), .fieldLink RX0 31 "ParishNames$Chronicle" "told" "I", .methodLink RX2 89 yX0_forgetLast, .instanceMethod yX0_forgetLast, .selects RX0 yX0_forgetLast yX0_forgetLast, .code yX0_forgetLast cX0_forgetLast 1 none, .fieldLink RX0 9 "ParishNames$Chronicle" "kinds" "[I", .fieldLink RX0 35 "ParishNames$Chronicle" "founded" "I"] ++ wsX20 ++ wsX00)
def wsX2_event : List Cond := .code yX2_event cX2_event 3 (some .int) :: ([.fieldLink RX2 10 "ParishNames" "now" "LParishNames$Chronicle;", .methodLink RX2 92 yX0_factOf, .instanceMethod yX0_factOf, .selects RX0 yX0_factOf yX0_factOf, .initialized RX0, .code yX0_factOf cX0_factOf 3 (some .int), .fieldLink RX0 31 "ParishNames$Chronicle" "told" "I", .fieldLink RX0 9 "ParishNames$Chronicle" "kinds" "[I", .fieldLink RX0 15 "ParishNames$Chronicle" "years" "[I", .fieldLink RX0 18 "ParishNames$Chronicle" "parishes" "[I", .fieldLink RX0 21 "ParishNames$Chronicle" "sets" "[I", .fieldLink RX0 24 "ParishNames$Chronicle" "owners" "[I"] ++ wsX20 ++ wsX00)
def wsX2_isSite : List Cond := .code yX2_isSite cX2_isSite 1 (some .boolean) :: ([])
def wsX2_at : List Cond := .code yX2_at cX2_at 3 (some .int) :: ([.fieldLink RX2 10 "ParishNames" "now" "LParishNames$Chronicle;", .methodLink RX2 96 yX2_isSite, .static yX2_isSite, .initialized RX2, .code yX2_isSite cX2_isSite 1 (some .boolean), .methodLink RX2 47 yX2_isYear, .static yX2_isYear, .code yX2_isYear cX2_isYear 1 (some .boolean), .methodLink RX2 99 yX0_stageIn, .instanceMethod yX0_stageIn, .selects RX0 yX0_stageIn yX0_stageIn, .initialized RX0, .code yX0_stageIn cX0_stageIn 3 (some .int), .fieldLink RX0 31 "ParishNames$Chronicle" "told" "I", .fieldLink RX0 15 "ParishNames$Chronicle" "years" "[I", .methodLink RX2 102 yX0_ownerBehind, .instanceMethod yX0_ownerBehind, .selects RX0 yX0_ownerBehind yX0_ownerBehind, .code yX0_ownerBehind cX0_ownerBehind 5 (some .int), .fieldLink RX0 21 "ParishNames$Chronicle" "sets" "[I", .fieldLink RX0 24 "ParishNames$Chronicle" "owners" "[I", .static yX2_has, .code yX2_has cX2_has 2 (some .boolean)] ++ wsX20 ++ wsX00)
def wsX2_sites_r1 : List Cond := [Cond.fieldLink RX2 10 "ParishNames" "now" "LParishNames$Chronicle;", Cond.methodLink RX2 43 yX0_knows, Cond.instanceMethod yX0_knows, Cond.selects RX0 yX0_knows yX0_knows, Cond.initialized RX0, Cond.code yX0_knows cX0_knows 2 (some .boolean), Cond.fieldLink RX0 35 "ParishNames$Chronicle" "founded" "I", Cond.methodLink RX2 47 yX2_isYear, Cond.static yX2_isYear, Cond.initialized RX2, Cond.code yX2_isYear cX2_isYear 1 (some .boolean), Cond.methodLink RX2 99 yX0_stageIn, Cond.instanceMethod yX0_stageIn, Cond.selects RX0 yX0_stageIn yX0_stageIn, Cond.code yX0_stageIn cX0_stageIn 3 (some .int), Cond.fieldLink RX0 31 "ParishNames$Chronicle" "told" "I", Cond.fieldLink RX0 15 "ParishNames$Chronicle" "years" "[I", Cond.methodLink RX2 105 yX0_sitesBehind, Cond.instanceMethod yX0_sitesBehind, Cond.selects RX0 yX0_sitesBehind yX0_sitesBehind, Cond.code yX0_sitesBehind cX0_sitesBehind 5 (some .int), Cond.methodLink RX0 61 yX0_sitesAtFirst, Cond.static yX0_sitesAtFirst, Cond.code yX0_sitesAtFirst cX0_sitesAtFirst 1 (some .int)]
def wsX2_sites_r2 : List Cond := [Cond.methodLink RX0 64 yX0_sitesThrough, Cond.instanceMethod yX0_sitesThrough, Cond.selects RX0 yX0_sitesThrough yX0_sitesThrough, Cond.code yX0_sitesThrough cX0_sitesThrough 4 (some .int), Cond.fieldLink RX0 18 "ParishNames$Chronicle" "parishes" "[I", Cond.fieldLink RX0 21 "ParishNames$Chronicle" "sets" "[I", Cond.fieldLink RX0 24 "ParishNames$Chronicle" "owners" "[I"]
def wsX2_sites : List Cond := .code yX2_sites cX2_sites 3 (some .int) :: ((wsX2_sites_r1 ++ wsX2_sites_r2) ++ wsX20 ++ wsX00)
def wsX2_letter_r1 : List Cond := [Cond.fieldLink RX2 10 "ParishNames" "now" "LParishNames$Chronicle;", Cond.methodLink RX2 43 yX0_knows, Cond.instanceMethod yX0_knows, Cond.selects RX0 yX0_knows yX0_knows, Cond.initialized RX0, Cond.code yX0_knows cX0_knows 2 (some .boolean), Cond.fieldLink RX0 35 "ParishNames$Chronicle" "founded" "I", Cond.methodLink RX2 47 yX2_isYear, Cond.static yX2_isYear, Cond.initialized RX2, Cond.code yX2_isYear cX2_isYear 1 (some .boolean), Cond.methodLink RX2 108 yX0_nameIn, Cond.instanceMethod yX0_nameIn, Cond.selects RX0 yX0_nameIn yX0_nameIn, Cond.code yX0_nameIn cX0_nameIn 4 (some .long), Cond.methodLink RX0 84 yX0_stageIn, Cond.instanceMethod yX0_stageIn, Cond.selects RX0 yX0_stageIn yX0_stageIn, Cond.code yX0_stageIn cX0_stageIn 3 (some .int), Cond.fieldLink RX0 31 "ParishNames$Chronicle" "told" "I", Cond.fieldLink RX0 15 "ParishNames$Chronicle" "years" "[I", Cond.methodLink RX0 80 yX0_sitesBehind, Cond.instanceMethod yX0_sitesBehind, Cond.selects RX0 yX0_sitesBehind yX0_sitesBehind]
def wsX2_letter_r2 : List Cond := [Cond.code yX0_sitesBehind cX0_sitesBehind 5 (some .int), Cond.methodLink RX0 61 yX0_sitesAtFirst, Cond.static yX0_sitesAtFirst, Cond.code yX0_sitesAtFirst cX0_sitesAtFirst 1 (some .int), Cond.methodLink RX0 64 yX0_sitesThrough, Cond.instanceMethod yX0_sitesThrough, Cond.selects RX0 yX0_sitesThrough yX0_sitesThrough, Cond.code yX0_sitesThrough cX0_sitesThrough 4 (some .int), Cond.fieldLink RX0 18 "ParishNames$Chronicle" "parishes" "[I", Cond.fieldLink RX0 21 "ParishNames$Chronicle" "sets" "[I", Cond.fieldLink RX0 24 "ParishNames$Chronicle" "owners" "[I", Cond.methodLink RX0 87 yX0_nameBehind, Cond.instanceMethod yX0_nameBehind, Cond.selects RX0 yX0_nameBehind yX0_nameBehind, Cond.code yX0_nameBehind cX0_nameBehind 6 (some .long), Cond.methodLink RX0 68 yX0_nameAtFirst, Cond.static yX0_nameAtFirst, Cond.code yX0_nameAtFirst cX0_nameAtFirst 1 (some .long), Cond.methodLink RX0 55 yX1_withLetter, Cond.static yX1_withLetter, Cond.initialized RX1, Cond.code yX1_withLetter cX1_withLetter 4 (some .long), Cond.methodLink RX0 72 yX0_nameThrough, Cond.instanceMethod yX0_nameThrough]
def wsX2_letter_r3 : List Cond := [Cond.selects RX0 yX0_nameThrough yX0_nameThrough, Cond.code yX0_nameThrough cX0_nameThrough 5 (some .long), Cond.fieldLink RX0 9 "ParishNames$Chronicle" "kinds" "[I", Cond.fieldLink RX0 27 "ParishNames$Chronicle" "names" "[J", Cond.methodLink RX2 35 yX1_lengthOf, Cond.static yX1_lengthOf, Cond.code yX1_lengthOf cX1_lengthOf 3 (some .int), Cond.methodLink RX1 15 yX1_letterOf, Cond.static yX1_letterOf, Cond.code yX1_letterOf cX1_letterOf 3 (some .int), Cond.methodLink RX2 112 yX1_letterOf]
def wsX2_letter : List Cond := .code yX2_letter cX2_letter 7 (some .int) :: ((wsX2_letter_r1 ++ (wsX2_letter_r2 ++ wsX2_letter_r3)) ++ wsX20 ++ wsX00)
def wsX2_sound_r1 : List Cond := [Cond.fieldLink RX2 10 "ParishNames" "now" "LParishNames$Chronicle;", Cond.methodLink RX2 43 yX0_knows, Cond.instanceMethod yX0_knows, Cond.selects RX0 yX0_knows yX0_knows, Cond.initialized RX0, Cond.code yX0_knows cX0_knows 2 (some .boolean), Cond.fieldLink RX0 35 "ParishNames$Chronicle" "founded" "I", Cond.methodLink RX2 47 yX2_isYear, Cond.static yX2_isYear, Cond.initialized RX2, Cond.code yX2_isYear cX2_isYear 1 (some .boolean), Cond.methodLink RX2 108 yX0_nameIn, Cond.instanceMethod yX0_nameIn, Cond.selects RX0 yX0_nameIn yX0_nameIn, Cond.code yX0_nameIn cX0_nameIn 4 (some .long), Cond.methodLink RX0 84 yX0_stageIn, Cond.instanceMethod yX0_stageIn, Cond.selects RX0 yX0_stageIn yX0_stageIn, Cond.code yX0_stageIn cX0_stageIn 3 (some .int), Cond.fieldLink RX0 31 "ParishNames$Chronicle" "told" "I", Cond.fieldLink RX0 15 "ParishNames$Chronicle" "years" "[I", Cond.methodLink RX0 80 yX0_sitesBehind, Cond.instanceMethod yX0_sitesBehind, Cond.selects RX0 yX0_sitesBehind yX0_sitesBehind]
def wsX2_sound_r2 : List Cond := [Cond.code yX0_sitesBehind cX0_sitesBehind 5 (some .int), Cond.methodLink RX0 61 yX0_sitesAtFirst, Cond.static yX0_sitesAtFirst, Cond.code yX0_sitesAtFirst cX0_sitesAtFirst 1 (some .int), Cond.methodLink RX0 64 yX0_sitesThrough, Cond.instanceMethod yX0_sitesThrough, Cond.selects RX0 yX0_sitesThrough yX0_sitesThrough, Cond.code yX0_sitesThrough cX0_sitesThrough 4 (some .int), Cond.fieldLink RX0 18 "ParishNames$Chronicle" "parishes" "[I", Cond.fieldLink RX0 21 "ParishNames$Chronicle" "sets" "[I", Cond.fieldLink RX0 24 "ParishNames$Chronicle" "owners" "[I", Cond.methodLink RX0 87 yX0_nameBehind, Cond.instanceMethod yX0_nameBehind, Cond.selects RX0 yX0_nameBehind yX0_nameBehind, Cond.code yX0_nameBehind cX0_nameBehind 6 (some .long), Cond.methodLink RX0 68 yX0_nameAtFirst, Cond.static yX0_nameAtFirst, Cond.code yX0_nameAtFirst cX0_nameAtFirst 1 (some .long), Cond.methodLink RX0 55 yX1_withLetter, Cond.static yX1_withLetter, Cond.initialized RX1, Cond.code yX1_withLetter cX1_withLetter 4 (some .long), Cond.methodLink RX0 72 yX0_nameThrough, Cond.instanceMethod yX0_nameThrough]
def wsX2_sound_r3 : List Cond := [Cond.selects RX0 yX0_nameThrough yX0_nameThrough, Cond.code yX0_nameThrough cX0_nameThrough 5 (some .long), Cond.fieldLink RX0 9 "ParishNames$Chronicle" "kinds" "[I", Cond.fieldLink RX0 27 "ParishNames$Chronicle" "names" "[J", Cond.methodLink RX2 116 yX1_soundOf, Cond.static yX1_soundOf, Cond.code yX1_soundOf cX1_soundOf 8 (some .int), Cond.methodLink RX1 15 yX1_letterOf, Cond.static yX1_letterOf, Cond.code yX1_letterOf cX1_letterOf 3 (some .int), Cond.methodLink RX1 19 yX1_classOf, Cond.static yX1_classOf, Cond.code yX1_classOf cX1_classOf 1 (some .int), Cond.methodLink RX1 23 yX1_lengthOf, Cond.static yX1_lengthOf, Cond.code yX1_lengthOf cX1_lengthOf 3 (some .int), Cond.methodLink RX2 119 yX1_lengthOfSound, Cond.static yX1_lengthOfSound, Cond.code yX1_lengthOfSound cX1_lengthOfSound 2 (some .int), Cond.methodLink RX1 27 yX1_classOfSound, Cond.static yX1_classOfSound, Cond.code yX1_classOfSound cX1_classOfSound 2 (some .int), Cond.methodLink RX2 122 yX1_classOfSound]
def wsX2_sound : List Cond := .code yX2_sound cX2_sound 8 (some .int) :: ((wsX2_sound_r1 ++ (wsX2_sound_r2 ++ wsX2_sound_r3)) ++ wsX20 ++ wsX00)
def wsX2_parish_r1 : List Cond := [Cond.fieldLink RX2 10 "ParishNames" "now" "LParishNames$Chronicle;", Cond.methodLink RX2 43 yX0_knows, Cond.instanceMethod yX0_knows, Cond.selects RX0 yX0_knows yX0_knows, Cond.initialized RX0, Cond.code yX0_knows cX0_knows 2 (some .boolean), Cond.fieldLink RX0 35 "ParishNames$Chronicle" "founded" "I", Cond.methodLink RX2 125 yX0_eventsOf, Cond.instanceMethod yX0_eventsOf, Cond.selects RX0 yX0_eventsOf yX0_eventsOf, Cond.code yX0_eventsOf cX0_eventsOf 4 (some .int), Cond.fieldLink RX0 31 "ParishNames$Chronicle" "told" "I", Cond.fieldLink RX0 18 "ParishNames$Chronicle" "parishes" "[I", Cond.fieldLink RX0 24 "ParishNames$Chronicle" "owners" "[I", Cond.methodLink RX2 128 yX0_lifeOf, Cond.instanceMethod yX0_lifeOf, Cond.selects RX0 yX0_lifeOf yX0_lifeOf, Cond.code yX0_lifeOf cX0_lifeOf 9 (some .int), Cond.methodLink RX0 61 yX0_sitesAtFirst, Cond.static yX0_sitesAtFirst, Cond.code yX0_sitesAtFirst cX0_sitesAtFirst 1 (some .int), Cond.methodLink RX0 64 yX0_sitesThrough, Cond.instanceMethod yX0_sitesThrough, Cond.selects RX0 yX0_sitesThrough yX0_sitesThrough]
def wsX2_parish_r2 : List Cond := [Cond.code yX0_sitesThrough cX0_sitesThrough 4 (some .int), Cond.fieldLink RX0 21 "ParishNames$Chronicle" "sets" "[I", Cond.methodLink RX0 94 yX0_holdsInAYear, Cond.instanceMethod yX0_holdsInAYear, Cond.selects RX0 yX0_holdsInAYear yX0_holdsInAYear, Cond.code yX0_holdsInAYear cX0_holdsInAYear 2 (some .boolean), Cond.methodLink RX0 48 yX0_firstYear, Cond.instanceMethod yX0_firstYear, Cond.selects RX0 yX0_firstYear yX0_firstYear, Cond.code yX0_firstYear cX0_firstYear 2 (some .int), Cond.fieldLink RX0 15 "ParishNames$Chronicle" "years" "[I", Cond.methodLink RX0 52 yX0_lastYear, Cond.instanceMethod yX0_lastYear, Cond.selects RX0 yX0_lastYear yX0_lastYear, Cond.code yX0_lastYear cX0_lastYear 2 (some .int), Cond.methodLink RX0 98 yJ6_bitCount_0f7a4, Cond.static yJ6_bitCount_0f7a4, Cond.initialized RJ6, Cond.code yJ6_bitCount_0f7a4 cJ6_bitCount_0f7a4 1 (some .int), Cond.constant RJ6 265 (1431655765), Cond.constant RJ6 266 (858993459), Cond.constant RJ6 267 (252645135)]
def wsX2_parish : List Cond := .code yX2_parish cX2_parish 3 (some .int) :: ((wsX2_parish_r1 ++ wsX2_parish_r2) ++ wsX20 ++ wsX00)
def wsX2_areYears : List Cond := .code yX2_areYears cX2_areYears 2 (some .boolean) :: ([.methodLink RX2 47 yX2_isYear, .static yX2_isYear, .initialized RX2, .code yX2_isYear cX2_isYear 1 (some .boolean)])
def wsX2_isHow : List Cond := .code yX2_isHow cX2_isHow 1 (some .boolean) :: ([])
def wsX2_wasCalled_r1 : List Cond := [Cond.fieldLink RX2 10 "ParishNames" "now" "LParishNames$Chronicle;", Cond.methodLink RX2 144 Lib.Math.max.name, Cond.static Lib.Math.max.name, Cond.initialized "java/lang/Math", Cond.code Lib.Math.max.name Lib.Math.max.code 2 (some .int), Cond.methodLink RX2 152 Lib.Math.min.name, Cond.static Lib.Math.min.name, Cond.code Lib.Math.min.name Lib.Math.min.code 2 (some .int), Cond.fieldLink RX2 23 "ParishNames" "speller" "LParishNames$Speller;", Cond.fieldLink RX2 31 "ParishNames" "pad" "J", Cond.methodLink RX2 189 yX0_sitesAtFirst, Cond.static yX0_sitesAtFirst, Cond.initialized RX0, Cond.code yX0_sitesAtFirst cX0_sitesAtFirst 1 (some .int), Cond.methodLink RX2 192 yX0_nameAtFirst, Cond.static yX0_nameAtFirst, Cond.code yX0_nameAtFirst cX0_nameAtFirst 1 (some .long), Cond.methodLink RX0 55 yX1_withLetter, Cond.static yX1_withLetter, Cond.initialized RX1, Cond.code yX1_withLetter cX1_withLetter 4 (some .long), Cond.methodLink RX2 86 yX0_eventCount, Cond.instanceMethod yX0_eventCount, Cond.selects RX0 yX0_eventCount yX0_eventCount]
def wsX2_wasCalled_r2 : List Cond := [Cond.code yX0_eventCount cX0_eventCount 1 (some .int), Cond.fieldLink RX0 31 "ParishNames$Chronicle" "told" "I", Cond.methodLink RX2 196 yX0_sitesThrough, Cond.instanceMethod yX0_sitesThrough, Cond.selects RX0 yX0_sitesThrough yX0_sitesThrough, Cond.code yX0_sitesThrough cX0_sitesThrough 4 (some .int), Cond.fieldLink RX0 18 "ParishNames$Chronicle" "parishes" "[I", Cond.fieldLink RX0 21 "ParishNames$Chronicle" "sets" "[I", Cond.fieldLink RX0 24 "ParishNames$Chronicle" "owners" "[I", Cond.methodLink RX2 200 yX0_nameThrough, Cond.instanceMethod yX0_nameThrough, Cond.selects RX0 yX0_nameThrough yX0_nameThrough, Cond.code yX0_nameThrough cX0_nameThrough 5 (some .long), Cond.fieldLink RX0 9 "ParishNames$Chronicle" "kinds" "[I", Cond.fieldLink RX0 27 "ParishNames$Chronicle" "names" "[J", Cond.methodLink RX2 141 yX0_firstYear, Cond.instanceMethod yX0_firstYear, Cond.selects RX0 yX0_firstYear yX0_firstYear, Cond.code yX0_firstYear cX0_firstYear 2 (some .int), Cond.fieldLink RX0 15 "ParishNames$Chronicle" "years" "[I", Cond.methodLink RX2 149 yX0_lastYear, Cond.instanceMethod yX0_lastYear, Cond.selects RX0 yX0_lastYear yX0_lastYear, Cond.code yX0_lastYear cX0_lastYear 2 (some .int)]
def wsX2_wasCalled_r3 : List Cond := [Cond.methodLink RX2 158 yX1_areAlike, Cond.instanceMethod yX1_areAlike, Cond.selects RX1 yX1_areAlike yX1_areAlike, Cond.code yX1_areAlike cX1_areAlike 6 (some .boolean), Cond.methodLink RX1 31 yX1_soundOf, Cond.static yX1_soundOf, Cond.code yX1_soundOf cX1_soundOf 8 (some .int), Cond.methodLink RX1 15 yX1_letterOf, Cond.static yX1_letterOf, Cond.code yX1_letterOf cX1_letterOf 3 (some .int), Cond.methodLink RX1 19 yX1_classOf, Cond.static yX1_classOf, Cond.code yX1_classOf cX1_classOf 1 (some .int), Cond.methodLink RX1 23 yX1_lengthOf, Cond.static yX1_lengthOf, Cond.code yX1_lengthOf cX1_lengthOf 3 (some .int), Cond.methodLink RX1 34 yX1_distance, Cond.instanceMethod yX1_distance, Cond.selects RX1 yX1_distance yX1_distance, Cond.code yX1_distance cX1_distance 11 (some .int), Cond.fieldLink RX1 9 "ParishNames$Speller" "row" "[I", Cond.methodLink RX1 38 Lib.Math.min.name]
def wsX2_wasCalled : List Cond := .code yX2_wasCalled cX2_wasCalled 12 (some .boolean) :: ((wsX2_wasCalled_r1 ++ (wsX2_wasCalled_r2 ++ wsX2_wasCalled_r3)) ++ wsX20 ++ wsX00 ++ wsX10)
def wsX2_find_r1 : List Cond := [Cond.fieldLink RX2 10 "ParishNames" "now" "LParishNames$Chronicle;", Cond.methodLink RX2 131 yX2_areYears, Cond.static yX2_areYears, Cond.initialized RX2, Cond.code yX2_areYears cX2_areYears 2 (some .boolean), Cond.methodLink RX2 47 yX2_isYear, Cond.static yX2_isYear, Cond.code yX2_isYear cX2_isYear 1 (some .boolean), Cond.methodLink RX2 134 yX2_isHow, Cond.static yX2_isHow, Cond.code yX2_isHow cX2_isHow 1 (some .boolean), Cond.methodLink RX2 50 yX2_padIsNoName, Cond.instanceMethod yX2_padIsNoName, Cond.selects RX2 yX2_padIsNoName yX2_padIsNoName, Cond.code yX2_padIsNoName cX2_padIsNoName 1 (some .boolean), Cond.fieldLink RX2 31 "ParishNames" "pad" "J", Cond.methodLink RX2 83 yX0_parishCount, Cond.instanceMethod yX0_parishCount, Cond.selects RX0 yX0_parishCount yX0_parishCount, Cond.initialized RX0, Cond.code yX0_parishCount cX0_parishCount 1 (some .int), Cond.fieldLink RX0 35 "ParishNames$Chronicle" "founded" "I", Cond.methodLink RX2 137 yX2_wasCalled, Cond.instanceMethod yX2_wasCalled]
def wsX2_find_r2 : List Cond := [Cond.selects RX2 yX2_wasCalled yX2_wasCalled, Cond.code yX2_wasCalled cX2_wasCalled 12 (some .boolean), Cond.methodLink RX2 144 Lib.Math.max.name, Cond.static Lib.Math.max.name, Cond.initialized "java/lang/Math", Cond.code Lib.Math.max.name Lib.Math.max.code 2 (some .int), Cond.methodLink RX2 152 Lib.Math.min.name, Cond.static Lib.Math.min.name, Cond.code Lib.Math.min.name Lib.Math.min.code 2 (some .int), Cond.fieldLink RX2 23 "ParishNames" "speller" "LParishNames$Speller;", Cond.methodLink RX2 189 yX0_sitesAtFirst, Cond.static yX0_sitesAtFirst, Cond.code yX0_sitesAtFirst cX0_sitesAtFirst 1 (some .int), Cond.methodLink RX2 192 yX0_nameAtFirst, Cond.static yX0_nameAtFirst, Cond.code yX0_nameAtFirst cX0_nameAtFirst 1 (some .long), Cond.methodLink RX0 55 yX1_withLetter, Cond.static yX1_withLetter, Cond.initialized RX1, Cond.code yX1_withLetter cX1_withLetter 4 (some .long), Cond.methodLink RX2 86 yX0_eventCount, Cond.instanceMethod yX0_eventCount, Cond.selects RX0 yX0_eventCount yX0_eventCount, Cond.code yX0_eventCount cX0_eventCount 1 (some .int)]
def wsX2_find_r3 : List Cond := [Cond.fieldLink RX0 31 "ParishNames$Chronicle" "told" "I", Cond.methodLink RX2 196 yX0_sitesThrough, Cond.instanceMethod yX0_sitesThrough, Cond.selects RX0 yX0_sitesThrough yX0_sitesThrough, Cond.code yX0_sitesThrough cX0_sitesThrough 4 (some .int), Cond.fieldLink RX0 18 "ParishNames$Chronicle" "parishes" "[I", Cond.fieldLink RX0 21 "ParishNames$Chronicle" "sets" "[I", Cond.fieldLink RX0 24 "ParishNames$Chronicle" "owners" "[I", Cond.methodLink RX2 200 yX0_nameThrough, Cond.instanceMethod yX0_nameThrough, Cond.selects RX0 yX0_nameThrough yX0_nameThrough, Cond.code yX0_nameThrough cX0_nameThrough 5 (some .long), Cond.fieldLink RX0 9 "ParishNames$Chronicle" "kinds" "[I", Cond.fieldLink RX0 27 "ParishNames$Chronicle" "names" "[J", Cond.methodLink RX2 141 yX0_firstYear, Cond.instanceMethod yX0_firstYear, Cond.selects RX0 yX0_firstYear yX0_firstYear, Cond.code yX0_firstYear cX0_firstYear 2 (some .int), Cond.fieldLink RX0 15 "ParishNames$Chronicle" "years" "[I", Cond.methodLink RX2 149 yX0_lastYear, Cond.instanceMethod yX0_lastYear, Cond.selects RX0 yX0_lastYear yX0_lastYear, Cond.code yX0_lastYear cX0_lastYear 2 (some .int), Cond.methodLink RX2 158 yX1_areAlike]
def wsX2_find_r4 : List Cond := [Cond.instanceMethod yX1_areAlike, Cond.selects RX1 yX1_areAlike yX1_areAlike, Cond.code yX1_areAlike cX1_areAlike 6 (some .boolean), Cond.methodLink RX1 31 yX1_soundOf, Cond.static yX1_soundOf, Cond.code yX1_soundOf cX1_soundOf 8 (some .int), Cond.methodLink RX1 15 yX1_letterOf, Cond.static yX1_letterOf, Cond.code yX1_letterOf cX1_letterOf 3 (some .int), Cond.methodLink RX1 19 yX1_classOf, Cond.static yX1_classOf, Cond.code yX1_classOf cX1_classOf 1 (some .int), Cond.methodLink RX1 23 yX1_lengthOf, Cond.static yX1_lengthOf, Cond.code yX1_lengthOf cX1_lengthOf 3 (some .int), Cond.methodLink RX1 34 yX1_distance, Cond.instanceMethod yX1_distance, Cond.selects RX1 yX1_distance yX1_distance, Cond.code yX1_distance cX1_distance 11 (some .int), Cond.fieldLink RX1 9 "ParishNames$Speller" "row" "[I", Cond.methodLink RX1 38 Lib.Math.min.name]
def wsX2_find : List Cond := .code yX2_find cX2_find 7 (some .int) :: ((wsX2_find_r1 ++ (wsX2_find_r2 ++ (wsX2_find_r3 ++ wsX2_find_r4))) ++ wsX20 ++ wsX00 ++ wsX10)
def wsX2_called_r1 : List Cond := [Cond.fieldLink RX2 10 "ParishNames" "now" "LParishNames$Chronicle;", Cond.methodLink RX2 144 Lib.Math.max.name, Cond.static Lib.Math.max.name, Cond.initialized "java/lang/Math", Cond.code Lib.Math.max.name Lib.Math.max.code 2 (some .int), Cond.methodLink RX2 152 Lib.Math.min.name, Cond.static Lib.Math.min.name, Cond.code Lib.Math.min.name Lib.Math.min.code 2 (some .int), Cond.fieldLink RX2 23 "ParishNames" "speller" "LParishNames$Speller;", Cond.fieldLink RX2 31 "ParishNames" "pad" "J", Cond.methodLink RX2 96 yX2_isSite, Cond.static yX2_isSite, Cond.initialized RX2, Cond.code yX2_isSite cX2_isSite 1 (some .boolean), Cond.methodLink RX2 131 yX2_areYears, Cond.static yX2_areYears, Cond.code yX2_areYears cX2_areYears 2 (some .boolean), Cond.methodLink RX2 47 yX2_isYear, Cond.static yX2_isYear, Cond.code yX2_isYear cX2_isYear 1 (some .boolean), Cond.methodLink RX2 134 yX2_isHow, Cond.static yX2_isHow, Cond.code yX2_isHow cX2_isHow 1 (some .boolean), Cond.methodLink RX2 50 yX2_padIsNoName]
def wsX2_called_r2 : List Cond := [Cond.instanceMethod yX2_padIsNoName, Cond.selects RX2 yX2_padIsNoName yX2_padIsNoName, Cond.code yX2_padIsNoName cX2_padIsNoName 1 (some .boolean), Cond.methodLink RX2 86 yX0_eventCount, Cond.instanceMethod yX0_eventCount, Cond.selects RX0 yX0_eventCount yX0_eventCount, Cond.initialized RX0, Cond.code yX0_eventCount cX0_eventCount 1 (some .int), Cond.fieldLink RX0 31 "ParishNames$Chronicle" "told" "I", Cond.methodLink RX2 141 yX0_firstYear, Cond.instanceMethod yX0_firstYear, Cond.selects RX0 yX0_firstYear yX0_firstYear, Cond.code yX0_firstYear cX0_firstYear 2 (some .int), Cond.fieldLink RX0 15 "ParishNames$Chronicle" "years" "[I", Cond.methodLink RX2 149 yX0_lastYear, Cond.instanceMethod yX0_lastYear, Cond.selects RX0 yX0_lastYear yX0_lastYear, Cond.code yX0_lastYear cX0_lastYear 2 (some .int), Cond.methodLink RX2 155 yX0_nameAt, Cond.instanceMethod yX0_nameAt, Cond.selects RX0 yX0_nameAt yX0_nameAt, Cond.code yX0_nameAt cX0_nameAt 3 (some .long), Cond.methodLink RX0 91 yX0_ownerBehind, Cond.instanceMethod yX0_ownerBehind]
def wsX2_called_r3 : List Cond := [Cond.selects RX0 yX0_ownerBehind yX0_ownerBehind, Cond.code yX0_ownerBehind cX0_ownerBehind 5 (some .int), Cond.fieldLink RX0 21 "ParishNames$Chronicle" "sets" "[I", Cond.fieldLink RX0 24 "ParishNames$Chronicle" "owners" "[I", Cond.static yX2_has, Cond.code yX2_has cX2_has 2 (some .boolean), Cond.methodLink RX0 87 yX0_nameBehind, Cond.instanceMethod yX0_nameBehind, Cond.selects RX0 yX0_nameBehind yX0_nameBehind, Cond.code yX0_nameBehind cX0_nameBehind 6 (some .long), Cond.methodLink RX0 68 yX0_nameAtFirst, Cond.static yX0_nameAtFirst, Cond.code yX0_nameAtFirst cX0_nameAtFirst 1 (some .long), Cond.methodLink RX0 55 yX1_withLetter, Cond.static yX1_withLetter, Cond.initialized RX1, Cond.code yX1_withLetter cX1_withLetter 4 (some .long), Cond.methodLink RX0 72 yX0_nameThrough, Cond.instanceMethod yX0_nameThrough, Cond.selects RX0 yX0_nameThrough yX0_nameThrough, Cond.code yX0_nameThrough cX0_nameThrough 5 (some .long), Cond.fieldLink RX0 9 "ParishNames$Chronicle" "kinds" "[I", Cond.fieldLink RX0 18 "ParishNames$Chronicle" "parishes" "[I", Cond.fieldLink RX0 27 "ParishNames$Chronicle" "names" "[J"]
def wsX2_called_r4 : List Cond := [Cond.methodLink RX2 158 yX1_areAlike, Cond.instanceMethod yX1_areAlike, Cond.selects RX1 yX1_areAlike yX1_areAlike, Cond.code yX1_areAlike cX1_areAlike 6 (some .boolean), Cond.methodLink RX1 31 yX1_soundOf, Cond.static yX1_soundOf, Cond.code yX1_soundOf cX1_soundOf 8 (some .int), Cond.methodLink RX1 15 yX1_letterOf, Cond.static yX1_letterOf, Cond.code yX1_letterOf cX1_letterOf 3 (some .int), Cond.methodLink RX1 19 yX1_classOf, Cond.static yX1_classOf, Cond.code yX1_classOf cX1_classOf 1 (some .int), Cond.methodLink RX1 23 yX1_lengthOf, Cond.static yX1_lengthOf, Cond.code yX1_lengthOf cX1_lengthOf 3 (some .int), Cond.methodLink RX1 34 yX1_distance, Cond.instanceMethod yX1_distance, Cond.selects RX1 yX1_distance yX1_distance, Cond.code yX1_distance cX1_distance 11 (some .int), Cond.fieldLink RX1 9 "ParishNames$Speller" "row" "[I", Cond.methodLink RX1 38 Lib.Math.min.name]
def wsX2_called : List Cond := .code yX2_called cX2_called 12 (some .int) :: ((wsX2_called_r1 ++ (wsX2_called_r2 ++ (wsX2_called_r3 ++ wsX2_called_r4))) ++ wsX20 ++ wsX00 ++ wsX10)
def wsX2_off_r1 : List Cond := [Cond.fieldLink RX2 10 "ParishNames" "now" "LParishNames$Chronicle;", Cond.fieldLink RX2 23 "ParishNames" "speller" "LParishNames$Speller;", Cond.fieldLink RX2 31 "ParishNames" "pad" "J", Cond.methodLink RX2 43 yX0_knows, Cond.instanceMethod yX0_knows, Cond.selects RX0 yX0_knows yX0_knows, Cond.initialized RX0, Cond.code yX0_knows cX0_knows 2 (some .boolean), Cond.fieldLink RX0 35 "ParishNames$Chronicle" "founded" "I", Cond.methodLink RX2 47 yX2_isYear, Cond.static yX2_isYear, Cond.initialized RX2, Cond.code yX2_isYear cX2_isYear 1 (some .boolean), Cond.methodLink RX2 50 yX2_padIsNoName, Cond.instanceMethod yX2_padIsNoName, Cond.selects RX2 yX2_padIsNoName yX2_padIsNoName, Cond.code yX2_padIsNoName cX2_padIsNoName 1 (some .boolean), Cond.methodLink RX2 108 yX0_nameIn, Cond.instanceMethod yX0_nameIn, Cond.selects RX0 yX0_nameIn yX0_nameIn, Cond.code yX0_nameIn cX0_nameIn 4 (some .long), Cond.methodLink RX0 84 yX0_stageIn, Cond.instanceMethod yX0_stageIn, Cond.selects RX0 yX0_stageIn yX0_stageIn]
def wsX2_off_r2 : List Cond := [Cond.code yX0_stageIn cX0_stageIn 3 (some .int), Cond.fieldLink RX0 31 "ParishNames$Chronicle" "told" "I", Cond.fieldLink RX0 15 "ParishNames$Chronicle" "years" "[I", Cond.methodLink RX0 80 yX0_sitesBehind, Cond.instanceMethod yX0_sitesBehind, Cond.selects RX0 yX0_sitesBehind yX0_sitesBehind, Cond.code yX0_sitesBehind cX0_sitesBehind 5 (some .int), Cond.methodLink RX0 61 yX0_sitesAtFirst, Cond.static yX0_sitesAtFirst, Cond.code yX0_sitesAtFirst cX0_sitesAtFirst 1 (some .int), Cond.methodLink RX0 64 yX0_sitesThrough, Cond.instanceMethod yX0_sitesThrough, Cond.selects RX0 yX0_sitesThrough yX0_sitesThrough, Cond.code yX0_sitesThrough cX0_sitesThrough 4 (some .int), Cond.fieldLink RX0 18 "ParishNames$Chronicle" "parishes" "[I", Cond.fieldLink RX0 21 "ParishNames$Chronicle" "sets" "[I", Cond.fieldLink RX0 24 "ParishNames$Chronicle" "owners" "[I", Cond.methodLink RX0 87 yX0_nameBehind, Cond.instanceMethod yX0_nameBehind, Cond.selects RX0 yX0_nameBehind yX0_nameBehind, Cond.code yX0_nameBehind cX0_nameBehind 6 (some .long), Cond.methodLink RX0 68 yX0_nameAtFirst, Cond.static yX0_nameAtFirst, Cond.code yX0_nameAtFirst cX0_nameAtFirst 1 (some .long)]
def wsX2_off_r3 : List Cond := [Cond.methodLink RX0 55 yX1_withLetter, Cond.static yX1_withLetter, Cond.initialized RX1, Cond.code yX1_withLetter cX1_withLetter 4 (some .long), Cond.methodLink RX0 72 yX0_nameThrough, Cond.instanceMethod yX0_nameThrough, Cond.selects RX0 yX0_nameThrough yX0_nameThrough, Cond.code yX0_nameThrough cX0_nameThrough 5 (some .long), Cond.fieldLink RX0 9 "ParishNames$Chronicle" "kinds" "[I", Cond.fieldLink RX0 27 "ParishNames$Chronicle" "names" "[J", Cond.methodLink RX2 162 yX1_distance, Cond.instanceMethod yX1_distance, Cond.selects RX1 yX1_distance yX1_distance, Cond.code yX1_distance cX1_distance 11 (some .int), Cond.fieldLink RX1 9 "ParishNames$Speller" "row" "[I", Cond.methodLink RX1 38 Lib.Math.min.name, Cond.static Lib.Math.min.name, Cond.initialized "java/lang/Math", Cond.code Lib.Math.min.name Lib.Math.min.code 2 (some .int), Cond.methodLink RX1 23 yX1_lengthOf, Cond.static yX1_lengthOf, Cond.code yX1_lengthOf cX1_lengthOf 3 (some .int), Cond.methodLink RX1 15 yX1_letterOf, Cond.static yX1_letterOf]
def wsX2_off_r4 : List Cond := [Cond.code yX1_letterOf cX1_letterOf 3 (some .int)]
def wsX2_off : List Cond := .code yX2_off cX2_off 5 (some .int) :: ((wsX2_off_r1 ++ (wsX2_off_r2 ++ (wsX2_off_r3 ++ wsX2_off_r4))) ++ wsX20 ++ wsX00 ++ wsX10)
def wsX2_spanFact : List Cond := .code yX2_spanFact cX2_spanFact 5 (some .int) :: ([.fieldLink RX2 10 "ParishNames" "now" "LParishNames$Chronicle;", .methodLink RX2 141 yX0_firstYear, .instanceMethod yX0_firstYear, .selects RX0 yX0_firstYear yX0_firstYear, .initialized RX0, .code yX0_firstYear cX0_firstYear 2 (some .int), .fieldLink RX0 31 "ParishNames$Chronicle" "told" "I", .fieldLink RX0 15 "ParishNames$Chronicle" "years" "[I", .methodLink RX2 102 yX0_ownerBehind, .instanceMethod yX0_ownerBehind, .selects RX0 yX0_ownerBehind yX0_ownerBehind, .code yX0_ownerBehind cX0_ownerBehind 5 (some .int), .fieldLink RX0 21 "ParishNames$Chronicle" "sets" "[I", .fieldLink RX0 24 "ParishNames$Chronicle" "owners" "[I", .static yX2_has, .initialized RX2, .code yX2_has cX2_has 2 (some .boolean), .methodLink RX2 86 yX0_eventCount, .instanceMethod yX0_eventCount, .selects RX0 yX0_eventCount yX0_eventCount, .code yX0_eventCount cX0_eventCount 1 (some .int)] ++ wsX20 ++ wsX00)
def wsX2_span_r1 : List Cond := [Cond.fieldLink RX2 10 "ParishNames" "now" "LParishNames$Chronicle;", Cond.methodLink RX2 96 yX2_isSite, Cond.static yX2_isSite, Cond.initialized RX2, Cond.code yX2_isSite cX2_isSite 1 (some .boolean), Cond.methodLink RX2 99 yX0_stageIn, Cond.instanceMethod yX0_stageIn, Cond.selects RX0 yX0_stageIn yX0_stageIn, Cond.initialized RX0, Cond.code yX0_stageIn cX0_stageIn 3 (some .int), Cond.fieldLink RX0 31 "ParishNames$Chronicle" "told" "I", Cond.fieldLink RX0 15 "ParishNames$Chronicle" "years" "[I", Cond.methodLink RX2 86 yX0_eventCount, Cond.instanceMethod yX0_eventCount, Cond.selects RX0 yX0_eventCount yX0_eventCount, Cond.code yX0_eventCount cX0_eventCount 1 (some .int), Cond.methodLink RX2 166 yX0_nextSpan, Cond.instanceMethod yX0_nextSpan, Cond.selects RX0 yX0_nextSpan yX0_nextSpan, Cond.code yX0_nextSpan cX0_nextSpan 8 (some .int), Cond.methodLink RX0 91 yX0_ownerBehind, Cond.instanceMethod yX0_ownerBehind, Cond.selects RX0 yX0_ownerBehind yX0_ownerBehind, Cond.code yX0_ownerBehind cX0_ownerBehind 5 (some .int)]
def wsX2_span_r2 : List Cond := [Cond.fieldLink RX0 21 "ParishNames$Chronicle" "sets" "[I", Cond.fieldLink RX0 24 "ParishNames$Chronicle" "owners" "[I", Cond.static yX2_has, Cond.code yX2_has cX2_has 2 (some .boolean), Cond.methodLink RX0 87 yX0_nameBehind, Cond.instanceMethod yX0_nameBehind, Cond.selects RX0 yX0_nameBehind yX0_nameBehind, Cond.code yX0_nameBehind cX0_nameBehind 6 (some .long), Cond.methodLink RX0 68 yX0_nameAtFirst, Cond.static yX0_nameAtFirst, Cond.code yX0_nameAtFirst cX0_nameAtFirst 1 (some .long), Cond.methodLink RX0 55 yX1_withLetter, Cond.static yX1_withLetter, Cond.initialized RX1, Cond.code yX1_withLetter cX1_withLetter 4 (some .long), Cond.methodLink RX0 72 yX0_nameThrough, Cond.instanceMethod yX0_nameThrough, Cond.selects RX0 yX0_nameThrough yX0_nameThrough, Cond.code yX0_nameThrough cX0_nameThrough 5 (some .long), Cond.fieldLink RX0 9 "ParishNames$Chronicle" "kinds" "[I", Cond.fieldLink RX0 18 "ParishNames$Chronicle" "parishes" "[I", Cond.fieldLink RX0 27 "ParishNames$Chronicle" "names" "[J", Cond.methodLink RX0 94 yX0_holdsInAYear, Cond.instanceMethod yX0_holdsInAYear]
def wsX2_span_r3 : List Cond := [Cond.selects RX0 yX0_holdsInAYear yX0_holdsInAYear, Cond.code yX0_holdsInAYear cX0_holdsInAYear 2 (some .boolean), Cond.methodLink RX0 48 yX0_firstYear, Cond.instanceMethod yX0_firstYear, Cond.selects RX0 yX0_firstYear yX0_firstYear, Cond.code yX0_firstYear cX0_firstYear 2 (some .int), Cond.methodLink RX0 52 yX0_lastYear, Cond.instanceMethod yX0_lastYear, Cond.selects RX0 yX0_lastYear yX0_lastYear, Cond.code yX0_lastYear cX0_lastYear 2 (some .int), Cond.methodLink RX2 169 yX2_spanFact, Cond.instanceMethod yX2_spanFact, Cond.selects RX2 yX2_spanFact yX2_spanFact, Cond.code yX2_spanFact cX2_spanFact 5 (some .int), Cond.methodLink RX2 141 yX0_firstYear, Cond.methodLink RX2 102 yX0_ownerBehind]
def wsX2_span : List Cond := .code yX2_span cX2_span 8 (some .int) :: ((wsX2_span_r1 ++ (wsX2_span_r2 ++ wsX2_span_r3)) ++ wsX20 ++ wsX00)
def wsX2_heirs_r1 : List Cond := [Cond.fieldLink RX2 10 "ParishNames" "now" "LParishNames$Chronicle;", Cond.methodLink RX2 43 yX0_knows, Cond.instanceMethod yX0_knows, Cond.selects RX0 yX0_knows yX0_knows, Cond.initialized RX0, Cond.code yX0_knows cX0_knows 2 (some .boolean), Cond.fieldLink RX0 35 "ParishNames$Chronicle" "founded" "I", Cond.methodLink RX2 47 yX2_isYear, Cond.static yX2_isYear, Cond.initialized RX2, Cond.code yX2_isYear cX2_isYear 1 (some .boolean), Cond.methodLink RX2 99 yX0_stageIn, Cond.instanceMethod yX0_stageIn, Cond.selects RX0 yX0_stageIn yX0_stageIn, Cond.code yX0_stageIn cX0_stageIn 3 (some .int), Cond.fieldLink RX0 31 "ParishNames$Chronicle" "told" "I", Cond.fieldLink RX0 15 "ParishNames$Chronicle" "years" "[I", Cond.methodLink RX2 105 yX0_sitesBehind, Cond.instanceMethod yX0_sitesBehind, Cond.selects RX0 yX0_sitesBehind yX0_sitesBehind, Cond.code yX0_sitesBehind cX0_sitesBehind 5 (some .int), Cond.methodLink RX0 61 yX0_sitesAtFirst, Cond.static yX0_sitesAtFirst, Cond.code yX0_sitesAtFirst cX0_sitesAtFirst 1 (some .int)]
def wsX2_heirs_r2 : List Cond := [Cond.methodLink RX0 64 yX0_sitesThrough, Cond.instanceMethod yX0_sitesThrough, Cond.selects RX0 yX0_sitesThrough yX0_sitesThrough, Cond.code yX0_sitesThrough cX0_sitesThrough 4 (some .int), Cond.fieldLink RX0 18 "ParishNames$Chronicle" "parishes" "[I", Cond.fieldLink RX0 21 "ParishNames$Chronicle" "sets" "[I", Cond.fieldLink RX0 24 "ParishNames$Chronicle" "owners" "[I", Cond.methodLink RX2 173 yX2_has, Cond.static yX2_has, Cond.code yX2_has cX2_has 2 (some .boolean), Cond.methodLink RX2 102 yX0_ownerBehind, Cond.instanceMethod yX0_ownerBehind, Cond.selects RX0 yX0_ownerBehind yX0_ownerBehind, Cond.code yX0_ownerBehind cX0_ownerBehind 5 (some .int)]
def wsX2_heirs : List Cond := .code yX2_heirs cX2_heirs 8 (some .int) :: ((wsX2_heirs_r1 ++ wsX2_heirs_r2) ++ wsX20 ++ wsX00)
def wsX2_image : List Cond := .code yX2_image cX2_image 2 (some .int) :: ([.fieldLink RX2 16 "ParishNames" "kept" "[LParishNames$Chronicle;", .fieldLink RX2 10 "ParishNames" "now" "LParishNames$Chronicle;", .fieldLink RX2 27 "ParishNames" "keptSet" "I", .methodLink RX2 176 yX0_becomeLike, .instanceMethod yX0_becomeLike, .selects RX0 yX0_becomeLike yX0_becomeLike, .initialized RX0, .code yX0_becomeLike cX0_becomeLike 2 none, .fieldLink RX0 9 "ParishNames$Chronicle" "kinds" "[I", .methodLink RX0 42 arraycopyName, .native arraycopyName, .static arraycopyName, .initialized "java/lang/System", .fieldLink RX0 15 "ParishNames$Chronicle" "years" "[I", .fieldLink RX0 18 "ParishNames$Chronicle" "parishes" "[I", .fieldLink RX0 21 "ParishNames$Chronicle" "sets" "[I", .fieldLink RX0 24 "ParishNames$Chronicle" "owners" "[I", .fieldLink RX0 27 "ParishNames$Chronicle" "names" "[J", .fieldLink RX0 31 "ParishNames$Chronicle" "told" "I", .fieldLink RX0 35 "ParishNames$Chronicle" "founded" "I"] ++ wsX20 ++ wsX00)
def wsX2_restore : List Cond := .code yX2_restore cX2_restore 2 (some .int) :: ([.fieldLink RX2 27 "ParishNames" "keptSet" "I", .fieldLink RX2 10 "ParishNames" "now" "LParishNames$Chronicle;", .fieldLink RX2 16 "ParishNames" "kept" "[LParishNames$Chronicle;", .methodLink RX2 173 yX2_has, .static yX2_has, .initialized RX2, .code yX2_has cX2_has 2 (some .boolean), .methodLink RX2 176 yX0_becomeLike, .instanceMethod yX0_becomeLike, .selects RX0 yX0_becomeLike yX0_becomeLike, .initialized RX0, .code yX0_becomeLike cX0_becomeLike 2 none, .fieldLink RX0 9 "ParishNames$Chronicle" "kinds" "[I", .methodLink RX0 42 arraycopyName, .native arraycopyName, .static arraycopyName, .initialized "java/lang/System", .fieldLink RX0 15 "ParishNames$Chronicle" "years" "[I", .fieldLink RX0 18 "ParishNames$Chronicle" "parishes" "[I", .fieldLink RX0 21 "ParishNames$Chronicle" "sets" "[I", .fieldLink RX0 24 "ParishNames$Chronicle" "owners" "[I", .fieldLink RX0 27 "ParishNames$Chronicle" "names" "[J", .fieldLink RX0 31 "ParishNames$Chronicle" "told" "I", .fieldLink RX0 35 "ParishNames$Chronicle" "founded" "I"] ++ wsX20 ++ wsX00)
def wsX2_count_r1 : List Cond := [Cond.fieldLink RX2 10 "ParishNames" "now" "LParishNames$Chronicle;", Cond.fieldLink RX2 31 "ParishNames" "pad" "J", Cond.fieldLink RX2 27 "ParishNames" "keptSet" "I", Cond.methodLink RX2 86 yX0_eventCount, Cond.instanceMethod yX0_eventCount, Cond.selects RX0 yX0_eventCount yX0_eventCount, Cond.initialized RX0, Cond.code yX0_eventCount cX0_eventCount 1 (some .int), Cond.fieldLink RX0 31 "ParishNames$Chronicle" "told" "I", Cond.methodLink RX2 83 yX0_parishCount, Cond.instanceMethod yX0_parishCount, Cond.selects RX0 yX0_parishCount yX0_parishCount, Cond.code yX0_parishCount cX0_parishCount 1 (some .int), Cond.fieldLink RX0 35 "ParishNames$Chronicle" "founded" "I", Cond.methodLink RX2 35 yX1_lengthOf, Cond.static yX1_lengthOf, Cond.initialized RX1, Cond.code yX1_lengthOf cX1_lengthOf 3 (some .int), Cond.methodLink RX1 15 yX1_letterOf, Cond.static yX1_letterOf, Cond.code yX1_letterOf cX1_letterOf 3 (some .int), Cond.methodLink RX2 54 yX0_yearOfLast, Cond.instanceMethod yX0_yearOfLast, Cond.selects RX0 yX0_yearOfLast yX0_yearOfLast]
def wsX2_count_r2 : List Cond := [Cond.code yX0_yearOfLast cX0_yearOfLast 1 (some .int), Cond.fieldLink RX0 15 "ParishNames$Chronicle" "years" "[I", Cond.methodLink RX2 180 yX0_parishesNow, Cond.instanceMethod yX0_parishesNow, Cond.selects RX0 yX0_parishesNow yX0_parishesNow, Cond.code yX0_parishesNow cX0_parishesNow 3 (some .int), Cond.methodLink RX0 103 yX0_sitesNow, Cond.instanceMethod yX0_sitesNow, Cond.selects RX0 yX0_sitesNow yX0_sitesNow, Cond.code yX0_sitesNow cX0_sitesNow 2 (some .int), Cond.methodLink RX0 80 yX0_sitesBehind, Cond.instanceMethod yX0_sitesBehind, Cond.selects RX0 yX0_sitesBehind yX0_sitesBehind, Cond.code yX0_sitesBehind cX0_sitesBehind 5 (some .int), Cond.methodLink RX0 61 yX0_sitesAtFirst, Cond.static yX0_sitesAtFirst, Cond.code yX0_sitesAtFirst cX0_sitesAtFirst 1 (some .int), Cond.methodLink RX0 64 yX0_sitesThrough, Cond.instanceMethod yX0_sitesThrough, Cond.selects RX0 yX0_sitesThrough yX0_sitesThrough, Cond.code yX0_sitesThrough cX0_sitesThrough 4 (some .int), Cond.fieldLink RX0 18 "ParishNames$Chronicle" "parishes" "[I", Cond.fieldLink RX0 21 "ParishNames$Chronicle" "sets" "[I", Cond.fieldLink RX0 24 "ParishNames$Chronicle" "owners" "[I"]
def wsX2_count_r3 : List Cond := [Cond.methodLink RX2 183 yX0_unlikeNamesNow, Cond.instanceMethod yX0_unlikeNamesNow, Cond.selects RX0 yX0_unlikeNamesNow yX0_unlikeNamesNow, Cond.code yX0_unlikeNamesNow cX0_unlikeNamesNow 3 (some .int), Cond.methodLink RX0 106 yX0_isNameOfLesser, Cond.instanceMethod yX0_isNameOfLesser, Cond.selects RX0 yX0_isNameOfLesser yX0_isNameOfLesser, Cond.code yX0_isNameOfLesser cX0_isNameOfLesser 5 (some .boolean), Cond.methodLink RX0 87 yX0_nameBehind, Cond.instanceMethod yX0_nameBehind, Cond.selects RX0 yX0_nameBehind yX0_nameBehind, Cond.code yX0_nameBehind cX0_nameBehind 6 (some .long), Cond.methodLink RX0 68 yX0_nameAtFirst, Cond.static yX0_nameAtFirst, Cond.code yX0_nameAtFirst cX0_nameAtFirst 1 (some .long), Cond.methodLink RX0 55 yX1_withLetter, Cond.static yX1_withLetter, Cond.code yX1_withLetter cX1_withLetter 4 (some .long), Cond.methodLink RX0 72 yX0_nameThrough, Cond.instanceMethod yX0_nameThrough, Cond.selects RX0 yX0_nameThrough yX0_nameThrough, Cond.code yX0_nameThrough cX0_nameThrough 5 (some .long), Cond.fieldLink RX0 9 "ParishNames$Chronicle" "kinds" "[I", Cond.fieldLink RX0 27 "ParishNames$Chronicle" "names" "[J"]
def wsX2_count_r4 : List Cond := [Cond.methodLink RX2 186 yX0_eventsOfKind, Cond.instanceMethod yX0_eventsOfKind, Cond.selects RX0 yX0_eventsOfKind yX0_eventsOfKind, Cond.code yX0_eventsOfKind cX0_eventsOfKind 4 (some .int)]
def wsX2_count : List Cond := .code yX2_count cX2_count 2 (some .int) :: ((wsX2_count_r1 ++ (wsX2_count_r2 ++ (wsX2_count_r3 ++ wsX2_count_r4))) ++ wsX20 ++ wsX00)
def wsX3_init : List Cond := .code yX3_init cX3_init 1 none :: ([.methodLink RX3 1 objectInit, .instanceMethod objectInit, .code objectInit ⟨#[0xb1]⟩ 1 none, .arrayClass .int, .fieldLink RX3 7 "ParishNamesModel" "state" "[I", .fieldLink RX3 13 "ParishNamesModel" "images" "[I", .arrayClass .boolean, .fieldLink RX3 16 "ParishNamesModel" "isKept" "[Z", .fieldLink RX3 20 "ParishNamesModel" "pad" "[I", .fieldLink RX3 23 "ParishNamesModel" "owner" "[I", .fieldLink RX3 26 "ParishNamesModel" "namedBy" "[I", .fieldLink RX3 29 "ParishNamesModel" "first" "[I", .fieldLink RX3 32 "ParishNamesModel" "second" "[I", .fieldLink RX3 35 "ParishNamesModel" "firstSound" "[I", .fieldLink RX3 38 "ParishNamesModel" "secondSound" "[I", .fieldLink RX3 41 "ParishNamesModel" "costs" "[I"] ++ wsX30)
def wsX3_in : List Cond := .code yX3_in cX3_in 3 (some .boolean) :: ([])
def wsX3_isParish : List Cond := .code yX3_isParish cX3_isParish 2 (some .boolean) :: ([.fieldLink RX3 7 "ParishNamesModel" "state" "[I", .methodLink RX3 44 yX3_in, .static yX3_in, .initialized RX3, .code yX3_in cX3_in 3 (some .boolean)] ++ wsX30)
def wsX3_isSite : List Cond := .code yX3_isSite cX3_isSite 1 (some .boolean) :: ([.methodLink RX3 44 yX3_in, .static yX3_in, .initialized RX3, .code yX3_in cX3_in 3 (some .boolean)])
def wsX3_isYear : List Cond := .code yX3_isYear cX3_isYear 1 (some .boolean) :: ([.methodLink RX3 44 yX3_in, .static yX3_in, .initialized RX3, .code yX3_in cX3_in 3 (some .boolean)])
def wsX3_bits : List Cond := .code yX3_bits cX3_bits 3 (some .int) :: ([])
def wsX3_say : List Cond := .code yX3_say cX3_say 2 (some .int) :: ([.fieldLink RX3 48 "ParishNamesModel" "said" "I", .fieldLink RX3 20 "ParishNamesModel" "pad" "[I", .methodLink RX3 44 yX3_in, .static yX3_in, .initialized RX3, .code yX3_in cX3_in 3 (some .boolean)] ++ wsX30)
def wsX3_wipe : List Cond := .code yX3_wipe cX3_wipe 2 (some .int) :: ([.fieldLink RX3 48 "ParishNamesModel" "said" "I"] ++ wsX30)
def wsX3_goThrough : List Cond := .code yX3_goThrough cX3_goThrough 4 none :: ([.fieldLink RX3 23 "ParishNamesModel" "owner" "[I", .fieldLink RX3 26 "ParishNamesModel" "namedBy" "[I", .fieldLink RX3 7 "ParishNamesModel" "state" "[I"] ++ wsX30)
def wsX3_goTo : List Cond := .code yX3_goTo cX3_goTo 3 none :: ([.fieldLink RX3 7 "ParishNamesModel" "state" "[I", .methodLink RX3 52 yX3_goThrough, .instanceMethod yX3_goThrough, .selects RX3 yX3_goThrough yX3_goThrough, .initialized RX3, .code yX3_goThrough cX3_goThrough 4 none, .fieldLink RX3 23 "ParishNamesModel" "owner" "[I", .fieldLink RX3 26 "ParishNamesModel" "namedBy" "[I"] ++ wsX30)
def wsX3_goToEnd : List Cond := .code yX3_goToEnd cX3_goToEnd 1 none :: ([.fieldLink RX3 7 "ParishNamesModel" "state" "[I", .methodLink RX3 52 yX3_goThrough, .instanceMethod yX3_goThrough, .selects RX3 yX3_goThrough yX3_goThrough, .initialized RX3, .code yX3_goThrough cX3_goThrough 4 none, .fieldLink RX3 23 "ParishNamesModel" "owner" "[I", .fieldLink RX3 26 "ParishNamesModel" "namedBy" "[I"] ++ wsX30)
def wsX3_sitesOf : List Cond := .code yX3_sitesOf cX3_sitesOf 4 (some .int) :: ([.fieldLink RX3 23 "ParishNamesModel" "owner" "[I"] ++ wsX30)
def wsX3_lettersOf : List Cond := .code yX3_lettersOf cX3_lettersOf 2 (some .int) :: ([.fieldLink RX3 26 "ParishNamesModel" "namedBy" "[I", .fieldLink RX3 7 "ParishNamesModel" "state" "[I"] ++ wsX30)
def wsX3_letterOf : List Cond := .code yX3_letterOf cX3_letterOf 3 (some .int) :: ([.fieldLink RX3 26 "ParishNamesModel" "namedBy" "[I", .fieldLink RX3 7 "ParishNamesModel" "state" "[I"] ++ wsX30)
def wsX3_lastYear : List Cond := .code yX3_lastYear cX3_lastYear 1 (some .int) :: ([.fieldLink RX3 7 "ParishNamesModel" "state" "[I"] ++ wsX30)
def wsX3_add : List Cond := .code yX3_add cX3_add 7 none :: ([.fieldLink RX3 7 "ParishNamesModel" "state" "[I"] ++ wsX30)
def wsX3_takeName : List Cond := .code yX3_takeName cX3_takeName 3 none :: ([.fieldLink RX3 48 "ParishNamesModel" "said" "I", .fieldLink RX3 7 "ParishNamesModel" "state" "[I", .fieldLink RX3 20 "ParishNamesModel" "pad" "[I"] ++ wsX30)
def wsX3_name_r1 : List Cond := [Cond.fieldLink RX3 48 "ParishNamesModel" "said" "I", Cond.fieldLink RX3 7 "ParishNamesModel" "state" "[I", Cond.methodLink RX3 56 yX3_isParish, Cond.instanceMethod yX3_isParish, Cond.selects RX3 yX3_isParish yX3_isParish, Cond.initialized RX3, Cond.code yX3_isParish cX3_isParish 2 (some .boolean), Cond.methodLink RX3 44 yX3_in, Cond.static yX3_in, Cond.code yX3_in cX3_in 3 (some .boolean), Cond.methodLink RX3 60 yX3_isYear, Cond.static yX3_isYear, Cond.code yX3_isYear cX3_isYear 1 (some .boolean), Cond.methodLink RX3 63 yX3_lastYear, Cond.instanceMethod yX3_lastYear, Cond.selects RX3 yX3_lastYear yX3_lastYear, Cond.code yX3_lastYear cX3_lastYear 1 (some .int), Cond.methodLink RX3 67 yX3_goToEnd, Cond.instanceMethod yX3_goToEnd, Cond.selects RX3 yX3_goToEnd yX3_goToEnd, Cond.code yX3_goToEnd cX3_goToEnd 1 none, Cond.methodLink RX3 52 yX3_goThrough, Cond.instanceMethod yX3_goThrough, Cond.selects RX3 yX3_goThrough yX3_goThrough]
def wsX3_name_r2 : List Cond := [Cond.code yX3_goThrough cX3_goThrough 4 none, Cond.fieldLink RX3 23 "ParishNamesModel" "owner" "[I", Cond.fieldLink RX3 26 "ParishNamesModel" "namedBy" "[I", Cond.methodLink RX3 70 yX3_sitesOf, Cond.instanceMethod yX3_sitesOf, Cond.selects RX3 yX3_sitesOf yX3_sitesOf, Cond.code yX3_sitesOf cX3_sitesOf 4 (some .int), Cond.methodLink RX3 74 yX3_add, Cond.instanceMethod yX3_add, Cond.selects RX3 yX3_add yX3_add, Cond.code yX3_add cX3_add 7 none, Cond.methodLink RX3 78 yX3_takeName, Cond.instanceMethod yX3_takeName, Cond.selects RX3 yX3_takeName yX3_takeName, Cond.code yX3_takeName cX3_takeName 3 none, Cond.fieldLink RX3 20 "ParishNamesModel" "pad" "[I"]
def wsX3_name : List Cond := .code yX3_name cX3_name 4 (some .int) :: ((wsX3_name_r1 ++ wsX3_name_r2) ++ wsX30)
def wsX3_isSome : List Cond := .code yX3_isSome cX3_isSome 4 (some .boolean) :: ([.methodLink RX3 67 yX3_goToEnd, .instanceMethod yX3_goToEnd, .selects RX3 yX3_goToEnd yX3_goToEnd, .initialized RX3, .code yX3_goToEnd cX3_goToEnd 1 none, .fieldLink RX3 7 "ParishNamesModel" "state" "[I", .methodLink RX3 52 yX3_goThrough, .instanceMethod yX3_goThrough, .selects RX3 yX3_goThrough yX3_goThrough, .code yX3_goThrough cX3_goThrough 4 none, .fieldLink RX3 23 "ParishNamesModel" "owner" "[I", .fieldLink RX3 26 "ParishNamesModel" "namedBy" "[I", .methodLink RX3 70 yX3_sitesOf, .instanceMethod yX3_sitesOf, .selects RX3 yX3_sitesOf yX3_sitesOf, .code yX3_sitesOf cX3_sitesOf 4 (some .int)] ++ wsX30)
def wsX3_split_r1 : List Cond := [Cond.fieldLink RX3 48 "ParishNamesModel" "said" "I", Cond.fieldLink RX3 7 "ParishNamesModel" "state" "[I", Cond.methodLink RX3 56 yX3_isParish, Cond.instanceMethod yX3_isParish, Cond.selects RX3 yX3_isParish yX3_isParish, Cond.initialized RX3, Cond.code yX3_isParish cX3_isParish 2 (some .boolean), Cond.methodLink RX3 44 yX3_in, Cond.static yX3_in, Cond.code yX3_in cX3_in 3 (some .boolean), Cond.methodLink RX3 60 yX3_isYear, Cond.static yX3_isYear, Cond.code yX3_isYear cX3_isYear 1 (some .boolean), Cond.methodLink RX3 63 yX3_lastYear, Cond.instanceMethod yX3_lastYear, Cond.selects RX3 yX3_lastYear yX3_lastYear, Cond.code yX3_lastYear cX3_lastYear 1 (some .int), Cond.methodLink RX3 81 yX3_isSome, Cond.instanceMethod yX3_isSome, Cond.selects RX3 yX3_isSome yX3_isSome, Cond.code yX3_isSome cX3_isSome 4 (some .boolean), Cond.methodLink RX3 67 yX3_goToEnd, Cond.instanceMethod yX3_goToEnd, Cond.selects RX3 yX3_goToEnd yX3_goToEnd]
def wsX3_split_r2 : List Cond := [Cond.code yX3_goToEnd cX3_goToEnd 1 none, Cond.methodLink RX3 52 yX3_goThrough, Cond.instanceMethod yX3_goThrough, Cond.selects RX3 yX3_goThrough yX3_goThrough, Cond.code yX3_goThrough cX3_goThrough 4 none, Cond.fieldLink RX3 23 "ParishNamesModel" "owner" "[I", Cond.fieldLink RX3 26 "ParishNamesModel" "namedBy" "[I", Cond.methodLink RX3 70 yX3_sitesOf, Cond.instanceMethod yX3_sitesOf, Cond.selects RX3 yX3_sitesOf yX3_sitesOf, Cond.code yX3_sitesOf cX3_sitesOf 4 (some .int), Cond.methodLink RX3 74 yX3_add, Cond.instanceMethod yX3_add, Cond.selects RX3 yX3_add yX3_add, Cond.code yX3_add cX3_add 7 none, Cond.methodLink RX3 78 yX3_takeName, Cond.instanceMethod yX3_takeName, Cond.selects RX3 yX3_takeName yX3_takeName, Cond.code yX3_takeName cX3_takeName 3 none, Cond.fieldLink RX3 20 "ParishNamesModel" "pad" "[I"]
def wsX3_split : List Cond := .code yX3_split cX3_split 6 (some .int) :: ((wsX3_split_r1 ++ wsX3_split_r2) ++ wsX30)
def wsX3_merge_r1 : List Cond := [Cond.fieldLink RX3 7 "ParishNamesModel" "state" "[I", Cond.methodLink RX3 56 yX3_isParish, Cond.instanceMethod yX3_isParish, Cond.selects RX3 yX3_isParish yX3_isParish, Cond.initialized RX3, Cond.code yX3_isParish cX3_isParish 2 (some .boolean), Cond.methodLink RX3 44 yX3_in, Cond.static yX3_in, Cond.code yX3_in cX3_in 3 (some .boolean), Cond.methodLink RX3 60 yX3_isYear, Cond.static yX3_isYear, Cond.code yX3_isYear cX3_isYear 1 (some .boolean), Cond.methodLink RX3 63 yX3_lastYear, Cond.instanceMethod yX3_lastYear, Cond.selects RX3 yX3_lastYear yX3_lastYear, Cond.code yX3_lastYear cX3_lastYear 1 (some .int), Cond.methodLink RX3 67 yX3_goToEnd, Cond.instanceMethod yX3_goToEnd, Cond.selects RX3 yX3_goToEnd yX3_goToEnd, Cond.code yX3_goToEnd cX3_goToEnd 1 none, Cond.methodLink RX3 52 yX3_goThrough, Cond.instanceMethod yX3_goThrough, Cond.selects RX3 yX3_goThrough yX3_goThrough, Cond.code yX3_goThrough cX3_goThrough 4 none]
def wsX3_merge_r2 : List Cond := [Cond.fieldLink RX3 23 "ParishNamesModel" "owner" "[I", Cond.fieldLink RX3 26 "ParishNamesModel" "namedBy" "[I", Cond.methodLink RX3 70 yX3_sitesOf, Cond.instanceMethod yX3_sitesOf, Cond.selects RX3 yX3_sitesOf yX3_sitesOf, Cond.code yX3_sitesOf cX3_sitesOf 4 (some .int), Cond.methodLink RX3 74 yX3_add, Cond.instanceMethod yX3_add, Cond.selects RX3 yX3_add yX3_add, Cond.code yX3_add cX3_add 7 none]
def wsX3_merge : List Cond := .code yX3_merge cX3_merge 5 (some .int) :: ((wsX3_merge_r1 ++ wsX3_merge_r2) ++ wsX30)
def wsX3_shift_r1 : List Cond := [Cond.fieldLink RX3 7 "ParishNamesModel" "state" "[I", Cond.methodLink RX3 56 yX3_isParish, Cond.instanceMethod yX3_isParish, Cond.selects RX3 yX3_isParish yX3_isParish, Cond.initialized RX3, Cond.code yX3_isParish cX3_isParish 2 (some .boolean), Cond.methodLink RX3 44 yX3_in, Cond.static yX3_in, Cond.code yX3_in cX3_in 3 (some .boolean), Cond.methodLink RX3 60 yX3_isYear, Cond.static yX3_isYear, Cond.code yX3_isYear cX3_isYear 1 (some .boolean), Cond.methodLink RX3 63 yX3_lastYear, Cond.instanceMethod yX3_lastYear, Cond.selects RX3 yX3_lastYear yX3_lastYear, Cond.code yX3_lastYear cX3_lastYear 1 (some .int), Cond.methodLink RX3 81 yX3_isSome, Cond.instanceMethod yX3_isSome, Cond.selects RX3 yX3_isSome yX3_isSome, Cond.code yX3_isSome cX3_isSome 4 (some .boolean), Cond.methodLink RX3 67 yX3_goToEnd, Cond.instanceMethod yX3_goToEnd, Cond.selects RX3 yX3_goToEnd yX3_goToEnd, Cond.code yX3_goToEnd cX3_goToEnd 1 none]
def wsX3_shift_r2 : List Cond := [Cond.methodLink RX3 52 yX3_goThrough, Cond.instanceMethod yX3_goThrough, Cond.selects RX3 yX3_goThrough yX3_goThrough, Cond.code yX3_goThrough cX3_goThrough 4 none, Cond.fieldLink RX3 23 "ParishNamesModel" "owner" "[I", Cond.fieldLink RX3 26 "ParishNamesModel" "namedBy" "[I", Cond.methodLink RX3 70 yX3_sitesOf, Cond.instanceMethod yX3_sitesOf, Cond.selects RX3 yX3_sitesOf yX3_sitesOf, Cond.code yX3_sitesOf cX3_sitesOf 4 (some .int), Cond.methodLink RX3 74 yX3_add, Cond.instanceMethod yX3_add, Cond.selects RX3 yX3_add yX3_add, Cond.code yX3_add cX3_add 7 none]
def wsX3_shift : List Cond := .code yX3_shift cX3_shift 5 (some .int) :: ((wsX3_shift_r1 ++ wsX3_shift_r2) ++ wsX30)
def wsX3_undo : List Cond := .code yX3_undo cX3_undo 1 (some .int) :: ([.fieldLink RX3 7 "ParishNamesModel" "state" "[I"] ++ wsX30)
def wsX3_event : List Cond := .code yX3_event cX3_event 3 (some .int) :: ([.fieldLink RX3 7 "ParishNamesModel" "state" "[I", .methodLink RX3 44 yX3_in, .static yX3_in, .initialized RX3, .code yX3_in cX3_in 3 (some .boolean)] ++ wsX30)
def wsX3_at : List Cond := .code yX3_at cX3_at 3 (some .int) :: ([.fieldLink RX3 23 "ParishNamesModel" "owner" "[I", .methodLink RX3 85 yX3_isSite, .static yX3_isSite, .initialized RX3, .code yX3_isSite cX3_isSite 1 (some .boolean), .methodLink RX3 44 yX3_in, .static yX3_in, .code yX3_in cX3_in 3 (some .boolean), .methodLink RX3 60 yX3_isYear, .static yX3_isYear, .code yX3_isYear cX3_isYear 1 (some .boolean), .methodLink RX3 88 yX3_goTo, .instanceMethod yX3_goTo, .selects RX3 yX3_goTo yX3_goTo, .code yX3_goTo cX3_goTo 3 none, .fieldLink RX3 7 "ParishNamesModel" "state" "[I", .methodLink RX3 52 yX3_goThrough, .instanceMethod yX3_goThrough, .selects RX3 yX3_goThrough yX3_goThrough, .code yX3_goThrough cX3_goThrough 4 none, .fieldLink RX3 26 "ParishNamesModel" "namedBy" "[I"] ++ wsX30)
def wsX3_sites_r1 : List Cond := [Cond.methodLink RX3 56 yX3_isParish, Cond.instanceMethod yX3_isParish, Cond.selects RX3 yX3_isParish yX3_isParish, Cond.initialized RX3, Cond.code yX3_isParish cX3_isParish 2 (some .boolean), Cond.fieldLink RX3 7 "ParishNamesModel" "state" "[I", Cond.methodLink RX3 44 yX3_in, Cond.static yX3_in, Cond.code yX3_in cX3_in 3 (some .boolean), Cond.methodLink RX3 60 yX3_isYear, Cond.static yX3_isYear, Cond.code yX3_isYear cX3_isYear 1 (some .boolean), Cond.methodLink RX3 88 yX3_goTo, Cond.instanceMethod yX3_goTo, Cond.selects RX3 yX3_goTo yX3_goTo, Cond.code yX3_goTo cX3_goTo 3 none, Cond.methodLink RX3 52 yX3_goThrough, Cond.instanceMethod yX3_goThrough, Cond.selects RX3 yX3_goThrough yX3_goThrough, Cond.code yX3_goThrough cX3_goThrough 4 none, Cond.fieldLink RX3 23 "ParishNamesModel" "owner" "[I", Cond.fieldLink RX3 26 "ParishNamesModel" "namedBy" "[I", Cond.methodLink RX3 70 yX3_sitesOf, Cond.instanceMethod yX3_sitesOf]
def wsX3_sites_r2 : List Cond := [Cond.selects RX3 yX3_sitesOf yX3_sitesOf, Cond.code yX3_sitesOf cX3_sitesOf 4 (some .int)]
def wsX3_sites : List Cond := .code yX3_sites cX3_sites 3 (some .int) :: ((wsX3_sites_r1 ++ wsX3_sites_r2) ++ wsX30)
def wsX3_letter_r1 : List Cond := [Cond.methodLink RX3 56 yX3_isParish, Cond.instanceMethod yX3_isParish, Cond.selects RX3 yX3_isParish yX3_isParish, Cond.initialized RX3, Cond.code yX3_isParish cX3_isParish 2 (some .boolean), Cond.fieldLink RX3 7 "ParishNamesModel" "state" "[I", Cond.methodLink RX3 44 yX3_in, Cond.static yX3_in, Cond.code yX3_in cX3_in 3 (some .boolean), Cond.methodLink RX3 60 yX3_isYear, Cond.static yX3_isYear, Cond.code yX3_isYear cX3_isYear 1 (some .boolean), Cond.methodLink RX3 88 yX3_goTo, Cond.instanceMethod yX3_goTo, Cond.selects RX3 yX3_goTo yX3_goTo, Cond.code yX3_goTo cX3_goTo 3 none, Cond.methodLink RX3 52 yX3_goThrough, Cond.instanceMethod yX3_goThrough, Cond.selects RX3 yX3_goThrough yX3_goThrough, Cond.code yX3_goThrough cX3_goThrough 4 none, Cond.fieldLink RX3 23 "ParishNamesModel" "owner" "[I", Cond.fieldLink RX3 26 "ParishNamesModel" "namedBy" "[I", Cond.methodLink RX3 70 yX3_sitesOf, Cond.instanceMethod yX3_sitesOf]
def wsX3_letter_r2 : List Cond := [Cond.selects RX3 yX3_sitesOf yX3_sitesOf, Cond.code yX3_sitesOf cX3_sitesOf 4 (some .int), Cond.methodLink RX3 91 yX3_lettersOf, Cond.instanceMethod yX3_lettersOf, Cond.selects RX3 yX3_lettersOf yX3_lettersOf, Cond.code yX3_lettersOf cX3_lettersOf 2 (some .int), Cond.methodLink RX3 94 yX3_letterOf, Cond.instanceMethod yX3_letterOf, Cond.selects RX3 yX3_letterOf yX3_letterOf, Cond.code yX3_letterOf cX3_letterOf 3 (some .int)]
def wsX3_letter : List Cond := .code yX3_letter cX3_letter 4 (some .int) :: ((wsX3_letter_r1 ++ wsX3_letter_r2) ++ wsX30)
def wsX3_classOf : List Cond := .code yX3_classOf cX3_classOf 1 (some .int) :: ([])
def wsX3_laySound : List Cond := .code yX3_laySound cX3_laySound 6 (some .int) :: ([.methodLink RX3 98 yX3_classOf, .static yX3_classOf, .initialized RX3, .code yX3_classOf cX3_classOf 1 (some .int)])
def wsX3_layFirst : List Cond := .code yX3_layFirst cX3_layFirst 3 none :: ([.fieldLink RX3 101 "ParishNamesModel" "firstLong" "I", .fieldLink RX3 29 "ParishNamesModel" "first" "[I", .fieldLink RX3 35 "ParishNamesModel" "firstSound" "[I", .fieldLink RX3 108 "ParishNamesModel" "firstClasses" "I", .methodLink RX3 91 yX3_lettersOf, .instanceMethod yX3_lettersOf, .selects RX3 yX3_lettersOf yX3_lettersOf, .initialized RX3, .code yX3_lettersOf cX3_lettersOf 2 (some .int), .fieldLink RX3 26 "ParishNamesModel" "namedBy" "[I", .fieldLink RX3 7 "ParishNamesModel" "state" "[I", .methodLink RX3 94 yX3_letterOf, .instanceMethod yX3_letterOf, .selects RX3 yX3_letterOf yX3_letterOf, .code yX3_letterOf cX3_letterOf 3 (some .int), .methodLink RX3 104 yX3_laySound, .static yX3_laySound, .code yX3_laySound cX3_laySound 6 (some .int), .methodLink RX3 98 yX3_classOf, .static yX3_classOf, .code yX3_classOf cX3_classOf 1 (some .int)] ++ wsX30)
def wsX3_layPad : List Cond := .code yX3_layPad cX3_layPad 2 none :: ([.fieldLink RX3 48 "ParishNamesModel" "said" "I", .fieldLink RX3 111 "ParishNamesModel" "secondLong" "I", .fieldLink RX3 32 "ParishNamesModel" "second" "[I", .fieldLink RX3 20 "ParishNamesModel" "pad" "[I", .fieldLink RX3 38 "ParishNamesModel" "secondSound" "[I", .fieldLink RX3 114 "ParishNamesModel" "secondClasses" "I", .methodLink RX3 104 yX3_laySound, .static yX3_laySound, .initialized RX3, .code yX3_laySound cX3_laySound 6 (some .int), .methodLink RX3 98 yX3_classOf, .static yX3_classOf, .code yX3_classOf cX3_classOf 1 (some .int)] ++ wsX30)
def wsX3_areSame : List Cond := .code yX3_areSame cX3_areSame 3 (some .boolean) :: ([.fieldLink RX3 101 "ParishNamesModel" "firstLong" "I", .fieldLink RX3 111 "ParishNamesModel" "secondLong" "I", .fieldLink RX3 29 "ParishNamesModel" "first" "[I", .fieldLink RX3 32 "ParishNamesModel" "second" "[I"] ++ wsX30)
def wsX3_soundSame : List Cond := .code yX3_soundSame cX3_soundSame 3 (some .boolean) :: ([.fieldLink RX3 108 "ParishNamesModel" "firstClasses" "I", .fieldLink RX3 114 "ParishNamesModel" "secondClasses" "I", .fieldLink RX3 35 "ParishNamesModel" "firstSound" "[I", .fieldLink RX3 38 "ParishNamesModel" "secondSound" "[I"] ++ wsX30)
def wsX3_least : List Cond := .code yX3_least cX3_least 4 (some .int) :: ([])
def wsX3_offNow : List Cond := .code yX3_offNow cX3_offNow 5 (some .int) :: ([.fieldLink RX3 101 "ParishNamesModel" "firstLong" "I", .fieldLink RX3 111 "ParishNamesModel" "secondLong" "I", .fieldLink RX3 41 "ParishNamesModel" "costs" "[I", .fieldLink RX3 29 "ParishNamesModel" "first" "[I", .fieldLink RX3 32 "ParishNamesModel" "second" "[I", .methodLink RX3 117 yX3_least, .static yX3_least, .initialized RX3, .code yX3_least cX3_least 4 (some .int)] ++ wsX30)
def wsX3_isLike_r1 : List Cond := [Cond.methodLink RX3 121 yX3_layFirst, Cond.instanceMethod yX3_layFirst, Cond.selects RX3 yX3_layFirst yX3_layFirst, Cond.initialized RX3, Cond.code yX3_layFirst cX3_layFirst 3 none, Cond.fieldLink RX3 101 "ParishNamesModel" "firstLong" "I", Cond.fieldLink RX3 29 "ParishNamesModel" "first" "[I", Cond.fieldLink RX3 35 "ParishNamesModel" "firstSound" "[I", Cond.fieldLink RX3 108 "ParishNamesModel" "firstClasses" "I", Cond.methodLink RX3 91 yX3_lettersOf, Cond.instanceMethod yX3_lettersOf, Cond.selects RX3 yX3_lettersOf yX3_lettersOf, Cond.code yX3_lettersOf cX3_lettersOf 2 (some .int), Cond.fieldLink RX3 26 "ParishNamesModel" "namedBy" "[I", Cond.fieldLink RX3 7 "ParishNamesModel" "state" "[I", Cond.methodLink RX3 94 yX3_letterOf, Cond.instanceMethod yX3_letterOf, Cond.selects RX3 yX3_letterOf yX3_letterOf, Cond.code yX3_letterOf cX3_letterOf 3 (some .int), Cond.methodLink RX3 104 yX3_laySound, Cond.static yX3_laySound, Cond.code yX3_laySound cX3_laySound 6 (some .int), Cond.methodLink RX3 98 yX3_classOf, Cond.static yX3_classOf]
def wsX3_isLike_r2 : List Cond := [Cond.code yX3_classOf cX3_classOf 1 (some .int), Cond.methodLink RX3 124 yX3_areSame, Cond.instanceMethod yX3_areSame, Cond.selects RX3 yX3_areSame yX3_areSame, Cond.code yX3_areSame cX3_areSame 3 (some .boolean), Cond.fieldLink RX3 111 "ParishNamesModel" "secondLong" "I", Cond.fieldLink RX3 32 "ParishNamesModel" "second" "[I", Cond.methodLink RX3 128 yX3_soundSame, Cond.instanceMethod yX3_soundSame, Cond.selects RX3 yX3_soundSame yX3_soundSame, Cond.code yX3_soundSame cX3_soundSame 3 (some .boolean), Cond.fieldLink RX3 114 "ParishNamesModel" "secondClasses" "I", Cond.fieldLink RX3 38 "ParishNamesModel" "secondSound" "[I", Cond.methodLink RX3 131 yX3_offNow, Cond.instanceMethod yX3_offNow, Cond.selects RX3 yX3_offNow yX3_offNow, Cond.code yX3_offNow cX3_offNow 5 (some .int), Cond.fieldLink RX3 41 "ParishNamesModel" "costs" "[I", Cond.methodLink RX3 117 yX3_least, Cond.static yX3_least, Cond.code yX3_least cX3_least 4 (some .int)]
def wsX3_isLike : List Cond := .code yX3_isLike cX3_isLike 3 (some .boolean) :: ((wsX3_isLike_r1 ++ wsX3_isLike_r2) ++ wsX30)
def wsX3_sound_r1 : List Cond := [Cond.fieldLink RX3 108 "ParishNamesModel" "firstClasses" "I", Cond.fieldLink RX3 35 "ParishNamesModel" "firstSound" "[I", Cond.methodLink RX3 56 yX3_isParish, Cond.instanceMethod yX3_isParish, Cond.selects RX3 yX3_isParish yX3_isParish, Cond.initialized RX3, Cond.code yX3_isParish cX3_isParish 2 (some .boolean), Cond.fieldLink RX3 7 "ParishNamesModel" "state" "[I", Cond.methodLink RX3 44 yX3_in, Cond.static yX3_in, Cond.code yX3_in cX3_in 3 (some .boolean), Cond.methodLink RX3 60 yX3_isYear, Cond.static yX3_isYear, Cond.code yX3_isYear cX3_isYear 1 (some .boolean), Cond.methodLink RX3 88 yX3_goTo, Cond.instanceMethod yX3_goTo, Cond.selects RX3 yX3_goTo yX3_goTo, Cond.code yX3_goTo cX3_goTo 3 none, Cond.methodLink RX3 52 yX3_goThrough, Cond.instanceMethod yX3_goThrough, Cond.selects RX3 yX3_goThrough yX3_goThrough, Cond.code yX3_goThrough cX3_goThrough 4 none, Cond.fieldLink RX3 23 "ParishNamesModel" "owner" "[I", Cond.fieldLink RX3 26 "ParishNamesModel" "namedBy" "[I"]
def wsX3_sound_r2 : List Cond := [Cond.methodLink RX3 70 yX3_sitesOf, Cond.instanceMethod yX3_sitesOf, Cond.selects RX3 yX3_sitesOf yX3_sitesOf, Cond.code yX3_sitesOf cX3_sitesOf 4 (some .int), Cond.methodLink RX3 121 yX3_layFirst, Cond.instanceMethod yX3_layFirst, Cond.selects RX3 yX3_layFirst yX3_layFirst, Cond.code yX3_layFirst cX3_layFirst 3 none, Cond.fieldLink RX3 101 "ParishNamesModel" "firstLong" "I", Cond.fieldLink RX3 29 "ParishNamesModel" "first" "[I", Cond.methodLink RX3 91 yX3_lettersOf, Cond.instanceMethod yX3_lettersOf, Cond.selects RX3 yX3_lettersOf yX3_lettersOf, Cond.code yX3_lettersOf cX3_lettersOf 2 (some .int), Cond.methodLink RX3 94 yX3_letterOf, Cond.instanceMethod yX3_letterOf, Cond.selects RX3 yX3_letterOf yX3_letterOf, Cond.code yX3_letterOf cX3_letterOf 3 (some .int), Cond.methodLink RX3 104 yX3_laySound, Cond.static yX3_laySound, Cond.code yX3_laySound cX3_laySound 6 (some .int), Cond.methodLink RX3 98 yX3_classOf, Cond.static yX3_classOf, Cond.code yX3_classOf cX3_classOf 1 (some .int)]
def wsX3_sound : List Cond := .code yX3_sound cX3_sound 4 (some .int) :: ((wsX3_sound_r1 ++ wsX3_sound_r2) ++ wsX30)
def wsX3_toldOf : List Cond := .code yX3_toldOf cX3_toldOf 4 (some .int) :: ([.fieldLink RX3 7 "ParishNamesModel" "state" "[I"] ++ wsX30)
def wsX3_parish_r1 : List Cond := [Cond.methodLink RX3 56 yX3_isParish, Cond.instanceMethod yX3_isParish, Cond.selects RX3 yX3_isParish yX3_isParish, Cond.initialized RX3, Cond.code yX3_isParish cX3_isParish 2 (some .boolean), Cond.fieldLink RX3 7 "ParishNamesModel" "state" "[I", Cond.methodLink RX3 44 yX3_in, Cond.static yX3_in, Cond.code yX3_in cX3_in 3 (some .boolean), Cond.methodLink RX3 88 yX3_goTo, Cond.instanceMethod yX3_goTo, Cond.selects RX3 yX3_goTo yX3_goTo, Cond.code yX3_goTo cX3_goTo 3 none, Cond.methodLink RX3 52 yX3_goThrough, Cond.instanceMethod yX3_goThrough, Cond.selects RX3 yX3_goThrough yX3_goThrough, Cond.code yX3_goThrough cX3_goThrough 4 none, Cond.fieldLink RX3 23 "ParishNamesModel" "owner" "[I", Cond.fieldLink RX3 26 "ParishNamesModel" "namedBy" "[I", Cond.methodLink RX3 70 yX3_sitesOf, Cond.instanceMethod yX3_sitesOf, Cond.selects RX3 yX3_sitesOf yX3_sitesOf, Cond.code yX3_sitesOf cX3_sitesOf 4 (some .int), Cond.methodLink RX3 134 yX3_toldOf]
def wsX3_parish_r2 : List Cond := [Cond.instanceMethod yX3_toldOf, Cond.selects RX3 yX3_toldOf yX3_toldOf, Cond.code yX3_toldOf cX3_toldOf 4 (some .int), Cond.methodLink RX3 137 yX3_bits, Cond.static yX3_bits, Cond.code yX3_bits cX3_bits 3 (some .int)]
def wsX3_parish : List Cond := .code yX3_parish cX3_parish 9 (some .int) :: ((wsX3_parish_r1 ++ wsX3_parish_r2) ++ wsX30)
def wsX3_areYears : List Cond := .code yX3_areYears cX3_areYears 2 (some .boolean) :: ([.methodLink RX3 60 yX3_isYear, .static yX3_isYear, .initialized RX3, .code yX3_isYear cX3_isYear 1 (some .boolean), .methodLink RX3 44 yX3_in, .static yX3_in, .code yX3_in cX3_in 3 (some .boolean)])
def wsX3_find_r1 : List Cond := [Cond.fieldLink RX3 48 "ParishNamesModel" "said" "I", Cond.fieldLink RX3 7 "ParishNamesModel" "state" "[I", Cond.methodLink RX3 140 yX3_areYears, Cond.static yX3_areYears, Cond.initialized RX3, Cond.code yX3_areYears cX3_areYears 2 (some .boolean), Cond.methodLink RX3 60 yX3_isYear, Cond.static yX3_isYear, Cond.code yX3_isYear cX3_isYear 1 (some .boolean), Cond.methodLink RX3 44 yX3_in, Cond.static yX3_in, Cond.code yX3_in cX3_in 3 (some .boolean), Cond.methodLink RX3 143 yX3_layPad, Cond.instanceMethod yX3_layPad, Cond.selects RX3 yX3_layPad yX3_layPad, Cond.code yX3_layPad cX3_layPad 2 none, Cond.fieldLink RX3 111 "ParishNamesModel" "secondLong" "I", Cond.fieldLink RX3 32 "ParishNamesModel" "second" "[I", Cond.fieldLink RX3 20 "ParishNamesModel" "pad" "[I", Cond.fieldLink RX3 38 "ParishNamesModel" "secondSound" "[I", Cond.fieldLink RX3 114 "ParishNamesModel" "secondClasses" "I", Cond.methodLink RX3 104 yX3_laySound, Cond.static yX3_laySound, Cond.code yX3_laySound cX3_laySound 6 (some .int)]
def wsX3_find_r2 : List Cond := [Cond.methodLink RX3 98 yX3_classOf, Cond.static yX3_classOf, Cond.code yX3_classOf cX3_classOf 1 (some .int), Cond.methodLink RX3 88 yX3_goTo, Cond.instanceMethod yX3_goTo, Cond.selects RX3 yX3_goTo yX3_goTo, Cond.code yX3_goTo cX3_goTo 3 none, Cond.methodLink RX3 52 yX3_goThrough, Cond.instanceMethod yX3_goThrough, Cond.selects RX3 yX3_goThrough yX3_goThrough, Cond.code yX3_goThrough cX3_goThrough 4 none, Cond.fieldLink RX3 23 "ParishNamesModel" "owner" "[I", Cond.fieldLink RX3 26 "ParishNamesModel" "namedBy" "[I", Cond.methodLink RX3 70 yX3_sitesOf, Cond.instanceMethod yX3_sitesOf, Cond.selects RX3 yX3_sitesOf yX3_sitesOf, Cond.code yX3_sitesOf cX3_sitesOf 4 (some .int), Cond.methodLink RX3 146 yX3_isLike, Cond.instanceMethod yX3_isLike, Cond.selects RX3 yX3_isLike yX3_isLike, Cond.code yX3_isLike cX3_isLike 3 (some .boolean), Cond.methodLink RX3 121 yX3_layFirst, Cond.instanceMethod yX3_layFirst, Cond.selects RX3 yX3_layFirst yX3_layFirst]
def wsX3_find_r3 : List Cond := [Cond.code yX3_layFirst cX3_layFirst 3 none, Cond.fieldLink RX3 101 "ParishNamesModel" "firstLong" "I", Cond.fieldLink RX3 29 "ParishNamesModel" "first" "[I", Cond.fieldLink RX3 35 "ParishNamesModel" "firstSound" "[I", Cond.fieldLink RX3 108 "ParishNamesModel" "firstClasses" "I", Cond.methodLink RX3 91 yX3_lettersOf, Cond.instanceMethod yX3_lettersOf, Cond.selects RX3 yX3_lettersOf yX3_lettersOf, Cond.code yX3_lettersOf cX3_lettersOf 2 (some .int), Cond.methodLink RX3 94 yX3_letterOf, Cond.instanceMethod yX3_letterOf, Cond.selects RX3 yX3_letterOf yX3_letterOf, Cond.code yX3_letterOf cX3_letterOf 3 (some .int), Cond.methodLink RX3 124 yX3_areSame, Cond.instanceMethod yX3_areSame, Cond.selects RX3 yX3_areSame yX3_areSame, Cond.code yX3_areSame cX3_areSame 3 (some .boolean), Cond.methodLink RX3 128 yX3_soundSame, Cond.instanceMethod yX3_soundSame, Cond.selects RX3 yX3_soundSame yX3_soundSame, Cond.code yX3_soundSame cX3_soundSame 3 (some .boolean), Cond.methodLink RX3 131 yX3_offNow, Cond.instanceMethod yX3_offNow, Cond.selects RX3 yX3_offNow yX3_offNow]
def wsX3_find_r4 : List Cond := [Cond.code yX3_offNow cX3_offNow 5 (some .int), Cond.fieldLink RX3 41 "ParishNamesModel" "costs" "[I", Cond.methodLink RX3 117 yX3_least, Cond.static yX3_least, Cond.code yX3_least cX3_least 4 (some .int)]
def wsX3_find : List Cond := .code yX3_find cX3_find 8 (some .int) :: ((wsX3_find_r1 ++ (wsX3_find_r2 ++ (wsX3_find_r3 ++ wsX3_find_r4))) ++ wsX30)
def wsX3_called_r1 : List Cond := [Cond.fieldLink RX3 48 "ParishNamesModel" "said" "I", Cond.fieldLink RX3 23 "ParishNamesModel" "owner" "[I", Cond.methodLink RX3 85 yX3_isSite, Cond.static yX3_isSite, Cond.initialized RX3, Cond.code yX3_isSite cX3_isSite 1 (some .boolean), Cond.methodLink RX3 44 yX3_in, Cond.static yX3_in, Cond.code yX3_in cX3_in 3 (some .boolean), Cond.methodLink RX3 140 yX3_areYears, Cond.static yX3_areYears, Cond.code yX3_areYears cX3_areYears 2 (some .boolean), Cond.methodLink RX3 60 yX3_isYear, Cond.static yX3_isYear, Cond.code yX3_isYear cX3_isYear 1 (some .boolean), Cond.methodLink RX3 143 yX3_layPad, Cond.instanceMethod yX3_layPad, Cond.selects RX3 yX3_layPad yX3_layPad, Cond.code yX3_layPad cX3_layPad 2 none, Cond.fieldLink RX3 111 "ParishNamesModel" "secondLong" "I", Cond.fieldLink RX3 32 "ParishNamesModel" "second" "[I", Cond.fieldLink RX3 20 "ParishNamesModel" "pad" "[I", Cond.fieldLink RX3 38 "ParishNamesModel" "secondSound" "[I", Cond.fieldLink RX3 114 "ParishNamesModel" "secondClasses" "I"]
def wsX3_called_r2 : List Cond := [Cond.methodLink RX3 104 yX3_laySound, Cond.static yX3_laySound, Cond.code yX3_laySound cX3_laySound 6 (some .int), Cond.methodLink RX3 98 yX3_classOf, Cond.static yX3_classOf, Cond.code yX3_classOf cX3_classOf 1 (some .int), Cond.methodLink RX3 88 yX3_goTo, Cond.instanceMethod yX3_goTo, Cond.selects RX3 yX3_goTo yX3_goTo, Cond.code yX3_goTo cX3_goTo 3 none, Cond.fieldLink RX3 7 "ParishNamesModel" "state" "[I", Cond.methodLink RX3 52 yX3_goThrough, Cond.instanceMethod yX3_goThrough, Cond.selects RX3 yX3_goThrough yX3_goThrough, Cond.code yX3_goThrough cX3_goThrough 4 none, Cond.fieldLink RX3 26 "ParishNamesModel" "namedBy" "[I", Cond.methodLink RX3 146 yX3_isLike, Cond.instanceMethod yX3_isLike, Cond.selects RX3 yX3_isLike yX3_isLike, Cond.code yX3_isLike cX3_isLike 3 (some .boolean), Cond.methodLink RX3 121 yX3_layFirst, Cond.instanceMethod yX3_layFirst, Cond.selects RX3 yX3_layFirst yX3_layFirst, Cond.code yX3_layFirst cX3_layFirst 3 none]
def wsX3_called_r3 : List Cond := [Cond.fieldLink RX3 101 "ParishNamesModel" "firstLong" "I", Cond.fieldLink RX3 29 "ParishNamesModel" "first" "[I", Cond.fieldLink RX3 35 "ParishNamesModel" "firstSound" "[I", Cond.fieldLink RX3 108 "ParishNamesModel" "firstClasses" "I", Cond.methodLink RX3 91 yX3_lettersOf, Cond.instanceMethod yX3_lettersOf, Cond.selects RX3 yX3_lettersOf yX3_lettersOf, Cond.code yX3_lettersOf cX3_lettersOf 2 (some .int), Cond.methodLink RX3 94 yX3_letterOf, Cond.instanceMethod yX3_letterOf, Cond.selects RX3 yX3_letterOf yX3_letterOf, Cond.code yX3_letterOf cX3_letterOf 3 (some .int), Cond.methodLink RX3 124 yX3_areSame, Cond.instanceMethod yX3_areSame, Cond.selects RX3 yX3_areSame yX3_areSame, Cond.code yX3_areSame cX3_areSame 3 (some .boolean), Cond.methodLink RX3 128 yX3_soundSame, Cond.instanceMethod yX3_soundSame, Cond.selects RX3 yX3_soundSame yX3_soundSame, Cond.code yX3_soundSame cX3_soundSame 3 (some .boolean), Cond.methodLink RX3 131 yX3_offNow, Cond.instanceMethod yX3_offNow, Cond.selects RX3 yX3_offNow yX3_offNow, Cond.code yX3_offNow cX3_offNow 5 (some .int)]
def wsX3_called_r4 : List Cond := [Cond.fieldLink RX3 41 "ParishNamesModel" "costs" "[I", Cond.methodLink RX3 117 yX3_least, Cond.static yX3_least, Cond.code yX3_least cX3_least 4 (some .int)]
def wsX3_called : List Cond := .code yX3_called cX3_called 10 (some .int) :: ((wsX3_called_r1 ++ (wsX3_called_r2 ++ (wsX3_called_r3 ++ wsX3_called_r4))) ++ wsX30)
def wsX3_off_r1 : List Cond := [Cond.fieldLink RX3 48 "ParishNamesModel" "said" "I", Cond.methodLink RX3 56 yX3_isParish, Cond.instanceMethod yX3_isParish, Cond.selects RX3 yX3_isParish yX3_isParish, Cond.initialized RX3, Cond.code yX3_isParish cX3_isParish 2 (some .boolean), Cond.fieldLink RX3 7 "ParishNamesModel" "state" "[I", Cond.methodLink RX3 44 yX3_in, Cond.static yX3_in, Cond.code yX3_in cX3_in 3 (some .boolean), Cond.methodLink RX3 60 yX3_isYear, Cond.static yX3_isYear, Cond.code yX3_isYear cX3_isYear 1 (some .boolean), Cond.methodLink RX3 88 yX3_goTo, Cond.instanceMethod yX3_goTo, Cond.selects RX3 yX3_goTo yX3_goTo, Cond.code yX3_goTo cX3_goTo 3 none, Cond.methodLink RX3 52 yX3_goThrough, Cond.instanceMethod yX3_goThrough, Cond.selects RX3 yX3_goThrough yX3_goThrough, Cond.code yX3_goThrough cX3_goThrough 4 none, Cond.fieldLink RX3 23 "ParishNamesModel" "owner" "[I", Cond.fieldLink RX3 26 "ParishNamesModel" "namedBy" "[I", Cond.methodLink RX3 70 yX3_sitesOf]
def wsX3_off_r2 : List Cond := [Cond.instanceMethod yX3_sitesOf, Cond.selects RX3 yX3_sitesOf yX3_sitesOf, Cond.code yX3_sitesOf cX3_sitesOf 4 (some .int), Cond.methodLink RX3 143 yX3_layPad, Cond.instanceMethod yX3_layPad, Cond.selects RX3 yX3_layPad yX3_layPad, Cond.code yX3_layPad cX3_layPad 2 none, Cond.fieldLink RX3 111 "ParishNamesModel" "secondLong" "I", Cond.fieldLink RX3 32 "ParishNamesModel" "second" "[I", Cond.fieldLink RX3 20 "ParishNamesModel" "pad" "[I", Cond.fieldLink RX3 38 "ParishNamesModel" "secondSound" "[I", Cond.fieldLink RX3 114 "ParishNamesModel" "secondClasses" "I", Cond.methodLink RX3 104 yX3_laySound, Cond.static yX3_laySound, Cond.code yX3_laySound cX3_laySound 6 (some .int), Cond.methodLink RX3 98 yX3_classOf, Cond.static yX3_classOf, Cond.code yX3_classOf cX3_classOf 1 (some .int), Cond.methodLink RX3 121 yX3_layFirst, Cond.instanceMethod yX3_layFirst, Cond.selects RX3 yX3_layFirst yX3_layFirst, Cond.code yX3_layFirst cX3_layFirst 3 none, Cond.fieldLink RX3 101 "ParishNamesModel" "firstLong" "I", Cond.fieldLink RX3 29 "ParishNamesModel" "first" "[I"]
def wsX3_off_r3 : List Cond := [Cond.fieldLink RX3 35 "ParishNamesModel" "firstSound" "[I", Cond.fieldLink RX3 108 "ParishNamesModel" "firstClasses" "I", Cond.methodLink RX3 91 yX3_lettersOf, Cond.instanceMethod yX3_lettersOf, Cond.selects RX3 yX3_lettersOf yX3_lettersOf, Cond.code yX3_lettersOf cX3_lettersOf 2 (some .int), Cond.methodLink RX3 94 yX3_letterOf, Cond.instanceMethod yX3_letterOf, Cond.selects RX3 yX3_letterOf yX3_letterOf, Cond.code yX3_letterOf cX3_letterOf 3 (some .int), Cond.methodLink RX3 131 yX3_offNow, Cond.instanceMethod yX3_offNow, Cond.selects RX3 yX3_offNow yX3_offNow, Cond.code yX3_offNow cX3_offNow 5 (some .int), Cond.fieldLink RX3 41 "ParishNamesModel" "costs" "[I", Cond.methodLink RX3 117 yX3_least, Cond.static yX3_least, Cond.code yX3_least cX3_least 4 (some .int)]
def wsX3_off : List Cond := .code yX3_off cX3_off 3 (some .int) :: ((wsX3_off_r1 ++ (wsX3_off_r2 ++ wsX3_off_r3)) ++ wsX30)
def wsX3_keepFirst : List Cond := .code yX3_keepFirst cX3_keepFirst 2 none :: ([.fieldLink RX3 101 "ParishNamesModel" "firstLong" "I", .fieldLink RX3 111 "ParishNamesModel" "secondLong" "I", .fieldLink RX3 32 "ParishNamesModel" "second" "[I", .fieldLink RX3 29 "ParishNamesModel" "first" "[I"] ++ wsX30)
def wsX3_span_r1 : List Cond := [Cond.fieldLink RX3 23 "ParishNamesModel" "owner" "[I", Cond.methodLink RX3 85 yX3_isSite, Cond.static yX3_isSite, Cond.initialized RX3, Cond.code yX3_isSite cX3_isSite 1 (some .boolean), Cond.methodLink RX3 44 yX3_in, Cond.static yX3_in, Cond.code yX3_in cX3_in 3 (some .boolean), Cond.methodLink RX3 88 yX3_goTo, Cond.instanceMethod yX3_goTo, Cond.selects RX3 yX3_goTo yX3_goTo, Cond.code yX3_goTo cX3_goTo 3 none, Cond.fieldLink RX3 7 "ParishNamesModel" "state" "[I", Cond.methodLink RX3 52 yX3_goThrough, Cond.instanceMethod yX3_goThrough, Cond.selects RX3 yX3_goThrough yX3_goThrough, Cond.code yX3_goThrough cX3_goThrough 4 none, Cond.fieldLink RX3 26 "ParishNamesModel" "namedBy" "[I", Cond.methodLink RX3 121 yX3_layFirst, Cond.instanceMethod yX3_layFirst, Cond.selects RX3 yX3_layFirst yX3_layFirst, Cond.code yX3_layFirst cX3_layFirst 3 none, Cond.fieldLink RX3 101 "ParishNamesModel" "firstLong" "I", Cond.fieldLink RX3 29 "ParishNamesModel" "first" "[I"]
def wsX3_span_r2 : List Cond := [Cond.fieldLink RX3 35 "ParishNamesModel" "firstSound" "[I", Cond.fieldLink RX3 108 "ParishNamesModel" "firstClasses" "I", Cond.methodLink RX3 91 yX3_lettersOf, Cond.instanceMethod yX3_lettersOf, Cond.selects RX3 yX3_lettersOf yX3_lettersOf, Cond.code yX3_lettersOf cX3_lettersOf 2 (some .int), Cond.methodLink RX3 94 yX3_letterOf, Cond.instanceMethod yX3_letterOf, Cond.selects RX3 yX3_letterOf yX3_letterOf, Cond.code yX3_letterOf cX3_letterOf 3 (some .int), Cond.methodLink RX3 104 yX3_laySound, Cond.static yX3_laySound, Cond.code yX3_laySound cX3_laySound 6 (some .int), Cond.methodLink RX3 98 yX3_classOf, Cond.static yX3_classOf, Cond.code yX3_classOf cX3_classOf 1 (some .int), Cond.methodLink RX3 124 yX3_areSame, Cond.instanceMethod yX3_areSame, Cond.selects RX3 yX3_areSame yX3_areSame, Cond.code yX3_areSame cX3_areSame 3 (some .boolean), Cond.fieldLink RX3 111 "ParishNamesModel" "secondLong" "I", Cond.fieldLink RX3 32 "ParishNamesModel" "second" "[I", Cond.methodLink RX3 149 yX3_keepFirst, Cond.instanceMethod yX3_keepFirst]
def wsX3_span_r3 : List Cond := [Cond.selects RX3 yX3_keepFirst yX3_keepFirst, Cond.code yX3_keepFirst cX3_keepFirst 2 none]
def wsX3_span : List Cond := .code yX3_span cX3_span 8 (some .int) :: ((wsX3_span_r1 ++ (wsX3_span_r2 ++ wsX3_span_r3)) ++ wsX30)
def wsX3_heirs_r1 : List Cond := [Cond.fieldLink RX3 23 "ParishNamesModel" "owner" "[I", Cond.methodLink RX3 56 yX3_isParish, Cond.instanceMethod yX3_isParish, Cond.selects RX3 yX3_isParish yX3_isParish, Cond.initialized RX3, Cond.code yX3_isParish cX3_isParish 2 (some .boolean), Cond.fieldLink RX3 7 "ParishNamesModel" "state" "[I", Cond.methodLink RX3 44 yX3_in, Cond.static yX3_in, Cond.code yX3_in cX3_in 3 (some .boolean), Cond.methodLink RX3 60 yX3_isYear, Cond.static yX3_isYear, Cond.code yX3_isYear cX3_isYear 1 (some .boolean), Cond.methodLink RX3 88 yX3_goTo, Cond.instanceMethod yX3_goTo, Cond.selects RX3 yX3_goTo yX3_goTo, Cond.code yX3_goTo cX3_goTo 3 none, Cond.methodLink RX3 52 yX3_goThrough, Cond.instanceMethod yX3_goThrough, Cond.selects RX3 yX3_goThrough yX3_goThrough, Cond.code yX3_goThrough cX3_goThrough 4 none, Cond.fieldLink RX3 26 "ParishNamesModel" "namedBy" "[I", Cond.methodLink RX3 70 yX3_sitesOf, Cond.instanceMethod yX3_sitesOf]
def wsX3_heirs_r2 : List Cond := [Cond.selects RX3 yX3_sitesOf yX3_sitesOf, Cond.code yX3_sitesOf cX3_sitesOf 4 (some .int)]
def wsX3_heirs : List Cond := .code yX3_heirs cX3_heirs 7 (some .int) :: ((wsX3_heirs_r1 ++ wsX3_heirs_r2) ++ wsX30)
def wsX3_image : List Cond := .code yX3_image cX3_image 3 (some .int) :: ([.fieldLink RX3 13 "ParishNamesModel" "images" "[I", .fieldLink RX3 7 "ParishNamesModel" "state" "[I", .fieldLink RX3 16 "ParishNamesModel" "isKept" "[Z", .methodLink RX3 44 yX3_in, .static yX3_in, .initialized RX3, .code yX3_in cX3_in 3 (some .boolean)] ++ wsX30)
def wsX3_restore : List Cond := .code yX3_restore cX3_restore 3 (some .int) :: ([.fieldLink RX3 16 "ParishNamesModel" "isKept" "[Z", .fieldLink RX3 7 "ParishNamesModel" "state" "[I", .fieldLink RX3 13 "ParishNamesModel" "images" "[I", .methodLink RX3 44 yX3_in, .static yX3_in, .initialized RX3, .code yX3_in cX3_in 3 (some .boolean)] ++ wsX30)
def wsX3_thereNow : List Cond := .code yX3_thereNow cX3_thereNow 3 (some .int) :: ([.fieldLink RX3 7 "ParishNamesModel" "state" "[I", .methodLink RX3 67 yX3_goToEnd, .instanceMethod yX3_goToEnd, .selects RX3 yX3_goToEnd yX3_goToEnd, .initialized RX3, .code yX3_goToEnd cX3_goToEnd 1 none, .methodLink RX3 52 yX3_goThrough, .instanceMethod yX3_goThrough, .selects RX3 yX3_goThrough yX3_goThrough, .code yX3_goThrough cX3_goThrough 4 none, .fieldLink RX3 23 "ParishNamesModel" "owner" "[I", .fieldLink RX3 26 "ParishNamesModel" "namedBy" "[I", .methodLink RX3 70 yX3_sitesOf, .instanceMethod yX3_sitesOf, .selects RX3 yX3_sitesOf yX3_sitesOf, .code yX3_sitesOf cX3_sitesOf 4 (some .int)] ++ wsX30)
def wsX3_namesNow_r1 : List Cond := [Cond.fieldLink RX3 7 "ParishNamesModel" "state" "[I", Cond.methodLink RX3 67 yX3_goToEnd, Cond.instanceMethod yX3_goToEnd, Cond.selects RX3 yX3_goToEnd yX3_goToEnd, Cond.initialized RX3, Cond.code yX3_goToEnd cX3_goToEnd 1 none, Cond.methodLink RX3 52 yX3_goThrough, Cond.instanceMethod yX3_goThrough, Cond.selects RX3 yX3_goThrough yX3_goThrough, Cond.code yX3_goThrough cX3_goThrough 4 none, Cond.fieldLink RX3 23 "ParishNamesModel" "owner" "[I", Cond.fieldLink RX3 26 "ParishNamesModel" "namedBy" "[I", Cond.methodLink RX3 70 yX3_sitesOf, Cond.instanceMethod yX3_sitesOf, Cond.selects RX3 yX3_sitesOf yX3_sitesOf, Cond.code yX3_sitesOf cX3_sitesOf 4 (some .int), Cond.methodLink RX3 121 yX3_layFirst, Cond.instanceMethod yX3_layFirst, Cond.selects RX3 yX3_layFirst yX3_layFirst, Cond.code yX3_layFirst cX3_layFirst 3 none, Cond.fieldLink RX3 101 "ParishNamesModel" "firstLong" "I", Cond.fieldLink RX3 29 "ParishNamesModel" "first" "[I", Cond.fieldLink RX3 35 "ParishNamesModel" "firstSound" "[I", Cond.fieldLink RX3 108 "ParishNamesModel" "firstClasses" "I"]
def wsX3_namesNow_r2 : List Cond := [Cond.methodLink RX3 91 yX3_lettersOf, Cond.instanceMethod yX3_lettersOf, Cond.selects RX3 yX3_lettersOf yX3_lettersOf, Cond.code yX3_lettersOf cX3_lettersOf 2 (some .int), Cond.methodLink RX3 94 yX3_letterOf, Cond.instanceMethod yX3_letterOf, Cond.selects RX3 yX3_letterOf yX3_letterOf, Cond.code yX3_letterOf cX3_letterOf 3 (some .int), Cond.methodLink RX3 104 yX3_laySound, Cond.static yX3_laySound, Cond.code yX3_laySound cX3_laySound 6 (some .int), Cond.methodLink RX3 98 yX3_classOf, Cond.static yX3_classOf, Cond.code yX3_classOf cX3_classOf 1 (some .int), Cond.methodLink RX3 149 yX3_keepFirst, Cond.instanceMethod yX3_keepFirst, Cond.selects RX3 yX3_keepFirst yX3_keepFirst, Cond.code yX3_keepFirst cX3_keepFirst 2 none, Cond.fieldLink RX3 111 "ParishNamesModel" "secondLong" "I", Cond.fieldLink RX3 32 "ParishNamesModel" "second" "[I", Cond.methodLink RX3 124 yX3_areSame, Cond.instanceMethod yX3_areSame, Cond.selects RX3 yX3_areSame yX3_areSame, Cond.code yX3_areSame cX3_areSame 3 (some .boolean)]
def wsX3_namesNow : List Cond := .code yX3_namesNow cX3_namesNow 5 (some .int) :: ((wsX3_namesNow_r1 ++ wsX3_namesNow_r2) ++ wsX30)
def wsX3_ofKind : List Cond := .code yX3_ofKind cX3_ofKind 4 (some .int) :: ([.fieldLink RX3 7 "ParishNamesModel" "state" "[I"] ++ wsX30)
def wsX3_count_r1 : List Cond := [Cond.fieldLink RX3 7 "ParishNamesModel" "state" "[I", Cond.fieldLink RX3 48 "ParishNamesModel" "said" "I", Cond.fieldLink RX3 16 "ParishNamesModel" "isKept" "[Z", Cond.methodLink RX3 44 yX3_in, Cond.static yX3_in, Cond.initialized RX3, Cond.code yX3_in cX3_in 3 (some .boolean), Cond.methodLink RX3 152 yX3_ofKind, Cond.instanceMethod yX3_ofKind, Cond.selects RX3 yX3_ofKind yX3_ofKind, Cond.code yX3_ofKind cX3_ofKind 4 (some .int), Cond.methodLink RX3 63 yX3_lastYear, Cond.instanceMethod yX3_lastYear, Cond.selects RX3 yX3_lastYear yX3_lastYear, Cond.code yX3_lastYear cX3_lastYear 1 (some .int), Cond.methodLink RX3 155 yX3_thereNow, Cond.instanceMethod yX3_thereNow, Cond.selects RX3 yX3_thereNow yX3_thereNow, Cond.code yX3_thereNow cX3_thereNow 3 (some .int), Cond.methodLink RX3 67 yX3_goToEnd, Cond.instanceMethod yX3_goToEnd, Cond.selects RX3 yX3_goToEnd yX3_goToEnd, Cond.code yX3_goToEnd cX3_goToEnd 1 none, Cond.methodLink RX3 52 yX3_goThrough]
def wsX3_count_r2 : List Cond := [Cond.instanceMethod yX3_goThrough, Cond.selects RX3 yX3_goThrough yX3_goThrough, Cond.code yX3_goThrough cX3_goThrough 4 none, Cond.fieldLink RX3 23 "ParishNamesModel" "owner" "[I", Cond.fieldLink RX3 26 "ParishNamesModel" "namedBy" "[I", Cond.methodLink RX3 70 yX3_sitesOf, Cond.instanceMethod yX3_sitesOf, Cond.selects RX3 yX3_sitesOf yX3_sitesOf, Cond.code yX3_sitesOf cX3_sitesOf 4 (some .int), Cond.methodLink RX3 158 yX3_namesNow, Cond.instanceMethod yX3_namesNow, Cond.selects RX3 yX3_namesNow yX3_namesNow, Cond.code yX3_namesNow cX3_namesNow 5 (some .int), Cond.methodLink RX3 121 yX3_layFirst, Cond.instanceMethod yX3_layFirst, Cond.selects RX3 yX3_layFirst yX3_layFirst, Cond.code yX3_layFirst cX3_layFirst 3 none, Cond.fieldLink RX3 101 "ParishNamesModel" "firstLong" "I", Cond.fieldLink RX3 29 "ParishNamesModel" "first" "[I", Cond.fieldLink RX3 35 "ParishNamesModel" "firstSound" "[I", Cond.fieldLink RX3 108 "ParishNamesModel" "firstClasses" "I", Cond.methodLink RX3 91 yX3_lettersOf, Cond.instanceMethod yX3_lettersOf, Cond.selects RX3 yX3_lettersOf yX3_lettersOf]
def wsX3_count_r3 : List Cond := [Cond.code yX3_lettersOf cX3_lettersOf 2 (some .int), Cond.methodLink RX3 94 yX3_letterOf, Cond.instanceMethod yX3_letterOf, Cond.selects RX3 yX3_letterOf yX3_letterOf, Cond.code yX3_letterOf cX3_letterOf 3 (some .int), Cond.methodLink RX3 104 yX3_laySound, Cond.static yX3_laySound, Cond.code yX3_laySound cX3_laySound 6 (some .int), Cond.methodLink RX3 98 yX3_classOf, Cond.static yX3_classOf, Cond.code yX3_classOf cX3_classOf 1 (some .int), Cond.methodLink RX3 149 yX3_keepFirst, Cond.instanceMethod yX3_keepFirst, Cond.selects RX3 yX3_keepFirst yX3_keepFirst, Cond.code yX3_keepFirst cX3_keepFirst 2 none, Cond.fieldLink RX3 111 "ParishNamesModel" "secondLong" "I", Cond.fieldLink RX3 32 "ParishNamesModel" "second" "[I", Cond.methodLink RX3 124 yX3_areSame, Cond.instanceMethod yX3_areSame, Cond.selects RX3 yX3_areSame yX3_areSame, Cond.code yX3_areSame cX3_areSame 3 (some .boolean)]
def wsX3_count : List Cond := .code yX3_count cX3_count 2 (some .int) :: ((wsX3_count_r1 ++ (wsX3_count_r2 ++ wsX3_count_r3)) ++ wsX30)
def wsJ9_max_7cf53 : List Cond := .code yJ9_max_7cf53 cJ9_max_7cf53 2 (some .int) :: ([])
def wsJ9_min_7cf53 : List Cond := .code yJ9_min_7cf53 cJ9_min_7cf53 2 (some .int) :: ([])
def wsL_law_r1 : List Cond := [Cond.classLink RL 7 RX2, Cond.instantiable RX2 5, Cond.initialized RX2, Cond.classLink RL 10 RX3, Cond.instantiable RX3 16, Cond.initialized RX3, Cond.methodLink RL 9 yX2_init, Cond.instanceMethod yX2_init, Cond.code yX2_init cX2_init 1 none, Cond.methodLink RX2 1 objectInit, Cond.instanceMethod objectInit, Cond.code objectInit ⟨#[0xb1]⟩ 1 none, Cond.classLink RX2 7 RX0, Cond.instantiable RX0 8, Cond.initialized RX0, Cond.fieldLink RX2 10 "ParishNames" "now" "LParishNames$Chronicle;", Cond.fieldLink RX2 16 "ParishNames" "kept" "[LParishNames$Chronicle;", Cond.classLink RX2 20 RX1, Cond.instantiable RX1 1, Cond.initialized RX1, Cond.fieldLink RX2 23 "ParishNames" "speller" "LParishNames$Speller;", Cond.fieldLink RX2 27 "ParishNames" "keptSet" "I", Cond.fieldLink RX2 31 "ParishNames" "pad" "J", Cond.instanceMethod yX0_init]
def wsL_law_r2 : List Cond := [Cond.code yX0_init cX0_init 1 none, Cond.methodLink RX0 3 objectInit, Cond.arrayClass .int, Cond.fieldLink RX0 9 "ParishNames$Chronicle" "kinds" "[I", Cond.fieldLink RX0 15 "ParishNames$Chronicle" "years" "[I", Cond.fieldLink RX0 18 "ParishNames$Chronicle" "parishes" "[I", Cond.fieldLink RX0 21 "ParishNames$Chronicle" "sets" "[I", Cond.fieldLink RX0 24 "ParishNames$Chronicle" "owners" "[I", Cond.arrayClass .long, Cond.fieldLink RX0 27 "ParishNames$Chronicle" "names" "[J", Cond.fieldLink RX0 31 "ParishNames$Chronicle" "told" "I", Cond.fieldLink RX0 35 "ParishNames$Chronicle" "founded" "I", Cond.instanceMethod yX1_init, Cond.code yX1_init cX1_init 1 none, Cond.methodLink RX1 3 objectInit, Cond.fieldLink RX1 9 "ParishNames$Speller" "row" "[I", Cond.methodLink RL 12 yX3_init, Cond.instanceMethod yX3_init, Cond.code yX3_init cX3_init 1 none, Cond.methodLink RX3 1 objectInit, Cond.fieldLink RX3 7 "ParishNamesModel" "state" "[I", Cond.fieldLink RX3 13 "ParishNamesModel" "images" "[I", Cond.arrayClass .boolean, Cond.fieldLink RX3 16 "ParishNamesModel" "isKept" "[Z"]
def wsL_law_r3 : List Cond := [Cond.fieldLink RX3 20 "ParishNamesModel" "pad" "[I", Cond.fieldLink RX3 23 "ParishNamesModel" "owner" "[I", Cond.fieldLink RX3 26 "ParishNamesModel" "namedBy" "[I", Cond.fieldLink RX3 29 "ParishNamesModel" "first" "[I", Cond.fieldLink RX3 32 "ParishNamesModel" "second" "[I", Cond.fieldLink RX3 35 "ParishNamesModel" "firstSound" "[I", Cond.fieldLink RX3 38 "ParishNamesModel" "secondSound" "[I", Cond.fieldLink RX3 41 "ParishNamesModel" "costs" "[I", Cond.methodLink RL 13 yX2_say, Cond.instanceMethod yX2_say, Cond.selects RX2 yX2_say yX2_say, Cond.code yX2_say cX2_say 3 (some .int), Cond.methodLink RX2 35 yX1_lengthOf, Cond.static yX1_lengthOf, Cond.code yX1_lengthOf cX1_lengthOf 3 (some .int), Cond.methodLink RX1 15 yX1_letterOf, Cond.static yX1_letterOf, Cond.code yX1_letterOf cX1_letterOf 3 (some .int), Cond.methodLink RX2 39 yX1_withLetter, Cond.static yX1_withLetter, Cond.code yX1_withLetter cX1_withLetter 4 (some .long), Cond.methodLink RL 17 yX3_say, Cond.instanceMethod yX3_say, Cond.selects RX3 yX3_say yX3_say]
def wsL_law_r4 : List Cond := [Cond.code yX3_say cX3_say 2 (some .int), Cond.fieldLink RX3 48 "ParishNamesModel" "said" "I", Cond.methodLink RX3 44 yX3_in, Cond.static yX3_in, Cond.code yX3_in cX3_in 3 (some .boolean), Cond.methodLink RL 18 yX2_wipe, Cond.instanceMethod yX2_wipe, Cond.selects RX2 yX2_wipe yX2_wipe, Cond.code yX2_wipe cX2_wipe 2 (some .int), Cond.methodLink RL 22 yX3_wipe, Cond.instanceMethod yX3_wipe, Cond.selects RX3 yX3_wipe yX3_wipe, Cond.code yX3_wipe cX3_wipe 2 (some .int), Cond.methodLink RL 23 yX2_name, Cond.instanceMethod yX2_name, Cond.selects RX2 yX2_name yX2_name, Cond.code yX2_name cX2_name 3 (some .int), Cond.methodLink RX2 43 yX0_knows, Cond.instanceMethod yX0_knows, Cond.selects RX0 yX0_knows yX0_knows, Cond.code yX0_knows cX0_knows 2 (some .boolean), Cond.methodLink RX2 47 yX2_isYear, Cond.static yX2_isYear, Cond.code yX2_isYear cX2_isYear 1 (some .boolean)]
def wsL_law_r5 : List Cond := [Cond.methodLink RX2 50 yX2_padIsNoName, Cond.instanceMethod yX2_padIsNoName, Cond.selects RX2 yX2_padIsNoName yX2_padIsNoName, Cond.code yX2_padIsNoName cX2_padIsNoName 1 (some .boolean), Cond.methodLink RX2 54 yX0_yearOfLast, Cond.instanceMethod yX0_yearOfLast, Cond.selects RX0 yX0_yearOfLast yX0_yearOfLast, Cond.code yX0_yearOfLast cX0_yearOfLast 1 (some .int), Cond.methodLink RX2 58 yX0_sitesNow, Cond.instanceMethod yX0_sitesNow, Cond.selects RX0 yX0_sitesNow yX0_sitesNow, Cond.code yX0_sitesNow cX0_sitesNow 2 (some .int), Cond.methodLink RX0 80 yX0_sitesBehind, Cond.instanceMethod yX0_sitesBehind, Cond.selects RX0 yX0_sitesBehind yX0_sitesBehind, Cond.code yX0_sitesBehind cX0_sitesBehind 5 (some .int), Cond.methodLink RX0 61 yX0_sitesAtFirst, Cond.static yX0_sitesAtFirst, Cond.code yX0_sitesAtFirst cX0_sitesAtFirst 1 (some .int), Cond.methodLink RX0 64 yX0_sitesThrough, Cond.instanceMethod yX0_sitesThrough, Cond.selects RX0 yX0_sitesThrough yX0_sitesThrough, Cond.code yX0_sitesThrough cX0_sitesThrough 4 (some .int), Cond.methodLink RX2 62 yX0_isFull]
def wsL_law_r6 : List Cond := [Cond.instanceMethod yX0_isFull, Cond.selects RX0 yX0_isFull yX0_isFull, Cond.code yX0_isFull cX0_isFull 1 (some .boolean), Cond.methodLink RX2 65 yX2_takePad, Cond.instanceMethod yX2_takePad, Cond.selects RX2 yX2_takePad yX2_takePad, Cond.code yX2_takePad cX2_takePad 3 (some .long), Cond.methodLink RX2 69 yX0_tell, Cond.instanceMethod yX0_tell, Cond.selects RX0 yX0_tell yX0_tell, Cond.code yX0_tell cX0_tell 8 none, Cond.methodLink RX0 38 yX0_isFull, Cond.methodLink RX2 73 yX0_lastEvent, Cond.instanceMethod yX0_lastEvent, Cond.selects RX0 yX0_lastEvent yX0_lastEvent, Cond.code yX0_lastEvent cX0_lastEvent 1 (some .int), Cond.methodLink RL 27 yX3_name, Cond.instanceMethod yX3_name, Cond.selects RX3 yX3_name yX3_name, Cond.code yX3_name cX3_name 4 (some .int), Cond.methodLink RX3 56 yX3_isParish, Cond.instanceMethod yX3_isParish, Cond.selects RX3 yX3_isParish yX3_isParish, Cond.code yX3_isParish cX3_isParish 2 (some .boolean)]
def wsL_law_r7 : List Cond := [Cond.methodLink RX3 60 yX3_isYear, Cond.static yX3_isYear, Cond.code yX3_isYear cX3_isYear 1 (some .boolean), Cond.methodLink RX3 63 yX3_lastYear, Cond.instanceMethod yX3_lastYear, Cond.selects RX3 yX3_lastYear yX3_lastYear, Cond.code yX3_lastYear cX3_lastYear 1 (some .int), Cond.methodLink RX3 67 yX3_goToEnd, Cond.instanceMethod yX3_goToEnd, Cond.selects RX3 yX3_goToEnd yX3_goToEnd, Cond.code yX3_goToEnd cX3_goToEnd 1 none, Cond.methodLink RX3 52 yX3_goThrough, Cond.instanceMethod yX3_goThrough, Cond.selects RX3 yX3_goThrough yX3_goThrough, Cond.code yX3_goThrough cX3_goThrough 4 none, Cond.methodLink RX3 70 yX3_sitesOf, Cond.instanceMethod yX3_sitesOf, Cond.selects RX3 yX3_sitesOf yX3_sitesOf, Cond.code yX3_sitesOf cX3_sitesOf 4 (some .int), Cond.methodLink RX3 74 yX3_add, Cond.instanceMethod yX3_add, Cond.selects RX3 yX3_add yX3_add, Cond.code yX3_add cX3_add 7 none, Cond.methodLink RX3 78 yX3_takeName]
def wsL_law_r8 : List Cond := [Cond.instanceMethod yX3_takeName, Cond.selects RX3 yX3_takeName yX3_takeName, Cond.code yX3_takeName cX3_takeName 3 none, Cond.methodLink RL 28 yX2_split, Cond.instanceMethod yX2_split, Cond.selects RX2 yX2_split yX2_split, Cond.code yX2_split cX2_split 5 (some .int), Cond.methodLink RX2 76 yX2_isSetOfSites, Cond.static yX2_isSetOfSites, Cond.code yX2_isSetOfSites cX2_isSetOfSites 1 (some .boolean), Cond.methodLink RX2 79 yX2_isProperPart, Cond.static yX2_isProperPart, Cond.code yX2_isProperPart cX2_isProperPart 2 (some .boolean), Cond.methodLink RX2 83 yX0_parishCount, Cond.instanceMethod yX0_parishCount, Cond.selects RX0 yX0_parishCount yX0_parishCount, Cond.code yX0_parishCount cX0_parishCount 1 (some .int), Cond.methodLink RL 32 yX3_split, Cond.instanceMethod yX3_split, Cond.selects RX3 yX3_split yX3_split, Cond.code yX3_split cX3_split 6 (some .int), Cond.methodLink RX3 81 yX3_isSome, Cond.instanceMethod yX3_isSome, Cond.selects RX3 yX3_isSome yX3_isSome]
def wsL_law_r9 : List Cond := [Cond.code yX3_isSome cX3_isSome 4 (some .boolean), Cond.methodLink RL 33 yX2_merge, Cond.instanceMethod yX2_merge, Cond.selects RX2 yX2_merge yX2_merge, Cond.code yX2_merge cX2_merge 5 (some .int), Cond.methodLink RL 36 yX3_merge, Cond.instanceMethod yX3_merge, Cond.selects RX3 yX3_merge yX3_merge, Cond.code yX3_merge cX3_merge 5 (some .int), Cond.methodLink RL 37 yX2_shift, Cond.instanceMethod yX2_shift, Cond.selects RX2 yX2_shift yX2_shift, Cond.code yX2_shift cX2_shift 5 (some .int), Cond.methodLink RL 41 yX3_shift, Cond.instanceMethod yX3_shift, Cond.selects RX3 yX3_shift yX3_shift, Cond.code yX3_shift cX3_shift 5 (some .int), Cond.methodLink RL 42 yX2_undo, Cond.instanceMethod yX2_undo, Cond.selects RX2 yX2_undo yX2_undo, Cond.code yX2_undo cX2_undo 1 (some .int), Cond.methodLink RX2 86 yX0_eventCount, Cond.instanceMethod yX0_eventCount, Cond.selects RX0 yX0_eventCount yX0_eventCount]
def wsL_law_r10 : List Cond := [Cond.code yX0_eventCount cX0_eventCount 1 (some .int), Cond.methodLink RX2 89 yX0_forgetLast, Cond.instanceMethod yX0_forgetLast, Cond.selects RX0 yX0_forgetLast yX0_forgetLast, Cond.code yX0_forgetLast cX0_forgetLast 1 none, Cond.methodLink RL 45 yX3_undo, Cond.instanceMethod yX3_undo, Cond.selects RX3 yX3_undo yX3_undo, Cond.code yX3_undo cX3_undo 1 (some .int), Cond.methodLink RL 46 yX2_event, Cond.instanceMethod yX2_event, Cond.selects RX2 yX2_event yX2_event, Cond.code yX2_event cX2_event 3 (some .int), Cond.methodLink RX2 92 yX0_factOf, Cond.instanceMethod yX0_factOf, Cond.selects RX0 yX0_factOf yX0_factOf, Cond.code yX0_factOf cX0_factOf 3 (some .int), Cond.methodLink RL 49 yX3_event, Cond.instanceMethod yX3_event, Cond.selects RX3 yX3_event yX3_event, Cond.code yX3_event cX3_event 3 (some .int), Cond.methodLink RL 50 yX2_at, Cond.instanceMethod yX2_at, Cond.selects RX2 yX2_at yX2_at]
def wsL_law_r11 : List Cond := [Cond.code yX2_at cX2_at 3 (some .int), Cond.methodLink RX2 96 yX2_isSite, Cond.static yX2_isSite, Cond.code yX2_isSite cX2_isSite 1 (some .boolean), Cond.methodLink RX2 99 yX0_stageIn, Cond.instanceMethod yX0_stageIn, Cond.selects RX0 yX0_stageIn yX0_stageIn, Cond.code yX0_stageIn cX0_stageIn 3 (some .int), Cond.methodLink RX2 102 yX0_ownerBehind, Cond.instanceMethod yX0_ownerBehind, Cond.selects RX0 yX0_ownerBehind yX0_ownerBehind, Cond.code yX0_ownerBehind cX0_ownerBehind 5 (some .int), Cond.static yX2_has, Cond.code yX2_has cX2_has 2 (some .boolean), Cond.methodLink RL 53 yX3_at, Cond.instanceMethod yX3_at, Cond.selects RX3 yX3_at yX3_at, Cond.code yX3_at cX3_at 3 (some .int), Cond.methodLink RX3 85 yX3_isSite, Cond.static yX3_isSite, Cond.code yX3_isSite cX3_isSite 1 (some .boolean), Cond.methodLink RX3 88 yX3_goTo, Cond.instanceMethod yX3_goTo, Cond.selects RX3 yX3_goTo yX3_goTo]
def wsL_law_r12 : List Cond := [Cond.code yX3_goTo cX3_goTo 3 none, Cond.methodLink RL 54 yX2_sites, Cond.instanceMethod yX2_sites, Cond.selects RX2 yX2_sites yX2_sites, Cond.code yX2_sites cX2_sites 3 (some .int), Cond.methodLink RX2 105 yX0_sitesBehind, Cond.methodLink RL 57 yX3_sites, Cond.instanceMethod yX3_sites, Cond.selects RX3 yX3_sites yX3_sites, Cond.code yX3_sites cX3_sites 3 (some .int), Cond.methodLink RL 58 yX2_letter, Cond.instanceMethod yX2_letter, Cond.selects RX2 yX2_letter yX2_letter, Cond.code yX2_letter cX2_letter 7 (some .int), Cond.methodLink RX2 108 yX0_nameIn, Cond.instanceMethod yX0_nameIn, Cond.selects RX0 yX0_nameIn yX0_nameIn, Cond.code yX0_nameIn cX0_nameIn 4 (some .long), Cond.methodLink RX0 84 yX0_stageIn, Cond.methodLink RX0 87 yX0_nameBehind, Cond.instanceMethod yX0_nameBehind, Cond.selects RX0 yX0_nameBehind yX0_nameBehind, Cond.code yX0_nameBehind cX0_nameBehind 6 (some .long), Cond.methodLink RX0 68 yX0_nameAtFirst]
def wsL_law_r13 : List Cond := [Cond.static yX0_nameAtFirst, Cond.code yX0_nameAtFirst cX0_nameAtFirst 1 (some .long), Cond.methodLink RX0 55 yX1_withLetter, Cond.methodLink RX0 72 yX0_nameThrough, Cond.instanceMethod yX0_nameThrough, Cond.selects RX0 yX0_nameThrough yX0_nameThrough, Cond.code yX0_nameThrough cX0_nameThrough 5 (some .long), Cond.methodLink RX2 112 yX1_letterOf, Cond.methodLink RL 61 yX3_letter, Cond.instanceMethod yX3_letter, Cond.selects RX3 yX3_letter yX3_letter, Cond.code yX3_letter cX3_letter 4 (some .int), Cond.methodLink RX3 91 yX3_lettersOf, Cond.instanceMethod yX3_lettersOf, Cond.selects RX3 yX3_lettersOf yX3_lettersOf, Cond.code yX3_lettersOf cX3_lettersOf 2 (some .int), Cond.methodLink RX3 94 yX3_letterOf, Cond.instanceMethod yX3_letterOf, Cond.selects RX3 yX3_letterOf yX3_letterOf, Cond.code yX3_letterOf cX3_letterOf 3 (some .int), Cond.methodLink RL 62 yX2_sound, Cond.instanceMethod yX2_sound, Cond.selects RX2 yX2_sound yX2_sound, Cond.code yX2_sound cX2_sound 8 (some .int)]
def wsL_law_r14 : List Cond := [Cond.methodLink RX2 116 yX1_soundOf, Cond.static yX1_soundOf, Cond.code yX1_soundOf cX1_soundOf 8 (some .int), Cond.methodLink RX1 19 yX1_classOf, Cond.static yX1_classOf, Cond.code yX1_classOf cX1_classOf 1 (some .int), Cond.methodLink RX1 23 yX1_lengthOf, Cond.methodLink RX2 119 yX1_lengthOfSound, Cond.static yX1_lengthOfSound, Cond.code yX1_lengthOfSound cX1_lengthOfSound 2 (some .int), Cond.methodLink RX1 27 yX1_classOfSound, Cond.static yX1_classOfSound, Cond.code yX1_classOfSound cX1_classOfSound 2 (some .int), Cond.methodLink RX2 122 yX1_classOfSound, Cond.methodLink RL 65 yX3_sound, Cond.instanceMethod yX3_sound, Cond.selects RX3 yX3_sound yX3_sound, Cond.code yX3_sound cX3_sound 4 (some .int), Cond.fieldLink RX3 108 "ParishNamesModel" "firstClasses" "I", Cond.methodLink RX3 121 yX3_layFirst, Cond.instanceMethod yX3_layFirst, Cond.selects RX3 yX3_layFirst yX3_layFirst, Cond.code yX3_layFirst cX3_layFirst 3 none, Cond.fieldLink RX3 101 "ParishNamesModel" "firstLong" "I"]
def wsL_law_r15 : List Cond := [Cond.methodLink RX3 104 yX3_laySound, Cond.static yX3_laySound, Cond.code yX3_laySound cX3_laySound 6 (some .int), Cond.methodLink RX3 98 yX3_classOf, Cond.static yX3_classOf, Cond.code yX3_classOf cX3_classOf 1 (some .int), Cond.methodLink RL 66 yX2_parish, Cond.instanceMethod yX2_parish, Cond.selects RX2 yX2_parish yX2_parish, Cond.code yX2_parish cX2_parish 3 (some .int), Cond.methodLink RX2 125 yX0_eventsOf, Cond.instanceMethod yX0_eventsOf, Cond.selects RX0 yX0_eventsOf yX0_eventsOf, Cond.code yX0_eventsOf cX0_eventsOf 4 (some .int), Cond.methodLink RX2 128 yX0_lifeOf, Cond.instanceMethod yX0_lifeOf, Cond.selects RX0 yX0_lifeOf yX0_lifeOf, Cond.code yX0_lifeOf cX0_lifeOf 9 (some .int), Cond.methodLink RX0 94 yX0_holdsInAYear, Cond.instanceMethod yX0_holdsInAYear, Cond.selects RX0 yX0_holdsInAYear yX0_holdsInAYear, Cond.code yX0_holdsInAYear cX0_holdsInAYear 2 (some .boolean), Cond.methodLink RX0 48 yX0_firstYear, Cond.instanceMethod yX0_firstYear]
def wsL_law_r16 : List Cond := [Cond.selects RX0 yX0_firstYear yX0_firstYear, Cond.code yX0_firstYear cX0_firstYear 2 (some .int), Cond.methodLink RX0 52 yX0_lastYear, Cond.instanceMethod yX0_lastYear, Cond.selects RX0 yX0_lastYear yX0_lastYear, Cond.code yX0_lastYear cX0_lastYear 2 (some .int), Cond.methodLink RX0 98 yJ6_bitCount_0f7a4, Cond.static yJ6_bitCount_0f7a4, Cond.initialized RJ6, Cond.code yJ6_bitCount_0f7a4 cJ6_bitCount_0f7a4 1 (some .int), Cond.constant RJ6 265 (1431655765), Cond.constant RJ6 266 (858993459), Cond.constant RJ6 267 (252645135), Cond.methodLink RL 69 yX3_parish, Cond.instanceMethod yX3_parish, Cond.selects RX3 yX3_parish yX3_parish, Cond.code yX3_parish cX3_parish 9 (some .int), Cond.methodLink RX3 134 yX3_toldOf, Cond.instanceMethod yX3_toldOf, Cond.selects RX3 yX3_toldOf yX3_toldOf, Cond.code yX3_toldOf cX3_toldOf 4 (some .int), Cond.methodLink RX3 137 yX3_bits, Cond.static yX3_bits, Cond.code yX3_bits cX3_bits 3 (some .int)]
def wsL_law_r17 : List Cond := [Cond.methodLink RL 70 yX2_find, Cond.instanceMethod yX2_find, Cond.selects RX2 yX2_find yX2_find, Cond.code yX2_find cX2_find 7 (some .int), Cond.methodLink RX2 131 yX2_areYears, Cond.static yX2_areYears, Cond.code yX2_areYears cX2_areYears 2 (some .boolean), Cond.methodLink RX2 134 yX2_isHow, Cond.static yX2_isHow, Cond.code yX2_isHow cX2_isHow 1 (some .boolean), Cond.methodLink RX2 137 yX2_wasCalled, Cond.instanceMethod yX2_wasCalled, Cond.selects RX2 yX2_wasCalled yX2_wasCalled, Cond.code yX2_wasCalled cX2_wasCalled 12 (some .boolean), Cond.methodLink RX2 144 Lib.Math.max.name, Cond.static Lib.Math.max.name, Cond.initialized "java/lang/Math", Cond.code Lib.Math.max.name Lib.Math.max.code 2 (some .int), Cond.methodLink RX2 152 Lib.Math.min.name, Cond.static Lib.Math.min.name, Cond.code Lib.Math.min.name Lib.Math.min.code 2 (some .int), Cond.methodLink RX2 189 yX0_sitesAtFirst, Cond.methodLink RX2 192 yX0_nameAtFirst, Cond.methodLink RX2 196 yX0_sitesThrough]
def wsL_law_r18 : List Cond := [Cond.methodLink RX2 200 yX0_nameThrough, Cond.methodLink RX2 141 yX0_firstYear, Cond.methodLink RX2 149 yX0_lastYear, Cond.methodLink RX2 158 yX1_areAlike, Cond.instanceMethod yX1_areAlike, Cond.selects RX1 yX1_areAlike yX1_areAlike, Cond.code yX1_areAlike cX1_areAlike 6 (some .boolean), Cond.methodLink RX1 31 yX1_soundOf, Cond.methodLink RX1 34 yX1_distance, Cond.instanceMethod yX1_distance, Cond.selects RX1 yX1_distance yX1_distance, Cond.code yX1_distance cX1_distance 11 (some .int), Cond.methodLink RX1 38 Lib.Math.min.name, Cond.methodLink RL 73 yX3_find, Cond.instanceMethod yX3_find, Cond.selects RX3 yX3_find yX3_find, Cond.code yX3_find cX3_find 8 (some .int), Cond.methodLink RX3 140 yX3_areYears, Cond.static yX3_areYears, Cond.code yX3_areYears cX3_areYears 2 (some .boolean), Cond.methodLink RX3 143 yX3_layPad, Cond.instanceMethod yX3_layPad, Cond.selects RX3 yX3_layPad yX3_layPad, Cond.code yX3_layPad cX3_layPad 2 none]
def wsL_law_r19 : List Cond := [Cond.fieldLink RX3 111 "ParishNamesModel" "secondLong" "I", Cond.fieldLink RX3 114 "ParishNamesModel" "secondClasses" "I", Cond.methodLink RX3 146 yX3_isLike, Cond.instanceMethod yX3_isLike, Cond.selects RX3 yX3_isLike yX3_isLike, Cond.code yX3_isLike cX3_isLike 3 (some .boolean), Cond.methodLink RX3 124 yX3_areSame, Cond.instanceMethod yX3_areSame, Cond.selects RX3 yX3_areSame yX3_areSame, Cond.code yX3_areSame cX3_areSame 3 (some .boolean), Cond.methodLink RX3 128 yX3_soundSame, Cond.instanceMethod yX3_soundSame, Cond.selects RX3 yX3_soundSame yX3_soundSame, Cond.code yX3_soundSame cX3_soundSame 3 (some .boolean), Cond.methodLink RX3 131 yX3_offNow, Cond.instanceMethod yX3_offNow, Cond.selects RX3 yX3_offNow yX3_offNow, Cond.code yX3_offNow cX3_offNow 5 (some .int), Cond.methodLink RX3 117 yX3_least, Cond.static yX3_least, Cond.code yX3_least cX3_least 4 (some .int), Cond.methodLink RL 74 yX2_called, Cond.instanceMethod yX2_called, Cond.selects RX2 yX2_called yX2_called]
def wsL_law_r20 : List Cond := [Cond.code yX2_called cX2_called 12 (some .int), Cond.methodLink RX2 155 yX0_nameAt, Cond.instanceMethod yX0_nameAt, Cond.selects RX0 yX0_nameAt yX0_nameAt, Cond.code yX0_nameAt cX0_nameAt 3 (some .long), Cond.methodLink RX0 91 yX0_ownerBehind, Cond.methodLink RL 78 yX3_called, Cond.instanceMethod yX3_called, Cond.selects RX3 yX3_called yX3_called, Cond.code yX3_called cX3_called 10 (some .int), Cond.methodLink RL 79 yX2_off, Cond.instanceMethod yX2_off, Cond.selects RX2 yX2_off yX2_off, Cond.code yX2_off cX2_off 5 (some .int), Cond.methodLink RX2 162 yX1_distance, Cond.methodLink RL 82 yX3_off, Cond.instanceMethod yX3_off, Cond.selects RX3 yX3_off yX3_off, Cond.code yX3_off cX3_off 3 (some .int), Cond.methodLink RL 83 yX2_span, Cond.instanceMethod yX2_span, Cond.selects RX2 yX2_span yX2_span, Cond.code yX2_span cX2_span 8 (some .int), Cond.methodLink RX2 166 yX0_nextSpan]
def wsL_law_r21 : List Cond := [Cond.instanceMethod yX0_nextSpan, Cond.selects RX0 yX0_nextSpan yX0_nextSpan, Cond.code yX0_nextSpan cX0_nextSpan 8 (some .int), Cond.methodLink RX2 169 yX2_spanFact, Cond.instanceMethod yX2_spanFact, Cond.selects RX2 yX2_spanFact yX2_spanFact, Cond.code yX2_spanFact cX2_spanFact 5 (some .int), Cond.methodLink RL 86 yX3_span, Cond.instanceMethod yX3_span, Cond.selects RX3 yX3_span yX3_span, Cond.code yX3_span cX3_span 8 (some .int), Cond.methodLink RX3 149 yX3_keepFirst, Cond.instanceMethod yX3_keepFirst, Cond.selects RX3 yX3_keepFirst yX3_keepFirst, Cond.code yX3_keepFirst cX3_keepFirst 2 none, Cond.methodLink RL 87 yX2_heirs, Cond.instanceMethod yX2_heirs, Cond.selects RX2 yX2_heirs yX2_heirs, Cond.code yX2_heirs cX2_heirs 8 (some .int), Cond.methodLink RX2 173 yX2_has, Cond.methodLink RL 90 yX3_heirs, Cond.instanceMethod yX3_heirs, Cond.selects RX3 yX3_heirs yX3_heirs, Cond.code yX3_heirs cX3_heirs 7 (some .int)]
def wsL_law_r22 : List Cond := [Cond.methodLink RL 91 yX2_image, Cond.instanceMethod yX2_image, Cond.selects RX2 yX2_image yX2_image, Cond.code yX2_image cX2_image 2 (some .int), Cond.methodLink RX2 176 yX0_becomeLike, Cond.instanceMethod yX0_becomeLike, Cond.selects RX0 yX0_becomeLike yX0_becomeLike, Cond.code yX0_becomeLike cX0_becomeLike 2 none, Cond.methodLink RX0 42 arraycopyName, Cond.native arraycopyName, Cond.static arraycopyName, Cond.initialized "java/lang/System", Cond.methodLink RL 94 yX3_image, Cond.instanceMethod yX3_image, Cond.selects RX3 yX3_image yX3_image, Cond.code yX3_image cX3_image 3 (some .int), Cond.methodLink RL 95 yX2_restore, Cond.instanceMethod yX2_restore, Cond.selects RX2 yX2_restore yX2_restore, Cond.code yX2_restore cX2_restore 2 (some .int), Cond.methodLink RL 98 yX3_restore, Cond.instanceMethod yX3_restore, Cond.selects RX3 yX3_restore yX3_restore, Cond.code yX3_restore cX3_restore 3 (some .int)]
def wsL_law_r23 : List Cond := [Cond.methodLink RL 99 yX2_count, Cond.instanceMethod yX2_count, Cond.selects RX2 yX2_count yX2_count, Cond.code yX2_count cX2_count 2 (some .int), Cond.methodLink RX2 180 yX0_parishesNow, Cond.instanceMethod yX0_parishesNow, Cond.selects RX0 yX0_parishesNow yX0_parishesNow, Cond.code yX0_parishesNow cX0_parishesNow 3 (some .int), Cond.methodLink RX0 103 yX0_sitesNow, Cond.methodLink RX2 183 yX0_unlikeNamesNow, Cond.instanceMethod yX0_unlikeNamesNow, Cond.selects RX0 yX0_unlikeNamesNow yX0_unlikeNamesNow, Cond.code yX0_unlikeNamesNow cX0_unlikeNamesNow 3 (some .int), Cond.methodLink RX0 106 yX0_isNameOfLesser, Cond.instanceMethod yX0_isNameOfLesser, Cond.selects RX0 yX0_isNameOfLesser yX0_isNameOfLesser, Cond.code yX0_isNameOfLesser cX0_isNameOfLesser 5 (some .boolean), Cond.methodLink RX2 186 yX0_eventsOfKind, Cond.instanceMethod yX0_eventsOfKind, Cond.selects RX0 yX0_eventsOfKind yX0_eventsOfKind, Cond.code yX0_eventsOfKind cX0_eventsOfKind 4 (some .int), Cond.methodLink RL 102 yX3_count, Cond.instanceMethod yX3_count, Cond.selects RX3 yX3_count yX3_count]
def wsL_law_r24 : List Cond := [Cond.code yX3_count cX3_count 2 (some .int), Cond.methodLink RX3 152 yX3_ofKind, Cond.instanceMethod yX3_ofKind, Cond.selects RX3 yX3_ofKind yX3_ofKind, Cond.code yX3_ofKind cX3_ofKind 4 (some .int), Cond.methodLink RX3 155 yX3_thereNow, Cond.instanceMethod yX3_thereNow, Cond.selects RX3 yX3_thereNow yX3_thereNow, Cond.code yX3_thereNow cX3_thereNow 3 (some .int), Cond.methodLink RX3 158 yX3_namesNow, Cond.instanceMethod yX3_namesNow, Cond.selects RX3 yX3_namesNow yX3_namesNow, Cond.code yX3_namesNow cX3_namesNow 5 (some .int)]
def wsL_law : List Cond := (wsL_law_r1 ++ (wsL_law_r2 ++ (wsL_law_r3 ++ (wsL_law_r4 ++ (wsL_law_r5 ++ (wsL_law_r6 ++ (wsL_law_r7 ++ (wsL_law_r8 ++ (wsL_law_r9 ++ (wsL_law_r10 ++ (wsL_law_r11 ++ (wsL_law_r12 ++ (wsL_law_r13 ++ (wsL_law_r14 ++ (wsL_law_r15 ++ (wsL_law_r16 ++ (wsL_law_r17 ++ (wsL_law_r18 ++ (wsL_law_r19 ++ (wsL_law_r20 ++ (wsL_law_r21 ++ (wsL_law_r22 ++ (wsL_law_r23 ++ wsL_law_r24))))))))))))))))))))))) ++ wsX20 ++ wsX30 ++ wsX00 ++ wsX10 ++ ([] : List Cond)
abbrev vwCl : List vw_C := [(RX0, TX0, 8), (RX1, TX1, 1), (RX2, TX2, 5), (RX3, TX3, 16)]
end
section
theorem dX0_init_0 : decode cX0_init 0 = .ok (.aload_n 0, 1) := by decide +kernel
theorem dX0_init_1 : decode cX0_init 1 = .ok (.invokespecial 3, 3) := by decide +kernel
theorem dX0_init_4 : decode cX0_init 4 = .ok (.aload_n 0, 1) := by decide +kernel
theorem dX0_init_5 : decode cX0_init 5 = .ok (.bipush 30, 2) := by decide +kernel
theorem dX0_init_7 : decode cX0_init 7 = .ok (.newarray .int, 2) := by decide +kernel
theorem dX0_init_9 : decode cX0_init 9 = .ok (.putfield 9, 3) := by decide +kernel
theorem dX0_init_12 : decode cX0_init 12 = .ok (.aload_n 0, 1) := by decide +kernel
theorem dX0_init_13 : decode cX0_init 13 = .ok (.bipush 30, 2) := by decide +kernel
theorem dX0_init_15 : decode cX0_init 15 = .ok (.newarray .int, 2) := by decide +kernel
theorem dX0_init_17 : decode cX0_init 17 = .ok (.putfield 15, 3) := by decide +kernel
theorem dX0_init_20 : decode cX0_init 20 = .ok (.aload_n 0, 1) := by decide +kernel
theorem dX0_init_21 : decode cX0_init 21 = .ok (.bipush 30, 2) := by decide +kernel
theorem dX0_init_23 : decode cX0_init 23 = .ok (.newarray .int, 2) := by decide +kernel
theorem dX0_init_25 : decode cX0_init 25 = .ok (.putfield 18, 3) := by decide +kernel
theorem dX0_init_28 : decode cX0_init 28 = .ok (.aload_n 0, 1) := by decide +kernel
theorem dX0_init_29 : decode cX0_init 29 = .ok (.bipush 30, 2) := by decide +kernel
theorem dX0_init_31 : decode cX0_init 31 = .ok (.newarray .int, 2) := by decide +kernel
theorem dX0_init_33 : decode cX0_init 33 = .ok (.putfield 21, 3) := by decide +kernel
theorem dX0_init_36 : decode cX0_init 36 = .ok (.aload_n 0, 1) := by decide +kernel
theorem dX0_init_37 : decode cX0_init 37 = .ok (.bipush 30, 2) := by decide +kernel
theorem dX0_init_39 : decode cX0_init 39 = .ok (.newarray .int, 2) := by decide +kernel
theorem dX0_init_41 : decode cX0_init 41 = .ok (.putfield 24, 3) := by decide +kernel
theorem dX0_init_44 : decode cX0_init 44 = .ok (.aload_n 0, 1) := by decide +kernel
theorem dX0_init_45 : decode cX0_init 45 = .ok (.bipush 30, 2) := by decide +kernel
theorem dX0_init_47 : decode cX0_init 47 = .ok (.newarray .long, 2) := by decide +kernel
theorem dX0_init_49 : decode cX0_init 49 = .ok (.putfield 27, 3) := by decide +kernel
theorem dX0_init_52 : decode cX0_init 52 = .ok (.aload_n 0, 1) := by decide +kernel
theorem dX0_init_53 : decode cX0_init 53 = .ok (.iconst 0, 1) := by decide +kernel
theorem dX0_init_54 : decode cX0_init 54 = .ok (.putfield 31, 3) := by decide +kernel
theorem dX0_init_57 : decode cX0_init 57 = .ok (.aload_n 0, 1) := by decide +kernel
theorem dX0_init_58 : decode cX0_init 58 = .ok (.iconst 1, 1) := by decide +kernel
theorem dX0_init_59 : decode cX0_init 59 = .ok (.putfield 35, 3) := by decide +kernel
theorem dX0_init_62 : decode cX0_init 62 = .ok (.return_, 1) := by decide +kernel
theorem dX0_eventCount_0 : decode cX0_eventCount 0 = .ok (.aload_n 0, 1) := by decide +kernel
theorem dX0_eventCount_1 : decode cX0_eventCount 1 = .ok (.getfield 31, 3) := by decide +kernel
theorem dX0_eventCount_4 : decode cX0_eventCount 4 = .ok (.ireturn, 1) := by decide +kernel
theorem dX0_lastEvent_0 : decode cX0_lastEvent 0 = .ok (.aload_n 0, 1) := by decide +kernel
theorem dX0_lastEvent_1 : decode cX0_lastEvent 1 = .ok (.getfield 31, 3) := by decide +kernel
theorem dX0_lastEvent_4 : decode cX0_lastEvent 4 = .ok (.iconst 1, 1) := by decide +kernel
theorem dX0_lastEvent_5 : decode cX0_lastEvent 5 = .ok (.isub, 1) := by decide +kernel
theorem dX0_lastEvent_6 : decode cX0_lastEvent 6 = .ok (.ireturn, 1) := by decide +kernel
theorem dX0_parishCount_0 : decode cX0_parishCount 0 = .ok (.aload_n 0, 1) := by decide +kernel
theorem dX0_parishCount_1 : decode cX0_parishCount 1 = .ok (.getfield 35, 3) := by decide +kernel
theorem dX0_parishCount_4 : decode cX0_parishCount 4 = .ok (.ireturn, 1) := by decide +kernel
theorem dX0_isFull_0 : decode cX0_isFull 0 = .ok (.aload_n 0, 1) := by decide +kernel
theorem dX0_isFull_1 : decode cX0_isFull 1 = .ok (.getfield 31, 3) := by decide +kernel
theorem dX0_isFull_4 : decode cX0_isFull 4 = .ok (.bipush 30, 2) := by decide +kernel
theorem dX0_isFull_6 : decode cX0_isFull 6 = .ok (.if_icmp .lt 7, 3) := by decide +kernel
theorem dX0_isFull_9 : decode cX0_isFull 9 = .ok (.iconst 1, 1) := by decide +kernel
theorem dX0_isFull_10 : decode cX0_isFull 10 = .ok (.goto 4, 3) := by decide +kernel
theorem dX0_isFull_13 : decode cX0_isFull 13 = .ok (.iconst 0, 1) := by decide +kernel
theorem dX0_isFull_14 : decode cX0_isFull 14 = .ok (.ireturn, 1) := by decide +kernel
theorem dX0_knows_0 : decode cX0_knows 0 = .ok (.iload_n 1, 1) := by decide +kernel
theorem dX0_knows_1 : decode cX0_knows 1 = .ok (.ifCond .lt 15, 3) := by decide +kernel
theorem dX0_knows_4 : decode cX0_knows 4 = .ok (.iload_n 1, 1) := by decide +kernel
theorem dX0_knows_5 : decode cX0_knows 5 = .ok (.aload_n 0, 1) := by decide +kernel
theorem dX0_knows_6 : decode cX0_knows 6 = .ok (.getfield 35, 3) := by decide +kernel
theorem dX0_knows_9 : decode cX0_knows 9 = .ok (.if_icmp .ge 7, 3) := by decide +kernel
theorem dX0_knows_12 : decode cX0_knows 12 = .ok (.iconst 1, 1) := by decide +kernel
theorem dX0_knows_13 : decode cX0_knows 13 = .ok (.goto 4, 3) := by decide +kernel
theorem dX0_knows_16 : decode cX0_knows 16 = .ok (.iconst 0, 1) := by decide +kernel
theorem dX0_knows_17 : decode cX0_knows 17 = .ok (.ireturn, 1) := by decide +kernel
theorem dX0_yearOfLast_0 : decode cX0_yearOfLast 0 = .ok (.aload_n 0, 1) := by decide +kernel
theorem dX0_yearOfLast_1 : decode cX0_yearOfLast 1 = .ok (.getfield 31, 3) := by decide +kernel
theorem dX0_yearOfLast_4 : decode cX0_yearOfLast 4 = .ok (.ifCond .ne 7, 3) := by decide +kernel
theorem dX0_yearOfLast_7 : decode cX0_yearOfLast 7 = .ok (.iconst 0, 1) := by decide +kernel
theorem dX0_yearOfLast_8 : decode cX0_yearOfLast 8 = .ok (.goto 14, 3) := by decide +kernel
theorem dX0_yearOfLast_11 : decode cX0_yearOfLast 11 = .ok (.aload_n 0, 1) := by decide +kernel
theorem dX0_yearOfLast_12 : decode cX0_yearOfLast 12 = .ok (.getfield 15, 3) := by decide +kernel
theorem dX0_yearOfLast_15 : decode cX0_yearOfLast 15 = .ok (.aload_n 0, 1) := by decide +kernel
theorem dX0_yearOfLast_16 : decode cX0_yearOfLast 16 = .ok (.getfield 31, 3) := by decide +kernel
theorem dX0_yearOfLast_19 : decode cX0_yearOfLast 19 = .ok (.iconst 1, 1) := by decide +kernel
theorem dX0_yearOfLast_20 : decode cX0_yearOfLast 20 = .ok (.isub, 1) := by decide +kernel
theorem dX0_yearOfLast_21 : decode cX0_yearOfLast 21 = .ok (.iaload, 1) := by decide +kernel
theorem dX0_yearOfLast_22 : decode cX0_yearOfLast 22 = .ok (.ireturn, 1) := by decide +kernel
set_option maxRecDepth 20000 in
theorem ggX0_tell_X0_isFull : GoodIn wsX0_tell wsX0_isFull := goodIn_r _ [13, 2, 14, 15, 16, 17, 18, 19, 20, 21] (by decide +kernel) (by decide +kernel)
set_option maxRecDepth 20000 in
theorem gX0_tell_X0_isFull : GoodIn wsX0_tell (wsV RX0 38 RX0 yX0_isFull wsX0_isFull) := goodIn_app (goodIn_of _ (by decide +kernel)) ggX0_tell_X0_isFull
theorem dX0_tell_0 : decode cX0_tell 0 = .ok (.aload_n 0, 1) := by decide +kernel
theorem dX0_tell_1 : decode cX0_tell 1 = .ok (.invokevirtual 38, 3) := by decide +kernel
theorem dX0_tell_4 : decode cX0_tell 4 = .ok (.ifCond .eq 4, 3) := by decide +kernel
theorem dX0_tell_7 : decode cX0_tell 7 = .ok (.return_, 1) := by decide +kernel
theorem dX0_tell_8 : decode cX0_tell 8 = .ok (.aload_n 0, 1) := by decide +kernel
theorem dX0_tell_9 : decode cX0_tell 9 = .ok (.getfield 9, 3) := by decide +kernel
theorem dX0_tell_12 : decode cX0_tell 12 = .ok (.aload_n 0, 1) := by decide +kernel
theorem dX0_tell_13 : decode cX0_tell 13 = .ok (.getfield 31, 3) := by decide +kernel
theorem dX0_tell_16 : decode cX0_tell 16 = .ok (.iload_n 1, 1) := by decide +kernel
theorem dX0_tell_17 : decode cX0_tell 17 = .ok (.iastore, 1) := by decide +kernel
theorem dX0_tell_18 : decode cX0_tell 18 = .ok (.aload_n 0, 1) := by decide +kernel
theorem dX0_tell_19 : decode cX0_tell 19 = .ok (.getfield 15, 3) := by decide +kernel
theorem dX0_tell_22 : decode cX0_tell 22 = .ok (.aload_n 0, 1) := by decide +kernel
theorem dX0_tell_23 : decode cX0_tell 23 = .ok (.getfield 31, 3) := by decide +kernel
theorem dX0_tell_26 : decode cX0_tell 26 = .ok (.iload_n 2, 1) := by decide +kernel
theorem dX0_tell_27 : decode cX0_tell 27 = .ok (.iastore, 1) := by decide +kernel
theorem dX0_tell_28 : decode cX0_tell 28 = .ok (.aload_n 0, 1) := by decide +kernel
theorem dX0_tell_29 : decode cX0_tell 29 = .ok (.getfield 18, 3) := by decide +kernel
theorem dX0_tell_32 : decode cX0_tell 32 = .ok (.aload_n 0, 1) := by decide +kernel
theorem dX0_tell_33 : decode cX0_tell 33 = .ok (.getfield 31, 3) := by decide +kernel
theorem dX0_tell_36 : decode cX0_tell 36 = .ok (.iload_n 3, 1) := by decide +kernel
theorem dX0_tell_37 : decode cX0_tell 37 = .ok (.iastore, 1) := by decide +kernel
theorem dX0_tell_38 : decode cX0_tell 38 = .ok (.aload_n 0, 1) := by decide +kernel
theorem dX0_tell_39 : decode cX0_tell 39 = .ok (.getfield 21, 3) := by decide +kernel
theorem dX0_tell_42 : decode cX0_tell 42 = .ok (.aload_n 0, 1) := by decide +kernel
theorem dX0_tell_43 : decode cX0_tell 43 = .ok (.getfield 31, 3) := by decide +kernel
theorem dX0_tell_46 : decode cX0_tell 46 = .ok (.iload 4, 2) := by decide +kernel
theorem dX0_tell_48 : decode cX0_tell 48 = .ok (.iastore, 1) := by decide +kernel
theorem dX0_tell_49 : decode cX0_tell 49 = .ok (.aload_n 0, 1) := by decide +kernel
theorem dX0_tell_50 : decode cX0_tell 50 = .ok (.getfield 24, 3) := by decide +kernel
theorem dX0_tell_53 : decode cX0_tell 53 = .ok (.aload_n 0, 1) := by decide +kernel
theorem dX0_tell_54 : decode cX0_tell 54 = .ok (.getfield 31, 3) := by decide +kernel
theorem dX0_tell_57 : decode cX0_tell 57 = .ok (.iload 5, 2) := by decide +kernel
theorem dX0_tell_59 : decode cX0_tell 59 = .ok (.iastore, 1) := by decide +kernel
theorem dX0_tell_60 : decode cX0_tell 60 = .ok (.aload_n 0, 1) := by decide +kernel
theorem dX0_tell_61 : decode cX0_tell 61 = .ok (.getfield 27, 3) := by decide +kernel
theorem dX0_tell_64 : decode cX0_tell 64 = .ok (.aload_n 0, 1) := by decide +kernel
theorem dX0_tell_65 : decode cX0_tell 65 = .ok (.getfield 31, 3) := by decide +kernel
theorem dX0_tell_68 : decode cX0_tell 68 = .ok (.lload 6, 2) := by decide +kernel
theorem dX0_tell_70 : decode cX0_tell 70 = .ok (.lastore, 1) := by decide +kernel
theorem dX0_tell_71 : decode cX0_tell 71 = .ok (.aload_n 0, 1) := by decide +kernel
theorem dX0_tell_72 : decode cX0_tell 72 = .ok (.dup, 1) := by decide +kernel
theorem dX0_tell_73 : decode cX0_tell 73 = .ok (.getfield 31, 3) := by decide +kernel
theorem dX0_tell_76 : decode cX0_tell 76 = .ok (.iconst 1, 1) := by decide +kernel
theorem dX0_tell_77 : decode cX0_tell 77 = .ok (.iadd, 1) := by decide +kernel
theorem dX0_tell_78 : decode cX0_tell 78 = .ok (.putfield 31, 3) := by decide +kernel
theorem dX0_tell_81 : decode cX0_tell 81 = .ok (.iload_n 1, 1) := by decide +kernel
theorem dX0_tell_82 : decode cX0_tell 82 = .ok (.iconst 1, 1) := by decide +kernel
theorem dX0_tell_83 : decode cX0_tell 83 = .ok (.if_icmp .ne 13, 3) := by decide +kernel
theorem dX0_tell_86 : decode cX0_tell 86 = .ok (.aload_n 0, 1) := by decide +kernel
theorem dX0_tell_87 : decode cX0_tell 87 = .ok (.dup, 1) := by decide +kernel
theorem dX0_tell_88 : decode cX0_tell 88 = .ok (.getfield 35, 3) := by decide +kernel
theorem dX0_tell_91 : decode cX0_tell 91 = .ok (.iconst 1, 1) := by decide +kernel
theorem dX0_tell_92 : decode cX0_tell 92 = .ok (.iadd, 1) := by decide +kernel
theorem dX0_tell_93 : decode cX0_tell 93 = .ok (.putfield 35, 3) := by decide +kernel
theorem dX0_tell_96 : decode cX0_tell 96 = .ok (.return_, 1) := by decide +kernel
theorem dX0_forgetLast_0 : decode cX0_forgetLast 0 = .ok (.aload_n 0, 1) := by decide +kernel
theorem dX0_forgetLast_1 : decode cX0_forgetLast 1 = .ok (.getfield 31, 3) := by decide +kernel
theorem dX0_forgetLast_4 : decode cX0_forgetLast 4 = .ok (.ifCond .ne 4, 3) := by decide +kernel
theorem dX0_forgetLast_7 : decode cX0_forgetLast 7 = .ok (.return_, 1) := by decide +kernel
theorem dX0_forgetLast_8 : decode cX0_forgetLast 8 = .ok (.aload_n 0, 1) := by decide +kernel
theorem dX0_forgetLast_9 : decode cX0_forgetLast 9 = .ok (.dup, 1) := by decide +kernel
theorem dX0_forgetLast_10 : decode cX0_forgetLast 10 = .ok (.getfield 31, 3) := by decide +kernel
theorem dX0_forgetLast_13 : decode cX0_forgetLast 13 = .ok (.iconst 1, 1) := by decide +kernel
theorem dX0_forgetLast_14 : decode cX0_forgetLast 14 = .ok (.isub, 1) := by decide +kernel
theorem dX0_forgetLast_15 : decode cX0_forgetLast 15 = .ok (.putfield 31, 3) := by decide +kernel
theorem dX0_forgetLast_18 : decode cX0_forgetLast 18 = .ok (.aload_n 0, 1) := by decide +kernel
theorem dX0_forgetLast_19 : decode cX0_forgetLast 19 = .ok (.getfield 9, 3) := by decide +kernel
theorem dX0_forgetLast_22 : decode cX0_forgetLast 22 = .ok (.aload_n 0, 1) := by decide +kernel
theorem dX0_forgetLast_23 : decode cX0_forgetLast 23 = .ok (.getfield 31, 3) := by decide +kernel
theorem dX0_forgetLast_26 : decode cX0_forgetLast 26 = .ok (.iaload, 1) := by decide +kernel
theorem dX0_forgetLast_27 : decode cX0_forgetLast 27 = .ok (.iconst 1, 1) := by decide +kernel
theorem dX0_forgetLast_28 : decode cX0_forgetLast 28 = .ok (.if_icmp .ne 13, 3) := by decide +kernel
theorem dX0_forgetLast_31 : decode cX0_forgetLast 31 = .ok (.aload_n 0, 1) := by decide +kernel
theorem dX0_forgetLast_32 : decode cX0_forgetLast 32 = .ok (.dup, 1) := by decide +kernel
theorem dX0_forgetLast_33 : decode cX0_forgetLast 33 = .ok (.getfield 35, 3) := by decide +kernel
theorem dX0_forgetLast_36 : decode cX0_forgetLast 36 = .ok (.iconst 1, 1) := by decide +kernel
theorem dX0_forgetLast_37 : decode cX0_forgetLast 37 = .ok (.isub, 1) := by decide +kernel
theorem dX0_forgetLast_38 : decode cX0_forgetLast 38 = .ok (.putfield 35, 3) := by decide +kernel
theorem dX0_forgetLast_41 : decode cX0_forgetLast 41 = .ok (.return_, 1) := by decide +kernel
theorem dX0_becomeLike_0 : decode cX0_becomeLike 0 = .ok (.aload_n 1, 1) := by decide +kernel
theorem dX0_becomeLike_1 : decode cX0_becomeLike 1 = .ok (.getfield 9, 3) := by decide +kernel
theorem dX0_becomeLike_4 : decode cX0_becomeLike 4 = .ok (.iconst 0, 1) := by decide +kernel
theorem dX0_becomeLike_5 : decode cX0_becomeLike 5 = .ok (.aload_n 0, 1) := by decide +kernel
theorem dX0_becomeLike_6 : decode cX0_becomeLike 6 = .ok (.getfield 9, 3) := by decide +kernel
theorem dX0_becomeLike_9 : decode cX0_becomeLike 9 = .ok (.iconst 0, 1) := by decide +kernel
theorem dX0_becomeLike_10 : decode cX0_becomeLike 10 = .ok (.bipush 30, 2) := by decide +kernel
theorem dX0_becomeLike_12 : decode cX0_becomeLike 12 = .ok (.invokestatic 42, 3) := by decide +kernel
theorem dX0_becomeLike_15 : decode cX0_becomeLike 15 = .ok (.aload_n 1, 1) := by decide +kernel
theorem dX0_becomeLike_16 : decode cX0_becomeLike 16 = .ok (.getfield 15, 3) := by decide +kernel
theorem dX0_becomeLike_19 : decode cX0_becomeLike 19 = .ok (.iconst 0, 1) := by decide +kernel
theorem dX0_becomeLike_20 : decode cX0_becomeLike 20 = .ok (.aload_n 0, 1) := by decide +kernel
theorem dX0_becomeLike_21 : decode cX0_becomeLike 21 = .ok (.getfield 15, 3) := by decide +kernel
theorem dX0_becomeLike_24 : decode cX0_becomeLike 24 = .ok (.iconst 0, 1) := by decide +kernel
theorem dX0_becomeLike_25 : decode cX0_becomeLike 25 = .ok (.bipush 30, 2) := by decide +kernel
theorem dX0_becomeLike_27 : decode cX0_becomeLike 27 = .ok (.invokestatic 42, 3) := by decide +kernel
theorem dX0_becomeLike_30 : decode cX0_becomeLike 30 = .ok (.aload_n 1, 1) := by decide +kernel
theorem dX0_becomeLike_31 : decode cX0_becomeLike 31 = .ok (.getfield 18, 3) := by decide +kernel
theorem dX0_becomeLike_34 : decode cX0_becomeLike 34 = .ok (.iconst 0, 1) := by decide +kernel
theorem dX0_becomeLike_35 : decode cX0_becomeLike 35 = .ok (.aload_n 0, 1) := by decide +kernel
theorem dX0_becomeLike_36 : decode cX0_becomeLike 36 = .ok (.getfield 18, 3) := by decide +kernel
theorem dX0_becomeLike_39 : decode cX0_becomeLike 39 = .ok (.iconst 0, 1) := by decide +kernel
theorem dX0_becomeLike_40 : decode cX0_becomeLike 40 = .ok (.bipush 30, 2) := by decide +kernel
theorem dX0_becomeLike_42 : decode cX0_becomeLike 42 = .ok (.invokestatic 42, 3) := by decide +kernel
theorem dX0_becomeLike_45 : decode cX0_becomeLike 45 = .ok (.aload_n 1, 1) := by decide +kernel
theorem dX0_becomeLike_46 : decode cX0_becomeLike 46 = .ok (.getfield 21, 3) := by decide +kernel
theorem dX0_becomeLike_49 : decode cX0_becomeLike 49 = .ok (.iconst 0, 1) := by decide +kernel
theorem dX0_becomeLike_50 : decode cX0_becomeLike 50 = .ok (.aload_n 0, 1) := by decide +kernel
theorem dX0_becomeLike_51 : decode cX0_becomeLike 51 = .ok (.getfield 21, 3) := by decide +kernel
theorem dX0_becomeLike_54 : decode cX0_becomeLike 54 = .ok (.iconst 0, 1) := by decide +kernel
theorem dX0_becomeLike_55 : decode cX0_becomeLike 55 = .ok (.bipush 30, 2) := by decide +kernel
theorem dX0_becomeLike_57 : decode cX0_becomeLike 57 = .ok (.invokestatic 42, 3) := by decide +kernel
theorem dX0_becomeLike_60 : decode cX0_becomeLike 60 = .ok (.aload_n 1, 1) := by decide +kernel
theorem dX0_becomeLike_61 : decode cX0_becomeLike 61 = .ok (.getfield 24, 3) := by decide +kernel
theorem dX0_becomeLike_64 : decode cX0_becomeLike 64 = .ok (.iconst 0, 1) := by decide +kernel
theorem dX0_becomeLike_65 : decode cX0_becomeLike 65 = .ok (.aload_n 0, 1) := by decide +kernel
theorem dX0_becomeLike_66 : decode cX0_becomeLike 66 = .ok (.getfield 24, 3) := by decide +kernel
theorem dX0_becomeLike_69 : decode cX0_becomeLike 69 = .ok (.iconst 0, 1) := by decide +kernel
theorem dX0_becomeLike_70 : decode cX0_becomeLike 70 = .ok (.bipush 30, 2) := by decide +kernel
theorem dX0_becomeLike_72 : decode cX0_becomeLike 72 = .ok (.invokestatic 42, 3) := by decide +kernel
theorem dX0_becomeLike_75 : decode cX0_becomeLike 75 = .ok (.aload_n 1, 1) := by decide +kernel
theorem dX0_becomeLike_76 : decode cX0_becomeLike 76 = .ok (.getfield 27, 3) := by decide +kernel
theorem dX0_becomeLike_79 : decode cX0_becomeLike 79 = .ok (.iconst 0, 1) := by decide +kernel
theorem dX0_becomeLike_80 : decode cX0_becomeLike 80 = .ok (.aload_n 0, 1) := by decide +kernel
theorem dX0_becomeLike_81 : decode cX0_becomeLike 81 = .ok (.getfield 27, 3) := by decide +kernel
theorem dX0_becomeLike_84 : decode cX0_becomeLike 84 = .ok (.iconst 0, 1) := by decide +kernel
theorem dX0_becomeLike_85 : decode cX0_becomeLike 85 = .ok (.bipush 30, 2) := by decide +kernel
theorem dX0_becomeLike_87 : decode cX0_becomeLike 87 = .ok (.invokestatic 42, 3) := by decide +kernel
theorem dX0_becomeLike_90 : decode cX0_becomeLike 90 = .ok (.aload_n 0, 1) := by decide +kernel
theorem dX0_becomeLike_91 : decode cX0_becomeLike 91 = .ok (.aload_n 1, 1) := by decide +kernel
theorem dX0_becomeLike_92 : decode cX0_becomeLike 92 = .ok (.getfield 31, 3) := by decide +kernel
theorem dX0_becomeLike_95 : decode cX0_becomeLike 95 = .ok (.putfield 31, 3) := by decide +kernel
theorem dX0_becomeLike_98 : decode cX0_becomeLike 98 = .ok (.aload_n 0, 1) := by decide +kernel
theorem dX0_becomeLike_99 : decode cX0_becomeLike 99 = .ok (.aload_n 1, 1) := by decide +kernel
theorem dX0_becomeLike_100 : decode cX0_becomeLike 100 = .ok (.getfield 35, 3) := by decide +kernel
theorem dX0_becomeLike_103 : decode cX0_becomeLike 103 = .ok (.putfield 35, 3) := by decide +kernel
theorem dX0_becomeLike_106 : decode cX0_becomeLike 106 = .ok (.return_, 1) := by decide +kernel
theorem dX0_factOf_0 : decode cX0_factOf 0 = .ok (.iload_n 1, 1) := by decide +kernel
theorem dX0_factOf_1 : decode cX0_factOf 1 = .ok (.ifCond .lt 11, 3) := by decide +kernel
theorem dX0_factOf_4 : decode cX0_factOf 4 = .ok (.iload_n 1, 1) := by decide +kernel
theorem dX0_factOf_5 : decode cX0_factOf 5 = .ok (.aload_n 0, 1) := by decide +kernel
theorem dX0_factOf_6 : decode cX0_factOf 6 = .ok (.getfield 31, 3) := by decide +kernel
theorem dX0_factOf_9 : decode cX0_factOf 9 = .ok (.if_icmp .lt 6, 3) := by decide +kernel
theorem dX0_factOf_12 : decode cX0_factOf 12 = .ok (.bipush (-6), 2) := by decide +kernel
theorem dX0_factOf_14 : decode cX0_factOf 14 = .ok (.ireturn, 1) := by decide +kernel
theorem dX0_factOf_15 : decode cX0_factOf 15 = .ok (.iload_n 2, 1) := by decide +kernel
theorem dX0_factOf_16 : decode cX0_factOf 16 = .ok (.tableswitch 74 0 3 #[32, 39, 46, 53], 32) := by decide +kernel
theorem dX0_factOf_48 : decode cX0_factOf 48 = .ok (.aload_n 0, 1) := by decide +kernel
theorem dX0_factOf_49 : decode cX0_factOf 49 = .ok (.getfield 9, 3) := by decide +kernel
theorem dX0_factOf_52 : decode cX0_factOf 52 = .ok (.iload_n 1, 1) := by decide +kernel
theorem dX0_factOf_53 : decode cX0_factOf 53 = .ok (.iaload, 1) := by decide +kernel
theorem dX0_factOf_54 : decode cX0_factOf 54 = .ok (.ireturn, 1) := by decide +kernel
theorem dX0_factOf_55 : decode cX0_factOf 55 = .ok (.aload_n 0, 1) := by decide +kernel
theorem dX0_factOf_56 : decode cX0_factOf 56 = .ok (.getfield 15, 3) := by decide +kernel
theorem dX0_factOf_59 : decode cX0_factOf 59 = .ok (.iload_n 1, 1) := by decide +kernel
theorem dX0_factOf_60 : decode cX0_factOf 60 = .ok (.iaload, 1) := by decide +kernel
theorem dX0_factOf_61 : decode cX0_factOf 61 = .ok (.ireturn, 1) := by decide +kernel
theorem dX0_factOf_62 : decode cX0_factOf 62 = .ok (.aload_n 0, 1) := by decide +kernel
theorem dX0_factOf_63 : decode cX0_factOf 63 = .ok (.getfield 18, 3) := by decide +kernel
theorem dX0_factOf_66 : decode cX0_factOf 66 = .ok (.iload_n 1, 1) := by decide +kernel
theorem dX0_factOf_67 : decode cX0_factOf 67 = .ok (.iaload, 1) := by decide +kernel
theorem dX0_factOf_68 : decode cX0_factOf 68 = .ok (.ireturn, 1) := by decide +kernel
theorem dX0_factOf_69 : decode cX0_factOf 69 = .ok (.aload_n 0, 1) := by decide +kernel
theorem dX0_factOf_70 : decode cX0_factOf 70 = .ok (.getfield 9, 3) := by decide +kernel
theorem dX0_factOf_73 : decode cX0_factOf 73 = .ok (.iload_n 1, 1) := by decide +kernel
theorem dX0_factOf_74 : decode cX0_factOf 74 = .ok (.iaload, 1) := by decide +kernel
theorem dX0_factOf_75 : decode cX0_factOf 75 = .ok (.ifCond .ne 8, 3) := by decide +kernel
theorem dX0_factOf_78 : decode cX0_factOf 78 = .ok (.bipush (-6), 2) := by decide +kernel
theorem dX0_factOf_80 : decode cX0_factOf 80 = .ok (.goto 9, 3) := by decide +kernel
theorem dX0_factOf_83 : decode cX0_factOf 83 = .ok (.aload_n 0, 1) := by decide +kernel
theorem dX0_factOf_84 : decode cX0_factOf 84 = .ok (.getfield 21, 3) := by decide +kernel
theorem dX0_factOf_87 : decode cX0_factOf 87 = .ok (.iload_n 1, 1) := by decide +kernel
theorem dX0_factOf_88 : decode cX0_factOf 88 = .ok (.iaload, 1) := by decide +kernel
theorem dX0_factOf_89 : decode cX0_factOf 89 = .ok (.ireturn, 1) := by decide +kernel
theorem dX0_factOf_90 : decode cX0_factOf 90 = .ok (.aload_n 0, 1) := by decide +kernel
theorem dX0_factOf_91 : decode cX0_factOf 91 = .ok (.getfield 9, 3) := by decide +kernel
theorem dX0_factOf_94 : decode cX0_factOf 94 = .ok (.iload_n 1, 1) := by decide +kernel
theorem dX0_factOf_95 : decode cX0_factOf 95 = .ok (.iaload, 1) := by decide +kernel
theorem dX0_factOf_96 : decode cX0_factOf 96 = .ok (.ifCond .ne 8, 3) := by decide +kernel
theorem dX0_factOf_99 : decode cX0_factOf 99 = .ok (.bipush (-6), 2) := by decide +kernel
theorem dX0_factOf_101 : decode cX0_factOf 101 = .ok (.goto 9, 3) := by decide +kernel
theorem dX0_factOf_104 : decode cX0_factOf 104 = .ok (.aload_n 0, 1) := by decide +kernel
theorem dX0_factOf_105 : decode cX0_factOf 105 = .ok (.getfield 24, 3) := by decide +kernel
theorem dX0_factOf_108 : decode cX0_factOf 108 = .ok (.iload_n 1, 1) := by decide +kernel
theorem dX0_factOf_109 : decode cX0_factOf 109 = .ok (.iaload, 1) := by decide +kernel
theorem dX0_factOf_110 : decode cX0_factOf 110 = .ok (.ireturn, 1) := by decide +kernel
theorem dX0_firstYear_0 : decode cX0_firstYear 0 = .ok (.iload_n 1, 1) := by decide +kernel
theorem dX0_firstYear_1 : decode cX0_firstYear 1 = .ok (.ifCond .le 11, 3) := by decide +kernel
theorem dX0_firstYear_4 : decode cX0_firstYear 4 = .ok (.iload_n 1, 1) := by decide +kernel
theorem dX0_firstYear_5 : decode cX0_firstYear 5 = .ok (.aload_n 0, 1) := by decide +kernel
theorem dX0_firstYear_6 : decode cX0_firstYear 6 = .ok (.getfield 31, 3) := by decide +kernel
theorem dX0_firstYear_9 : decode cX0_firstYear 9 = .ok (.if_icmp .le 7, 3) := by decide +kernel
theorem dX0_firstYear_12 : decode cX0_firstYear 12 = .ok (.iconst 0, 1) := by decide +kernel
theorem dX0_firstYear_13 : decode cX0_firstYear 13 = .ok (.goto 11, 3) := by decide +kernel
theorem dX0_firstYear_16 : decode cX0_firstYear 16 = .ok (.aload_n 0, 1) := by decide +kernel
theorem dX0_firstYear_17 : decode cX0_firstYear 17 = .ok (.getfield 15, 3) := by decide +kernel
theorem dX0_firstYear_20 : decode cX0_firstYear 20 = .ok (.iload_n 1, 1) := by decide +kernel
theorem dX0_firstYear_21 : decode cX0_firstYear 21 = .ok (.iconst 1, 1) := by decide +kernel
theorem dX0_firstYear_22 : decode cX0_firstYear 22 = .ok (.isub, 1) := by decide +kernel
theorem dX0_firstYear_23 : decode cX0_firstYear 23 = .ok (.iaload, 1) := by decide +kernel
theorem dX0_firstYear_24 : decode cX0_firstYear 24 = .ok (.ireturn, 1) := by decide +kernel
theorem dX0_lastYear_0 : decode cX0_lastYear 0 = .ok (.iload_n 1, 1) := by decide +kernel
theorem dX0_lastYear_1 : decode cX0_lastYear 1 = .ok (.ifCond .lt 11, 3) := by decide +kernel
theorem dX0_lastYear_4 : decode cX0_lastYear 4 = .ok (.iload_n 1, 1) := by decide +kernel
theorem dX0_lastYear_5 : decode cX0_lastYear 5 = .ok (.aload_n 0, 1) := by decide +kernel
theorem dX0_lastYear_6 : decode cX0_lastYear 6 = .ok (.getfield 31, 3) := by decide +kernel
theorem dX0_lastYear_9 : decode cX0_lastYear 9 = .ok (.if_icmp .lt 9, 3) := by decide +kernel
theorem dX0_lastYear_12 : decode cX0_lastYear 12 = .ok (.sipush 999, 3) := by decide +kernel
theorem dX0_lastYear_15 : decode cX0_lastYear 15 = .ok (.goto 11, 3) := by decide +kernel
theorem dX0_lastYear_18 : decode cX0_lastYear 18 = .ok (.aload_n 0, 1) := by decide +kernel
theorem dX0_lastYear_19 : decode cX0_lastYear 19 = .ok (.getfield 15, 3) := by decide +kernel
theorem dX0_lastYear_22 : decode cX0_lastYear 22 = .ok (.iload_n 1, 1) := by decide +kernel
theorem dX0_lastYear_23 : decode cX0_lastYear 23 = .ok (.iaload, 1) := by decide +kernel
theorem dX0_lastYear_24 : decode cX0_lastYear 24 = .ok (.iconst 1, 1) := by decide +kernel
theorem dX0_lastYear_25 : decode cX0_lastYear 25 = .ok (.isub, 1) := by decide +kernel
theorem dX0_lastYear_26 : decode cX0_lastYear 26 = .ok (.ireturn, 1) := by decide +kernel
set_option maxRecDepth 20000 in
theorem ggX0_holdsInAYear_X0_firstYear : GoodIn wsX0_holdsInAYear wsX0_firstYear := goodIn_r _ [5, 6, 7, 12, 13, 14, 15, 16, 17, 18, 19] (by decide +kernel) (by decide +kernel)
set_option maxRecDepth 20000 in
theorem gX0_holdsInAYear_X0_firstYear : GoodIn wsX0_holdsInAYear (wsV RX0 48 RX0 yX0_firstYear wsX0_firstYear) := goodIn_app (goodIn_of _ (by decide +kernel)) ggX0_holdsInAYear_X0_firstYear
set_option maxRecDepth 20000 in
theorem ggX0_holdsInAYear_X0_lastYear : GoodIn wsX0_holdsInAYear wsX0_lastYear := goodIn_r _ [11, 6, 7, 12, 13, 14, 15, 16, 17, 18, 19] (by decide +kernel) (by decide +kernel)
set_option maxRecDepth 20000 in
theorem gX0_holdsInAYear_X0_lastYear : GoodIn wsX0_holdsInAYear (wsV RX0 52 RX0 yX0_lastYear wsX0_lastYear) := goodIn_app (goodIn_of _ (by decide +kernel)) ggX0_holdsInAYear_X0_lastYear
theorem dX0_holdsInAYear_0 : decode cX0_holdsInAYear 0 = .ok (.aload_n 0, 1) := by decide +kernel
theorem dX0_holdsInAYear_1 : decode cX0_holdsInAYear 1 = .ok (.iload_n 1, 1) := by decide +kernel
theorem dX0_holdsInAYear_2 : decode cX0_holdsInAYear 2 = .ok (.invokevirtual 48, 3) := by decide +kernel
theorem dX0_holdsInAYear_5 : decode cX0_holdsInAYear 5 = .ok (.aload_n 0, 1) := by decide +kernel
theorem dX0_holdsInAYear_6 : decode cX0_holdsInAYear 6 = .ok (.iload_n 1, 1) := by decide +kernel
theorem dX0_holdsInAYear_7 : decode cX0_holdsInAYear 7 = .ok (.invokevirtual 52, 3) := by decide +kernel
theorem dX0_holdsInAYear_10 : decode cX0_holdsInAYear 10 = .ok (.if_icmp .gt 7, 3) := by decide +kernel
theorem dX0_holdsInAYear_13 : decode cX0_holdsInAYear 13 = .ok (.iconst 1, 1) := by decide +kernel
theorem dX0_holdsInAYear_14 : decode cX0_holdsInAYear 14 = .ok (.goto 4, 3) := by decide +kernel
theorem dX0_holdsInAYear_17 : decode cX0_holdsInAYear 17 = .ok (.iconst 0, 1) := by decide +kernel
theorem dX0_holdsInAYear_18 : decode cX0_holdsInAYear 18 = .ok (.ireturn, 1) := by decide +kernel
theorem dX0_stageIn_0 : decode cX0_stageIn 0 = .ok (.iconst 0, 1) := by decide +kernel
theorem dX0_stageIn_1 : decode cX0_stageIn 1 = .ok (.istore_n 2, 1) := by decide +kernel
theorem dX0_stageIn_2 : decode cX0_stageIn 2 = .ok (.iload_n 2, 1) := by decide +kernel
theorem dX0_stageIn_3 : decode cX0_stageIn 3 = .ok (.aload_n 0, 1) := by decide +kernel
theorem dX0_stageIn_4 : decode cX0_stageIn 4 = .ok (.getfield 31, 3) := by decide +kernel
theorem dX0_stageIn_7 : decode cX0_stageIn 7 = .ok (.if_icmp .ge 19, 3) := by decide +kernel
theorem dX0_stageIn_10 : decode cX0_stageIn 10 = .ok (.aload_n 0, 1) := by decide +kernel
theorem dX0_stageIn_11 : decode cX0_stageIn 11 = .ok (.getfield 15, 3) := by decide +kernel
theorem dX0_stageIn_14 : decode cX0_stageIn 14 = .ok (.iload_n 2, 1) := by decide +kernel
theorem dX0_stageIn_15 : decode cX0_stageIn 15 = .ok (.iaload, 1) := by decide +kernel
theorem dX0_stageIn_16 : decode cX0_stageIn 16 = .ok (.iload_n 1, 1) := by decide +kernel
theorem dX0_stageIn_17 : decode cX0_stageIn 17 = .ok (.if_icmp .gt 9, 3) := by decide +kernel
theorem dX0_stageIn_20 : decode cX0_stageIn 20 = .ok (.iinc 2 1, 3) := by decide +kernel
theorem dX0_stageIn_23 : decode cX0_stageIn 23 = .ok (.goto (-21), 3) := by decide +kernel
theorem dX0_stageIn_26 : decode cX0_stageIn 26 = .ok (.iload_n 2, 1) := by decide +kernel
theorem dX0_stageIn_27 : decode cX0_stageIn 27 = .ok (.ireturn, 1) := by decide +kernel
theorem dX0_sitesAtFirst_0 : decode cX0_sitesAtFirst 0 = .ok (.iload_n 0, 1) := by decide +kernel
theorem dX0_sitesAtFirst_1 : decode cX0_sitesAtFirst 1 = .ok (.ifCond .ne 9, 3) := by decide +kernel
theorem dX0_sitesAtFirst_4 : decode cX0_sitesAtFirst 4 = .ok (.sipush 4095, 3) := by decide +kernel
theorem dX0_sitesAtFirst_7 : decode cX0_sitesAtFirst 7 = .ok (.goto 4, 3) := by decide +kernel
theorem dX0_sitesAtFirst_10 : decode cX0_sitesAtFirst 10 = .ok (.iconst 0, 1) := by decide +kernel
theorem dX0_sitesAtFirst_11 : decode cX0_sitesAtFirst 11 = .ok (.ireturn, 1) := by decide +kernel
set_option maxRecDepth 20000 in
theorem ggX0_nameAtFirst_X1_withLetter : GoodIn wsX0_nameAtFirst wsX1_withLetter := goodIn_r _ [4] (by decide +kernel) (by decide +kernel)
set_option maxRecDepth 20000 in
theorem gX0_nameAtFirst_X1_withLetter : GoodIn wsX0_nameAtFirst (va_wsS RX0 55 yX1_withLetter wsX1_withLetter) := goodIn_app (goodIn_of _ (by decide +kernel)) ggX0_nameAtFirst_X1_withLetter
theorem dX0_nameAtFirst_0 : decode cX0_nameAtFirst 0 = .ok (.iload_n 0, 1) := by decide +kernel
theorem dX0_nameAtFirst_1 : decode cX0_nameAtFirst 1 = .ok (.ifCond .ne 13, 3) := by decide +kernel
theorem dX0_nameAtFirst_4 : decode cX0_nameAtFirst 4 = .ok (.lconst 0, 1) := by decide +kernel
theorem dX0_nameAtFirst_5 : decode cX0_nameAtFirst 5 = .ok (.iconst 0, 1) := by decide +kernel
theorem dX0_nameAtFirst_6 : decode cX0_nameAtFirst 6 = .ok (.bipush 97, 2) := by decide +kernel
theorem dX0_nameAtFirst_8 : decode cX0_nameAtFirst 8 = .ok (.invokestatic 55, 3) := by decide +kernel
theorem dX0_nameAtFirst_11 : decode cX0_nameAtFirst 11 = .ok (.goto 4, 3) := by decide +kernel
theorem dX0_nameAtFirst_14 : decode cX0_nameAtFirst 14 = .ok (.lconst 0, 1) := by decide +kernel
theorem dX0_nameAtFirst_15 : decode cX0_nameAtFirst 15 = .ok (.lreturn, 1) := by decide +kernel
theorem dX0_sitesThrough_0 : decode cX0_sitesThrough 0 = .ok (.iload_n 1, 1) := by decide +kernel
theorem dX0_sitesThrough_1 : decode cX0_sitesThrough 1 = .ok (.ifCond .lt 11, 3) := by decide +kernel
theorem dX0_sitesThrough_4 : decode cX0_sitesThrough 4 = .ok (.iload_n 1, 1) := by decide +kernel
theorem dX0_sitesThrough_5 : decode cX0_sitesThrough 5 = .ok (.aload_n 0, 1) := by decide +kernel
theorem dX0_sitesThrough_6 : decode cX0_sitesThrough 6 = .ok (.getfield 31, 3) := by decide +kernel
theorem dX0_sitesThrough_9 : decode cX0_sitesThrough 9 = .ok (.if_icmp .lt 5, 3) := by decide +kernel
theorem dX0_sitesThrough_12 : decode cX0_sitesThrough 12 = .ok (.iload_n 3, 1) := by decide +kernel
theorem dX0_sitesThrough_13 : decode cX0_sitesThrough 13 = .ok (.ireturn, 1) := by decide +kernel
theorem dX0_sitesThrough_14 : decode cX0_sitesThrough 14 = .ok (.aload_n 0, 1) := by decide +kernel
theorem dX0_sitesThrough_15 : decode cX0_sitesThrough 15 = .ok (.getfield 18, 3) := by decide +kernel
theorem dX0_sitesThrough_18 : decode cX0_sitesThrough 18 = .ok (.iload_n 1, 1) := by decide +kernel
theorem dX0_sitesThrough_19 : decode cX0_sitesThrough 19 = .ok (.iaload, 1) := by decide +kernel
theorem dX0_sitesThrough_20 : decode cX0_sitesThrough 20 = .ok (.iload_n 2, 1) := by decide +kernel
theorem dX0_sitesThrough_21 : decode cX0_sitesThrough 21 = .ok (.if_icmp .ne 14, 3) := by decide +kernel
theorem dX0_sitesThrough_24 : decode cX0_sitesThrough 24 = .ok (.iload_n 3, 1) := by decide +kernel
theorem dX0_sitesThrough_25 : decode cX0_sitesThrough 25 = .ok (.aload_n 0, 1) := by decide +kernel
theorem dX0_sitesThrough_26 : decode cX0_sitesThrough 26 = .ok (.getfield 21, 3) := by decide +kernel
theorem dX0_sitesThrough_29 : decode cX0_sitesThrough 29 = .ok (.iload_n 1, 1) := by decide +kernel
theorem dX0_sitesThrough_30 : decode cX0_sitesThrough 30 = .ok (.iaload, 1) := by decide +kernel
theorem dX0_sitesThrough_31 : decode cX0_sitesThrough 31 = .ok (.iconst (-1), 1) := by decide +kernel
theorem dX0_sitesThrough_32 : decode cX0_sitesThrough 32 = .ok (.ixor, 1) := by decide +kernel
theorem dX0_sitesThrough_33 : decode cX0_sitesThrough 33 = .ok (.iand, 1) := by decide +kernel
theorem dX0_sitesThrough_34 : decode cX0_sitesThrough 34 = .ok (.ireturn, 1) := by decide +kernel
theorem dX0_sitesThrough_35 : decode cX0_sitesThrough 35 = .ok (.aload_n 0, 1) := by decide +kernel
theorem dX0_sitesThrough_36 : decode cX0_sitesThrough 36 = .ok (.getfield 24, 3) := by decide +kernel
theorem dX0_sitesThrough_39 : decode cX0_sitesThrough 39 = .ok (.iload_n 1, 1) := by decide +kernel
theorem dX0_sitesThrough_40 : decode cX0_sitesThrough 40 = .ok (.iaload, 1) := by decide +kernel
theorem dX0_sitesThrough_41 : decode cX0_sitesThrough 41 = .ok (.iload_n 2, 1) := by decide +kernel
theorem dX0_sitesThrough_42 : decode cX0_sitesThrough 42 = .ok (.if_icmp .ne 14, 3) := by decide +kernel
theorem dX0_sitesThrough_45 : decode cX0_sitesThrough 45 = .ok (.iload_n 3, 1) := by decide +kernel
theorem dX0_sitesThrough_46 : decode cX0_sitesThrough 46 = .ok (.aload_n 0, 1) := by decide +kernel
theorem dX0_sitesThrough_47 : decode cX0_sitesThrough 47 = .ok (.getfield 21, 3) := by decide +kernel
theorem dX0_sitesThrough_50 : decode cX0_sitesThrough 50 = .ok (.iload_n 1, 1) := by decide +kernel
theorem dX0_sitesThrough_51 : decode cX0_sitesThrough 51 = .ok (.iaload, 1) := by decide +kernel
theorem dX0_sitesThrough_52 : decode cX0_sitesThrough 52 = .ok (.ior, 1) := by decide +kernel
theorem dX0_sitesThrough_53 : decode cX0_sitesThrough 53 = .ok (.goto 4, 3) := by decide +kernel
theorem dX0_sitesThrough_56 : decode cX0_sitesThrough 56 = .ok (.iload_n 3, 1) := by decide +kernel
theorem dX0_sitesThrough_57 : decode cX0_sitesThrough 57 = .ok (.ireturn, 1) := by decide +kernel
theorem dX0_nameThrough_0 : decode cX0_nameThrough 0 = .ok (.iload_n 1, 1) := by decide +kernel
theorem dX0_nameThrough_1 : decode cX0_nameThrough 1 = .ok (.ifCond .lt 11, 3) := by decide +kernel
theorem dX0_nameThrough_4 : decode cX0_nameThrough 4 = .ok (.iload_n 1, 1) := by decide +kernel
theorem dX0_nameThrough_5 : decode cX0_nameThrough 5 = .ok (.aload_n 0, 1) := by decide +kernel
theorem dX0_nameThrough_6 : decode cX0_nameThrough 6 = .ok (.getfield 31, 3) := by decide +kernel
theorem dX0_nameThrough_9 : decode cX0_nameThrough 9 = .ok (.if_icmp .lt 5, 3) := by decide +kernel
theorem dX0_nameThrough_12 : decode cX0_nameThrough 12 = .ok (.lload_n 3, 1) := by decide +kernel
theorem dX0_nameThrough_13 : decode cX0_nameThrough 13 = .ok (.lreturn, 1) := by decide +kernel
theorem dX0_nameThrough_14 : decode cX0_nameThrough 14 = .ok (.aload_n 0, 1) := by decide +kernel
theorem dX0_nameThrough_15 : decode cX0_nameThrough 15 = .ok (.getfield 9, 3) := by decide +kernel
theorem dX0_nameThrough_18 : decode cX0_nameThrough 18 = .ok (.iload_n 1, 1) := by decide +kernel
theorem dX0_nameThrough_19 : decode cX0_nameThrough 19 = .ok (.iaload, 1) := by decide +kernel
theorem dX0_nameThrough_20 : decode cX0_nameThrough 20 = .ok (.ifCond .ne 20, 3) := by decide +kernel
theorem dX0_nameThrough_23 : decode cX0_nameThrough 23 = .ok (.aload_n 0, 1) := by decide +kernel
theorem dX0_nameThrough_24 : decode cX0_nameThrough 24 = .ok (.getfield 18, 3) := by decide +kernel
theorem dX0_nameThrough_27 : decode cX0_nameThrough 27 = .ok (.iload_n 1, 1) := by decide +kernel
theorem dX0_nameThrough_28 : decode cX0_nameThrough 28 = .ok (.iaload, 1) := by decide +kernel
theorem dX0_nameThrough_29 : decode cX0_nameThrough 29 = .ok (.iload_n 2, 1) := by decide +kernel
theorem dX0_nameThrough_30 : decode cX0_nameThrough 30 = .ok (.if_icmp .ne 10, 3) := by decide +kernel
theorem dX0_nameThrough_33 : decode cX0_nameThrough 33 = .ok (.aload_n 0, 1) := by decide +kernel
theorem dX0_nameThrough_34 : decode cX0_nameThrough 34 = .ok (.getfield 27, 3) := by decide +kernel
theorem dX0_nameThrough_37 : decode cX0_nameThrough 37 = .ok (.iload_n 1, 1) := by decide +kernel
theorem dX0_nameThrough_38 : decode cX0_nameThrough 38 = .ok (.laload, 1) := by decide +kernel
theorem dX0_nameThrough_39 : decode cX0_nameThrough 39 = .ok (.lreturn, 1) := by decide +kernel
theorem dX0_nameThrough_40 : decode cX0_nameThrough 40 = .ok (.aload_n 0, 1) := by decide +kernel
theorem dX0_nameThrough_41 : decode cX0_nameThrough 41 = .ok (.getfield 9, 3) := by decide +kernel
theorem dX0_nameThrough_44 : decode cX0_nameThrough 44 = .ok (.iload_n 1, 1) := by decide +kernel
theorem dX0_nameThrough_45 : decode cX0_nameThrough 45 = .ok (.iaload, 1) := by decide +kernel
theorem dX0_nameThrough_46 : decode cX0_nameThrough 46 = .ok (.iconst 1, 1) := by decide +kernel
theorem dX0_nameThrough_47 : decode cX0_nameThrough 47 = .ok (.if_icmp .ne 22, 3) := by decide +kernel
theorem dX0_nameThrough_50 : decode cX0_nameThrough 50 = .ok (.aload_n 0, 1) := by decide +kernel
theorem dX0_nameThrough_51 : decode cX0_nameThrough 51 = .ok (.getfield 24, 3) := by decide +kernel
theorem dX0_nameThrough_54 : decode cX0_nameThrough 54 = .ok (.iload_n 1, 1) := by decide +kernel
theorem dX0_nameThrough_55 : decode cX0_nameThrough 55 = .ok (.iaload, 1) := by decide +kernel
theorem dX0_nameThrough_56 : decode cX0_nameThrough 56 = .ok (.iload_n 2, 1) := by decide +kernel
theorem dX0_nameThrough_57 : decode cX0_nameThrough 57 = .ok (.if_icmp .ne 12, 3) := by decide +kernel
theorem dX0_nameThrough_60 : decode cX0_nameThrough 60 = .ok (.aload_n 0, 1) := by decide +kernel
theorem dX0_nameThrough_61 : decode cX0_nameThrough 61 = .ok (.getfield 27, 3) := by decide +kernel
theorem dX0_nameThrough_64 : decode cX0_nameThrough 64 = .ok (.iload_n 1, 1) := by decide +kernel
theorem dX0_nameThrough_65 : decode cX0_nameThrough 65 = .ok (.laload, 1) := by decide +kernel
theorem dX0_nameThrough_66 : decode cX0_nameThrough 66 = .ok (.goto 4, 3) := by decide +kernel
theorem dX0_nameThrough_69 : decode cX0_nameThrough 69 = .ok (.lload_n 3, 1) := by decide +kernel
theorem dX0_nameThrough_70 : decode cX0_nameThrough 70 = .ok (.lreturn, 1) := by decide +kernel
set_option maxRecDepth 20000 in
theorem ggX0_sitesBehind_X0_sitesAtFirst : GoodIn wsX0_sitesBehind wsX0_sitesAtFirst := goodIn_r _ [5] (by decide +kernel) (by decide +kernel)
set_option maxRecDepth 20000 in
theorem gX0_sitesBehind_X0_sitesAtFirst : GoodIn wsX0_sitesBehind (va_wsS RX0 61 yX0_sitesAtFirst wsX0_sitesAtFirst) := goodIn_app (goodIn_of _ (by decide +kernel)) ggX0_sitesBehind_X0_sitesAtFirst
set_option maxRecDepth 20000 in
theorem ggX0_sitesBehind_X0_sitesThrough : GoodIn wsX0_sitesBehind wsX0_sitesThrough := goodIn_r _ [9, 1, 10, 11, 12, 13, 14, 15, 16, 17, 18, 19, 20] (by decide +kernel) (by decide +kernel)
set_option maxRecDepth 20000 in
theorem gX0_sitesBehind_X0_sitesThrough : GoodIn wsX0_sitesBehind (wsV RX0 64 RX0 yX0_sitesThrough wsX0_sitesThrough) := goodIn_app (goodIn_of _ (by decide +kernel)) ggX0_sitesBehind_X0_sitesThrough
theorem dX0_sitesBehind_0 : decode cX0_sitesBehind 0 = .ok (.iload_n 1, 1) := by decide +kernel
theorem dX0_sitesBehind_1 : decode cX0_sitesBehind 1 = .ok (.invokestatic 61, 3) := by decide +kernel
theorem dX0_sitesBehind_4 : decode cX0_sitesBehind 4 = .ok (.istore_n 3, 1) := by decide +kernel
theorem dX0_sitesBehind_5 : decode cX0_sitesBehind 5 = .ok (.iconst 0, 1) := by decide +kernel
theorem dX0_sitesBehind_6 : decode cX0_sitesBehind 6 = .ok (.istore 4, 2) := by decide +kernel
theorem dX0_sitesBehind_8 : decode cX0_sitesBehind 8 = .ok (.iload 4, 2) := by decide +kernel
theorem dX0_sitesBehind_10 : decode cX0_sitesBehind 10 = .ok (.iload_n 2, 1) := by decide +kernel
theorem dX0_sitesBehind_11 : decode cX0_sitesBehind 11 = .ok (.if_icmp .ge 27, 3) := by decide +kernel
theorem dX0_sitesBehind_14 : decode cX0_sitesBehind 14 = .ok (.iload 4, 2) := by decide +kernel
theorem dX0_sitesBehind_16 : decode cX0_sitesBehind 16 = .ok (.aload_n 0, 1) := by decide +kernel
theorem dX0_sitesBehind_17 : decode cX0_sitesBehind 17 = .ok (.getfield 31, 3) := by decide +kernel
theorem dX0_sitesBehind_20 : decode cX0_sitesBehind 20 = .ok (.if_icmp .ge 18, 3) := by decide +kernel
theorem dX0_sitesBehind_23 : decode cX0_sitesBehind 23 = .ok (.aload_n 0, 1) := by decide +kernel
theorem dX0_sitesBehind_24 : decode cX0_sitesBehind 24 = .ok (.iload 4, 2) := by decide +kernel
theorem dX0_sitesBehind_26 : decode cX0_sitesBehind 26 = .ok (.iload_n 1, 1) := by decide +kernel
theorem dX0_sitesBehind_27 : decode cX0_sitesBehind 27 = .ok (.iload_n 3, 1) := by decide +kernel
theorem dX0_sitesBehind_28 : decode cX0_sitesBehind 28 = .ok (.invokevirtual 64, 3) := by decide +kernel
theorem dX0_sitesBehind_31 : decode cX0_sitesBehind 31 = .ok (.istore_n 3, 1) := by decide +kernel
theorem dX0_sitesBehind_32 : decode cX0_sitesBehind 32 = .ok (.iinc 4 1, 3) := by decide +kernel
theorem dX0_sitesBehind_35 : decode cX0_sitesBehind 35 = .ok (.goto (-27), 3) := by decide +kernel
theorem dX0_sitesBehind_38 : decode cX0_sitesBehind 38 = .ok (.iload_n 3, 1) := by decide +kernel
theorem dX0_sitesBehind_39 : decode cX0_sitesBehind 39 = .ok (.ireturn, 1) := by decide +kernel
set_option maxRecDepth 20000 in
theorem ggX0_nameBehind_X0_nameAtFirst : GoodIn wsX0_nameBehind wsX0_nameAtFirst := goodIn_r _ [5, 6, 7, 8, 9] (by decide +kernel) (by decide +kernel)
set_option maxRecDepth 20000 in
theorem gX0_nameBehind_X0_nameAtFirst : GoodIn wsX0_nameBehind (va_wsS RX0 68 yX0_nameAtFirst wsX0_nameAtFirst) := goodIn_app (goodIn_of _ (by decide +kernel)) ggX0_nameBehind_X0_nameAtFirst
set_option maxRecDepth 20000 in
theorem ggX0_nameBehind_X0_nameThrough : GoodIn wsX0_nameBehind wsX0_nameThrough := goodIn_r _ [13, 1, 14, 15, 16, 17, 18, 19, 20, 21, 22, 23, 24, 25] (by decide +kernel) (by decide +kernel)
set_option maxRecDepth 20000 in
theorem gX0_nameBehind_X0_nameThrough : GoodIn wsX0_nameBehind (wsV RX0 72 RX0 yX0_nameThrough wsX0_nameThrough) := goodIn_app (goodIn_of _ (by decide +kernel)) ggX0_nameBehind_X0_nameThrough
theorem dX0_nameBehind_0 : decode cX0_nameBehind 0 = .ok (.iload_n 1, 1) := by decide +kernel
theorem dX0_nameBehind_1 : decode cX0_nameBehind 1 = .ok (.invokestatic 68, 3) := by decide +kernel
theorem dX0_nameBehind_4 : decode cX0_nameBehind 4 = .ok (.lstore_n 3, 1) := by decide +kernel
theorem dX0_nameBehind_5 : decode cX0_nameBehind 5 = .ok (.iconst 0, 1) := by decide +kernel
theorem dX0_nameBehind_6 : decode cX0_nameBehind 6 = .ok (.istore 5, 2) := by decide +kernel
theorem dX0_nameBehind_8 : decode cX0_nameBehind 8 = .ok (.iload 5, 2) := by decide +kernel
theorem dX0_nameBehind_10 : decode cX0_nameBehind 10 = .ok (.iload_n 2, 1) := by decide +kernel
theorem dX0_nameBehind_11 : decode cX0_nameBehind 11 = .ok (.if_icmp .ge 27, 3) := by decide +kernel
theorem dX0_nameBehind_14 : decode cX0_nameBehind 14 = .ok (.iload 5, 2) := by decide +kernel
theorem dX0_nameBehind_16 : decode cX0_nameBehind 16 = .ok (.aload_n 0, 1) := by decide +kernel
theorem dX0_nameBehind_17 : decode cX0_nameBehind 17 = .ok (.getfield 31, 3) := by decide +kernel
theorem dX0_nameBehind_20 : decode cX0_nameBehind 20 = .ok (.if_icmp .ge 18, 3) := by decide +kernel
theorem dX0_nameBehind_23 : decode cX0_nameBehind 23 = .ok (.aload_n 0, 1) := by decide +kernel
theorem dX0_nameBehind_24 : decode cX0_nameBehind 24 = .ok (.iload 5, 2) := by decide +kernel
theorem dX0_nameBehind_26 : decode cX0_nameBehind 26 = .ok (.iload_n 1, 1) := by decide +kernel
theorem dX0_nameBehind_27 : decode cX0_nameBehind 27 = .ok (.lload_n 3, 1) := by decide +kernel
theorem dX0_nameBehind_28 : decode cX0_nameBehind 28 = .ok (.invokevirtual 72, 3) := by decide +kernel
theorem dX0_nameBehind_31 : decode cX0_nameBehind 31 = .ok (.lstore_n 3, 1) := by decide +kernel
theorem dX0_nameBehind_32 : decode cX0_nameBehind 32 = .ok (.iinc 5 1, 3) := by decide +kernel
theorem dX0_nameBehind_35 : decode cX0_nameBehind 35 = .ok (.goto (-27), 3) := by decide +kernel
theorem dX0_nameBehind_38 : decode cX0_nameBehind 38 = .ok (.lload_n 3, 1) := by decide +kernel
theorem dX0_nameBehind_39 : decode cX0_nameBehind 39 = .ok (.lreturn, 1) := by decide +kernel
set_option maxRecDepth 20000 in
theorem ggX0_ownerBehind_X2_has : GoodIn wsX0_ownerBehind wsX2_has := goodIn_r _ [6] (by decide +kernel) (by decide +kernel)
set_option maxRecDepth 20000 in
theorem gX0_ownerBehind_X2_has_n76 : GoodIn wsX0_ownerBehind (wsX2_has) := ggX0_ownerBehind_X2_has
theorem dX0_ownerBehind_0 : decode cX0_ownerBehind 0 = .ok (.iconst 0, 1) := by decide +kernel
theorem dX0_ownerBehind_1 : decode cX0_ownerBehind 1 = .ok (.istore_n 3, 1) := by decide +kernel
theorem dX0_ownerBehind_2 : decode cX0_ownerBehind 2 = .ok (.iconst 0, 1) := by decide +kernel
theorem dX0_ownerBehind_3 : decode cX0_ownerBehind 3 = .ok (.istore 4, 2) := by decide +kernel
theorem dX0_ownerBehind_5 : decode cX0_ownerBehind 5 = .ok (.iload 4, 2) := by decide +kernel
theorem dX0_ownerBehind_7 : decode cX0_ownerBehind 7 = .ok (.iload_n 2, 1) := by decide +kernel
theorem dX0_ownerBehind_8 : decode cX0_ownerBehind 8 = .ok (.if_icmp .ge 40, 3) := by decide +kernel
theorem dX0_ownerBehind_11 : decode cX0_ownerBehind 11 = .ok (.iload 4, 2) := by decide +kernel
theorem dX0_ownerBehind_13 : decode cX0_ownerBehind 13 = .ok (.aload_n 0, 1) := by decide +kernel
theorem dX0_ownerBehind_14 : decode cX0_ownerBehind 14 = .ok (.getfield 31, 3) := by decide +kernel
theorem dX0_ownerBehind_17 : decode cX0_ownerBehind 17 = .ok (.if_icmp .ge 31, 3) := by decide +kernel
theorem dX0_ownerBehind_20 : decode cX0_ownerBehind 20 = .ok (.aload_n 0, 1) := by decide +kernel
theorem dX0_ownerBehind_21 : decode cX0_ownerBehind 21 = .ok (.getfield 21, 3) := by decide +kernel
theorem dX0_ownerBehind_24 : decode cX0_ownerBehind 24 = .ok (.iload 4, 2) := by decide +kernel
theorem dX0_ownerBehind_26 : decode cX0_ownerBehind 26 = .ok (.iaload, 1) := by decide +kernel
theorem dX0_ownerBehind_27 : decode cX0_ownerBehind 27 = .ok (.iload_n 1, 1) := by decide +kernel
theorem dX0_ownerBehind_28 : decode cX0_ownerBehind 28 = .ok (.invokestatic 76, 3) := by decide +kernel
theorem dX0_ownerBehind_31 : decode cX0_ownerBehind 31 = .ok (.ifCond .eq 11, 3) := by decide +kernel
theorem dX0_ownerBehind_34 : decode cX0_ownerBehind 34 = .ok (.aload_n 0, 1) := by decide +kernel
theorem dX0_ownerBehind_35 : decode cX0_ownerBehind 35 = .ok (.getfield 24, 3) := by decide +kernel
theorem dX0_ownerBehind_38 : decode cX0_ownerBehind 38 = .ok (.iload 4, 2) := by decide +kernel
theorem dX0_ownerBehind_40 : decode cX0_ownerBehind 40 = .ok (.iaload, 1) := by decide +kernel
theorem dX0_ownerBehind_41 : decode cX0_ownerBehind 41 = .ok (.istore_n 3, 1) := by decide +kernel
theorem dX0_ownerBehind_42 : decode cX0_ownerBehind 42 = .ok (.iinc 4 1, 3) := by decide +kernel
theorem dX0_ownerBehind_45 : decode cX0_ownerBehind 45 = .ok (.goto (-40), 3) := by decide +kernel
theorem dX0_ownerBehind_48 : decode cX0_ownerBehind 48 = .ok (.iload_n 3, 1) := by decide +kernel
theorem dX0_ownerBehind_49 : decode cX0_ownerBehind 49 = .ok (.ireturn, 1) := by decide +kernel
set_option maxRecDepth 20000 in
theorem ggX0_sitesNow_X0_sitesBehind : GoodIn wsX0_sitesNow wsX0_sitesBehind := goodIn_r _ [6, 1, 7, 8, 5, 9, 10, 11, 12, 13, 14, 15, 16, 17, 18, 19, 20, 21, 22, 23, 24] (by decide +kernel) (by decide +kernel)
set_option maxRecDepth 20000 in
theorem gX0_sitesNow_X0_sitesBehind : GoodIn wsX0_sitesNow (wsV RX0 80 RX0 yX0_sitesBehind wsX0_sitesBehind) := goodIn_app (goodIn_of _ (by decide +kernel)) ggX0_sitesNow_X0_sitesBehind
theorem dX0_sitesNow_0 : decode cX0_sitesNow 0 = .ok (.aload_n 0, 1) := by decide +kernel
theorem dX0_sitesNow_1 : decode cX0_sitesNow 1 = .ok (.iload_n 1, 1) := by decide +kernel
theorem dX0_sitesNow_2 : decode cX0_sitesNow 2 = .ok (.aload_n 0, 1) := by decide +kernel
theorem dX0_sitesNow_3 : decode cX0_sitesNow 3 = .ok (.getfield 31, 3) := by decide +kernel
theorem dX0_sitesNow_6 : decode cX0_sitesNow 6 = .ok (.invokevirtual 80, 3) := by decide +kernel
theorem dX0_sitesNow_9 : decode cX0_sitesNow 9 = .ok (.ireturn, 1) := by decide +kernel
set_option maxRecDepth 20000 in
theorem ggX0_nameIn_X0_stageIn : GoodIn wsX0_nameIn wsX0_stageIn := goodIn_r _ [5, 6, 7, 39, 40, 41, 42, 43, 44, 45, 46] (by decide +kernel) (by decide +kernel)
set_option maxRecDepth 20000 in
theorem gX0_nameIn_X0_stageIn : GoodIn wsX0_nameIn (wsV RX0 84 RX0 yX0_stageIn wsX0_stageIn) := goodIn_app (goodIn_of _ (by decide +kernel)) ggX0_nameIn_X0_stageIn
set_option maxRecDepth 20000 in
theorem ggX0_nameIn_X0_sitesBehind : GoodIn wsX0_nameIn wsX0_sitesBehind := goodIn_r _ [11, 6, 12, 13, 4, 14, 15, 16, 17, 18, 19, 20, 21, 39, 40, 41, 42, 43, 44, 45, 46] (by decide +kernel) (by decide +kernel)
set_option maxRecDepth 20000 in
theorem gX0_nameIn_X0_sitesBehind : GoodIn wsX0_nameIn (wsV RX0 80 RX0 yX0_sitesBehind wsX0_sitesBehind) := goodIn_app (goodIn_of _ (by decide +kernel)) ggX0_nameIn_X0_sitesBehind
set_option maxRecDepth 20000 in
theorem ggX0_nameIn_X0_nameBehind : GoodIn wsX0_nameIn wsX0_nameBehind := goodIn_r _ [25, 6, 26, 27, 4, 28, 29, 30, 31, 32, 33, 34, 35, 36, 37, 19, 38, 21, 39, 40, 41, 42, 43, 44, 45, 46] (by decide +kernel) (by decide +kernel)
set_option maxRecDepth 20000 in
theorem gX0_nameIn_X0_nameBehind : GoodIn wsX0_nameIn (wsV RX0 87 RX0 yX0_nameBehind wsX0_nameBehind) := goodIn_app (goodIn_of _ (by decide +kernel)) ggX0_nameIn_X0_nameBehind
theorem dX0_nameIn_0 : decode cX0_nameIn 0 = .ok (.aload_n 0, 1) := by decide +kernel
theorem dX0_nameIn_1 : decode cX0_nameIn 1 = .ok (.iload_n 2, 1) := by decide +kernel
theorem dX0_nameIn_2 : decode cX0_nameIn 2 = .ok (.invokevirtual 84, 3) := by decide +kernel
theorem dX0_nameIn_5 : decode cX0_nameIn 5 = .ok (.istore_n 3, 1) := by decide +kernel
theorem dX0_nameIn_6 : decode cX0_nameIn 6 = .ok (.aload_n 0, 1) := by decide +kernel
theorem dX0_nameIn_7 : decode cX0_nameIn 7 = .ok (.iload_n 1, 1) := by decide +kernel
theorem dX0_nameIn_8 : decode cX0_nameIn 8 = .ok (.iload_n 3, 1) := by decide +kernel
theorem dX0_nameIn_9 : decode cX0_nameIn 9 = .ok (.invokevirtual 80, 3) := by decide +kernel
theorem dX0_nameIn_12 : decode cX0_nameIn 12 = .ok (.ifCond .ne 7, 3) := by decide +kernel
theorem dX0_nameIn_15 : decode cX0_nameIn 15 = .ok (.lconst 0, 1) := by decide +kernel
theorem dX0_nameIn_16 : decode cX0_nameIn 16 = .ok (.goto 9, 3) := by decide +kernel
theorem dX0_nameIn_19 : decode cX0_nameIn 19 = .ok (.aload_n 0, 1) := by decide +kernel
theorem dX0_nameIn_20 : decode cX0_nameIn 20 = .ok (.iload_n 1, 1) := by decide +kernel
theorem dX0_nameIn_21 : decode cX0_nameIn 21 = .ok (.iload_n 3, 1) := by decide +kernel
theorem dX0_nameIn_22 : decode cX0_nameIn 22 = .ok (.invokevirtual 87, 3) := by decide +kernel
theorem dX0_nameIn_25 : decode cX0_nameIn 25 = .ok (.lreturn, 1) := by decide +kernel
set_option maxRecDepth 20000 in
theorem ggX0_nameAt_X0_ownerBehind : GoodIn wsX0_nameAt wsX0_ownerBehind := goodIn_r _ [5, 6, 7, 8, 9, 10, 11, 30, 31, 32, 33, 34, 35, 36, 37] (by decide +kernel) (by decide +kernel)
set_option maxRecDepth 20000 in
theorem gX0_nameAt_X0_ownerBehind : GoodIn wsX0_nameAt (wsV RX0 91 RX0 yX0_ownerBehind wsX0_ownerBehind) := goodIn_app (goodIn_of _ (by decide +kernel)) ggX0_nameAt_X0_ownerBehind
set_option maxRecDepth 20000 in
theorem ggX0_nameAt_X0_nameBehind : GoodIn wsX0_nameAt wsX0_nameBehind := goodIn_r _ [15, 6, 16, 17, 4, 18, 19, 20, 21, 22, 23, 24, 25, 26, 27, 28, 29, 8, 30, 31, 32, 33, 34, 35, 36, 37] (by decide +kernel) (by decide +kernel)
set_option maxRecDepth 20000 in
theorem gX0_nameAt_X0_nameBehind : GoodIn wsX0_nameAt (wsV RX0 87 RX0 yX0_nameBehind wsX0_nameBehind) := goodIn_app (goodIn_of _ (by decide +kernel)) ggX0_nameAt_X0_nameBehind
theorem dX0_nameAt_0 : decode cX0_nameAt 0 = .ok (.aload_n 0, 1) := by decide +kernel
theorem dX0_nameAt_1 : decode cX0_nameAt 1 = .ok (.aload_n 0, 1) := by decide +kernel
theorem dX0_nameAt_2 : decode cX0_nameAt 2 = .ok (.iload_n 1, 1) := by decide +kernel
theorem dX0_nameAt_3 : decode cX0_nameAt 3 = .ok (.iload_n 2, 1) := by decide +kernel
theorem dX0_nameAt_4 : decode cX0_nameAt 4 = .ok (.invokevirtual 91, 3) := by decide +kernel
theorem dX0_nameAt_7 : decode cX0_nameAt 7 = .ok (.iload_n 2, 1) := by decide +kernel
theorem dX0_nameAt_8 : decode cX0_nameAt 8 = .ok (.invokevirtual 87, 3) := by decide +kernel
theorem dX0_nameAt_11 : decode cX0_nameAt 11 = .ok (.lreturn, 1) := by decide +kernel
theorem dX0_eventsOf_0 : decode cX0_eventsOf 0 = .ok (.iconst 0, 1) := by decide +kernel
theorem dX0_eventsOf_1 : decode cX0_eventsOf 1 = .ok (.istore_n 2, 1) := by decide +kernel
theorem dX0_eventsOf_2 : decode cX0_eventsOf 2 = .ok (.iconst 0, 1) := by decide +kernel
theorem dX0_eventsOf_3 : decode cX0_eventsOf 3 = .ok (.istore_n 3, 1) := by decide +kernel
theorem dX0_eventsOf_4 : decode cX0_eventsOf 4 = .ok (.iload_n 3, 1) := by decide +kernel
theorem dX0_eventsOf_5 : decode cX0_eventsOf 5 = .ok (.aload_n 0, 1) := by decide +kernel
theorem dX0_eventsOf_6 : decode cX0_eventsOf 6 = .ok (.getfield 31, 3) := by decide +kernel
theorem dX0_eventsOf_9 : decode cX0_eventsOf 9 = .ok (.if_icmp .ge 32, 3) := by decide +kernel
theorem dX0_eventsOf_12 : decode cX0_eventsOf 12 = .ok (.aload_n 0, 1) := by decide +kernel
theorem dX0_eventsOf_13 : decode cX0_eventsOf 13 = .ok (.getfield 18, 3) := by decide +kernel
theorem dX0_eventsOf_16 : decode cX0_eventsOf 16 = .ok (.iload_n 3, 1) := by decide +kernel
theorem dX0_eventsOf_17 : decode cX0_eventsOf 17 = .ok (.iaload, 1) := by decide +kernel
theorem dX0_eventsOf_18 : decode cX0_eventsOf 18 = .ok (.iload_n 1, 1) := by decide +kernel
theorem dX0_eventsOf_19 : decode cX0_eventsOf 19 = .ok (.if_icmp .eq 13, 3) := by decide +kernel
end
section
theorem dX0_eventsOf_22 : decode cX0_eventsOf 22 = .ok (.aload_n 0, 1) := by decide +kernel
theorem dX0_eventsOf_23 : decode cX0_eventsOf 23 = .ok (.getfield 24, 3) := by decide +kernel
theorem dX0_eventsOf_26 : decode cX0_eventsOf 26 = .ok (.iload_n 3, 1) := by decide +kernel
theorem dX0_eventsOf_27 : decode cX0_eventsOf 27 = .ok (.iaload, 1) := by decide +kernel
theorem dX0_eventsOf_28 : decode cX0_eventsOf 28 = .ok (.iload_n 1, 1) := by decide +kernel
theorem dX0_eventsOf_29 : decode cX0_eventsOf 29 = .ok (.if_icmp .ne 6, 3) := by decide +kernel
theorem dX0_eventsOf_32 : decode cX0_eventsOf 32 = .ok (.iinc 2 1, 3) := by decide +kernel
theorem dX0_eventsOf_35 : decode cX0_eventsOf 35 = .ok (.iinc 3 1, 3) := by decide +kernel
theorem dX0_eventsOf_38 : decode cX0_eventsOf 38 = .ok (.goto (-34), 3) := by decide +kernel
theorem dX0_eventsOf_41 : decode cX0_eventsOf 41 = .ok (.iload_n 2, 1) := by decide +kernel
theorem dX0_eventsOf_42 : decode cX0_eventsOf 42 = .ok (.ireturn, 1) := by decide +kernel
theorem dX0_eventsOfKind_0 : decode cX0_eventsOfKind 0 = .ok (.iconst 0, 1) := by decide +kernel
theorem dX0_eventsOfKind_1 : decode cX0_eventsOfKind 1 = .ok (.istore_n 2, 1) := by decide +kernel
theorem dX0_eventsOfKind_2 : decode cX0_eventsOfKind 2 = .ok (.iconst 0, 1) := by decide +kernel
theorem dX0_eventsOfKind_3 : decode cX0_eventsOfKind 3 = .ok (.istore_n 3, 1) := by decide +kernel
theorem dX0_eventsOfKind_4 : decode cX0_eventsOfKind 4 = .ok (.iload_n 3, 1) := by decide +kernel
theorem dX0_eventsOfKind_5 : decode cX0_eventsOfKind 5 = .ok (.aload_n 0, 1) := by decide +kernel
theorem dX0_eventsOfKind_6 : decode cX0_eventsOfKind 6 = .ok (.getfield 31, 3) := by decide +kernel
theorem dX0_eventsOfKind_9 : decode cX0_eventsOfKind 9 = .ok (.if_icmp .ge 22, 3) := by decide +kernel
theorem dX0_eventsOfKind_12 : decode cX0_eventsOfKind 12 = .ok (.aload_n 0, 1) := by decide +kernel
theorem dX0_eventsOfKind_13 : decode cX0_eventsOfKind 13 = .ok (.getfield 9, 3) := by decide +kernel
theorem dX0_eventsOfKind_16 : decode cX0_eventsOfKind 16 = .ok (.iload_n 3, 1) := by decide +kernel
theorem dX0_eventsOfKind_17 : decode cX0_eventsOfKind 17 = .ok (.iaload, 1) := by decide +kernel
theorem dX0_eventsOfKind_18 : decode cX0_eventsOfKind 18 = .ok (.iload_n 1, 1) := by decide +kernel
theorem dX0_eventsOfKind_19 : decode cX0_eventsOfKind 19 = .ok (.if_icmp .ne 6, 3) := by decide +kernel
theorem dX0_eventsOfKind_22 : decode cX0_eventsOfKind 22 = .ok (.iinc 2 1, 3) := by decide +kernel
theorem dX0_eventsOfKind_25 : decode cX0_eventsOfKind 25 = .ok (.iinc 3 1, 3) := by decide +kernel
theorem dX0_eventsOfKind_28 : decode cX0_eventsOfKind 28 = .ok (.goto (-24), 3) := by decide +kernel
theorem dX0_eventsOfKind_31 : decode cX0_eventsOfKind 31 = .ok (.iload_n 2, 1) := by decide +kernel
theorem dX0_eventsOfKind_32 : decode cX0_eventsOfKind 32 = .ok (.ireturn, 1) := by decide +kernel
set_option maxRecDepth 20000 in
theorem ggX0_lifeOf_X0_sitesAtFirst : GoodIn wsX0_lifeOf wsX0_sitesAtFirst := goodIn_r _ [5] (by decide +kernel) (by decide +kernel)
set_option maxRecDepth 20000 in
theorem gX0_lifeOf_X0_sitesAtFirst : GoodIn wsX0_lifeOf (va_wsS RX0 61 yX0_sitesAtFirst wsX0_sitesAtFirst) := goodIn_app (goodIn_of _ (by decide +kernel)) ggX0_lifeOf_X0_sitesAtFirst
set_option maxRecDepth 20000 in
theorem ggX0_lifeOf_X0_sitesThrough : GoodIn wsX0_lifeOf wsX0_sitesThrough := goodIn_r _ [9, 1, 10, 11, 12, 33, 34, 35, 36, 37, 38, 39, 40] (by decide +kernel) (by decide +kernel)
set_option maxRecDepth 20000 in
theorem gX0_lifeOf_X0_sitesThrough : GoodIn wsX0_lifeOf (wsV RX0 64 RX0 yX0_sitesThrough wsX0_sitesThrough) := goodIn_app (goodIn_of _ (by decide +kernel)) ggX0_lifeOf_X0_sitesThrough
set_option maxRecDepth 20000 in
theorem ggX0_lifeOf_X0_holdsInAYear : GoodIn wsX0_lifeOf wsX0_holdsInAYear := goodIn_r _ [16, 17, 18, 19, 4, 20, 1, 21, 22, 23, 24, 25, 33, 34, 35, 36, 37, 38, 39, 40] (by decide +kernel) (by decide +kernel)
set_option maxRecDepth 20000 in
theorem gX0_lifeOf_X0_holdsInAYear : GoodIn wsX0_lifeOf (wsV RX0 94 RX0 yX0_holdsInAYear wsX0_holdsInAYear) := goodIn_app (goodIn_of _ (by decide +kernel)) ggX0_lifeOf_X0_holdsInAYear
set_option maxRecDepth 20000 in
theorem ggX0_lifeOf_X0_firstYear : GoodIn wsX0_lifeOf wsX0_firstYear := goodIn_r _ [20, 1, 21, 33, 34, 35, 36, 37, 38, 39, 40] (by decide +kernel) (by decide +kernel)
set_option maxRecDepth 20000 in
theorem gX0_lifeOf_X0_firstYear : GoodIn wsX0_lifeOf (wsV RX0 48 RX0 yX0_firstYear wsX0_firstYear) := goodIn_app (goodIn_of _ (by decide +kernel)) ggX0_lifeOf_X0_firstYear
set_option maxRecDepth 20000 in
theorem ggX0_lifeOf_X0_lastYear : GoodIn wsX0_lifeOf wsX0_lastYear := goodIn_r _ [25, 1, 21, 33, 34, 35, 36, 37, 38, 39, 40] (by decide +kernel) (by decide +kernel)
set_option maxRecDepth 20000 in
theorem gX0_lifeOf_X0_lastYear : GoodIn wsX0_lifeOf (wsV RX0 52 RX0 yX0_lastYear wsX0_lastYear) := goodIn_app (goodIn_of _ (by decide +kernel)) ggX0_lifeOf_X0_lastYear
set_option maxRecDepth 20000 in
theorem ggX0_lifeOf_J6_bitCount_0f7a4 : GoodIn wsX0_lifeOf wsJ6_bitCount_0f7a4 := goodIn_r _ [29, 30, 31, 32] (by decide +kernel) (by decide +kernel)
set_option maxRecDepth 20000 in
theorem gX0_lifeOf_J6_bitCount_0f7a4 : GoodIn wsX0_lifeOf (va_wsS RX0 98 yJ6_bitCount_0f7a4 wsJ6_bitCount_0f7a4) := goodIn_app (goodIn_of _ (by decide +kernel)) ggX0_lifeOf_J6_bitCount_0f7a4
theorem dX0_lifeOf_0 : decode cX0_lifeOf 0 = .ok (.bipush (-6), 2) := by decide +kernel
theorem dX0_lifeOf_2 : decode cX0_lifeOf 2 = .ok (.istore_n 3, 1) := by decide +kernel
theorem dX0_lifeOf_3 : decode cX0_lifeOf 3 = .ok (.bipush (-6), 2) := by decide +kernel
theorem dX0_lifeOf_5 : decode cX0_lifeOf 5 = .ok (.istore 4, 2) := by decide +kernel
theorem dX0_lifeOf_7 : decode cX0_lifeOf 7 = .ok (.iconst 0, 1) := by decide +kernel
theorem dX0_lifeOf_8 : decode cX0_lifeOf 8 = .ok (.istore 5, 2) := by decide +kernel
theorem dX0_lifeOf_10 : decode cX0_lifeOf 10 = .ok (.iconst 0, 1) := by decide +kernel
theorem dX0_lifeOf_11 : decode cX0_lifeOf 11 = .ok (.istore 6, 2) := by decide +kernel
theorem dX0_lifeOf_13 : decode cX0_lifeOf 13 = .ok (.iload_n 1, 1) := by decide +kernel
theorem dX0_lifeOf_14 : decode cX0_lifeOf 14 = .ok (.invokestatic 61, 3) := by decide +kernel
theorem dX0_lifeOf_17 : decode cX0_lifeOf 17 = .ok (.istore 7, 2) := by decide +kernel
theorem dX0_lifeOf_19 : decode cX0_lifeOf 19 = .ok (.iconst 0, 1) := by decide +kernel
theorem dX0_lifeOf_20 : decode cX0_lifeOf 20 = .ok (.istore 8, 2) := by decide +kernel
theorem dX0_lifeOf_22 : decode cX0_lifeOf 22 = .ok (.iload 8, 2) := by decide +kernel
theorem dX0_lifeOf_24 : decode cX0_lifeOf 24 = .ok (.aload_n 0, 1) := by decide +kernel
theorem dX0_lifeOf_25 : decode cX0_lifeOf 25 = .ok (.getfield 31, 3) := by decide +kernel
theorem dX0_lifeOf_28 : decode cX0_lifeOf 28 = .ok (.if_icmp .gt 87, 3) := by decide +kernel
theorem dX0_lifeOf_31 : decode cX0_lifeOf 31 = .ok (.iload 8, 2) := by decide +kernel
theorem dX0_lifeOf_33 : decode cX0_lifeOf 33 = .ok (.ifCond .le 16, 3) := by decide +kernel
theorem dX0_lifeOf_36 : decode cX0_lifeOf 36 = .ok (.aload_n 0, 1) := by decide +kernel
theorem dX0_lifeOf_37 : decode cX0_lifeOf 37 = .ok (.iload 8, 2) := by decide +kernel
theorem dX0_lifeOf_39 : decode cX0_lifeOf 39 = .ok (.iconst 1, 1) := by decide +kernel
theorem dX0_lifeOf_40 : decode cX0_lifeOf 40 = .ok (.isub, 1) := by decide +kernel
theorem dX0_lifeOf_41 : decode cX0_lifeOf 41 = .ok (.iload_n 1, 1) := by decide +kernel
theorem dX0_lifeOf_42 : decode cX0_lifeOf 42 = .ok (.iload 7, 2) := by decide +kernel
theorem dX0_lifeOf_44 : decode cX0_lifeOf 44 = .ok (.invokevirtual 64, 3) := by decide +kernel
theorem dX0_lifeOf_47 : decode cX0_lifeOf 47 = .ok (.istore 7, 2) := by decide +kernel
theorem dX0_lifeOf_49 : decode cX0_lifeOf 49 = .ok (.iload 7, 2) := by decide +kernel
theorem dX0_lifeOf_51 : decode cX0_lifeOf 51 = .ok (.ifCond .eq 58, 3) := by decide +kernel
theorem dX0_lifeOf_54 : decode cX0_lifeOf 54 = .ok (.aload_n 0, 1) := by decide +kernel
theorem dX0_lifeOf_55 : decode cX0_lifeOf 55 = .ok (.iload 8, 2) := by decide +kernel
theorem dX0_lifeOf_57 : decode cX0_lifeOf 57 = .ok (.invokevirtual 94, 3) := by decide +kernel
theorem dX0_lifeOf_60 : decode cX0_lifeOf 60 = .ok (.ifCond .ne 6, 3) := by decide +kernel
theorem dX0_lifeOf_63 : decode cX0_lifeOf 63 = .ok (.goto 46, 3) := by decide +kernel
theorem dX0_lifeOf_66 : decode cX0_lifeOf 66 = .ok (.iload 5, 2) := by decide +kernel
theorem dX0_lifeOf_68 : decode cX0_lifeOf 68 = .ok (.ifCond .ne 10, 3) := by decide +kernel
theorem dX0_lifeOf_71 : decode cX0_lifeOf 71 = .ok (.aload_n 0, 1) := by decide +kernel
theorem dX0_lifeOf_72 : decode cX0_lifeOf 72 = .ok (.iload 8, 2) := by decide +kernel
theorem dX0_lifeOf_74 : decode cX0_lifeOf 74 = .ok (.invokevirtual 48, 3) := by decide +kernel
theorem dX0_lifeOf_77 : decode cX0_lifeOf 77 = .ok (.istore_n 3, 1) := by decide +kernel
theorem dX0_lifeOf_78 : decode cX0_lifeOf 78 = .ok (.aload_n 0, 1) := by decide +kernel
theorem dX0_lifeOf_79 : decode cX0_lifeOf 79 = .ok (.iload 8, 2) := by decide +kernel
theorem dX0_lifeOf_81 : decode cX0_lifeOf 81 = .ok (.invokevirtual 52, 3) := by decide +kernel
theorem dX0_lifeOf_84 : decode cX0_lifeOf 84 = .ok (.istore 4, 2) := by decide +kernel
theorem dX0_lifeOf_86 : decode cX0_lifeOf 86 = .ok (.iload 5, 2) := by decide +kernel
theorem dX0_lifeOf_88 : decode cX0_lifeOf 88 = .ok (.iload 4, 2) := by decide +kernel
theorem dX0_lifeOf_90 : decode cX0_lifeOf 90 = .ok (.aload_n 0, 1) := by decide +kernel
theorem dX0_lifeOf_91 : decode cX0_lifeOf 91 = .ok (.iload 8, 2) := by decide +kernel
theorem dX0_lifeOf_93 : decode cX0_lifeOf 93 = .ok (.invokevirtual 48, 3) := by decide +kernel
theorem dX0_lifeOf_96 : decode cX0_lifeOf 96 = .ok (.isub, 1) := by decide +kernel
theorem dX0_lifeOf_97 : decode cX0_lifeOf 97 = .ok (.iconst 1, 1) := by decide +kernel
theorem dX0_lifeOf_98 : decode cX0_lifeOf 98 = .ok (.iadd, 1) := by decide +kernel
theorem dX0_lifeOf_99 : decode cX0_lifeOf 99 = .ok (.iadd, 1) := by decide +kernel
theorem dX0_lifeOf_100 : decode cX0_lifeOf 100 = .ok (.istore 5, 2) := by decide +kernel
theorem dX0_lifeOf_102 : decode cX0_lifeOf 102 = .ok (.iload 6, 2) := by decide +kernel
theorem dX0_lifeOf_104 : decode cX0_lifeOf 104 = .ok (.iload 7, 2) := by decide +kernel
theorem dX0_lifeOf_106 : decode cX0_lifeOf 106 = .ok (.ior, 1) := by decide +kernel
theorem dX0_lifeOf_107 : decode cX0_lifeOf 107 = .ok (.istore 6, 2) := by decide +kernel
theorem dX0_lifeOf_109 : decode cX0_lifeOf 109 = .ok (.iinc 8 1, 3) := by decide +kernel
theorem dX0_lifeOf_112 : decode cX0_lifeOf 112 = .ok (.goto (-90), 3) := by decide +kernel
theorem dX0_lifeOf_115 : decode cX0_lifeOf 115 = .ok (.iload_n 2, 1) := by decide +kernel
theorem dX0_lifeOf_116 : decode cX0_lifeOf 116 = .ok (.tableswitch 36 0 2 #[28, 30, 33], 28) := by decide +kernel
theorem dX0_lifeOf_144 : decode cX0_lifeOf 144 = .ok (.iload_n 3, 1) := by decide +kernel
theorem dX0_lifeOf_145 : decode cX0_lifeOf 145 = .ok (.ireturn, 1) := by decide +kernel
theorem dX0_lifeOf_146 : decode cX0_lifeOf 146 = .ok (.iload 4, 2) := by decide +kernel
theorem dX0_lifeOf_148 : decode cX0_lifeOf 148 = .ok (.ireturn, 1) := by decide +kernel
theorem dX0_lifeOf_149 : decode cX0_lifeOf 149 = .ok (.iload 5, 2) := by decide +kernel
theorem dX0_lifeOf_151 : decode cX0_lifeOf 151 = .ok (.ireturn, 1) := by decide +kernel
theorem dX0_lifeOf_152 : decode cX0_lifeOf 152 = .ok (.iload 6, 2) := by decide +kernel
theorem dX0_lifeOf_154 : decode cX0_lifeOf 154 = .ok (.invokestatic 98, 3) := by decide +kernel
theorem dX0_lifeOf_157 : decode cX0_lifeOf 157 = .ok (.ireturn, 1) := by decide +kernel
set_option maxRecDepth 20000 in
theorem ggX0_nextSpan_X0_ownerBehind : GoodIn wsX0_nextSpan wsX0_ownerBehind := goodIn_r _ [6, 1, 7, 8, 9, 10, 11, 43, 44, 45, 46, 47, 48, 49, 50] (by decide +kernel) (by decide +kernel)
set_option maxRecDepth 20000 in
theorem gX0_nextSpan_X0_ownerBehind : GoodIn wsX0_nextSpan (wsV RX0 91 RX0 yX0_ownerBehind wsX0_ownerBehind) := goodIn_app (goodIn_of _ (by decide +kernel)) ggX0_nextSpan_X0_ownerBehind
set_option maxRecDepth 20000 in
theorem ggX0_nextSpan_X0_nameBehind : GoodIn wsX0_nextSpan wsX0_nameBehind := goodIn_r _ [15, 1, 16, 17, 5, 18, 19, 20, 21, 22, 23, 24, 25, 26, 27, 28, 29, 8, 43, 44, 45, 46, 47, 48, 49, 50] (by decide +kernel) (by decide +kernel)
set_option maxRecDepth 20000 in
theorem gX0_nextSpan_X0_nameBehind : GoodIn wsX0_nextSpan (wsV RX0 87 RX0 yX0_nameBehind wsX0_nameBehind) := goodIn_app (goodIn_of _ (by decide +kernel)) ggX0_nextSpan_X0_nameBehind
set_option maxRecDepth 20000 in
theorem ggX0_nextSpan_X0_holdsInAYear : GoodIn wsX0_nextSpan wsX0_holdsInAYear := goodIn_r _ [33, 34, 35, 36, 5, 37, 1, 38, 39, 40, 41, 42, 43, 44, 45, 46, 47, 48, 49, 50] (by decide +kernel) (by decide +kernel)
set_option maxRecDepth 20000 in
theorem gX0_nextSpan_X0_holdsInAYear : GoodIn wsX0_nextSpan (wsV RX0 94 RX0 yX0_holdsInAYear wsX0_holdsInAYear) := goodIn_app (goodIn_of _ (by decide +kernel)) ggX0_nextSpan_X0_holdsInAYear
theorem dX0_nextSpan_0 : decode cX0_nextSpan 0 = .ok (.aload_n 0, 1) := by decide +kernel
theorem dX0_nextSpan_1 : decode cX0_nextSpan 1 = .ok (.iload_n 1, 1) := by decide +kernel
theorem dX0_nextSpan_2 : decode cX0_nextSpan 2 = .ok (.iload_n 2, 1) := by decide +kernel
theorem dX0_nextSpan_3 : decode cX0_nextSpan 3 = .ok (.invokevirtual 91, 3) := by decide +kernel
theorem dX0_nextSpan_6 : decode cX0_nextSpan 6 = .ok (.istore_n 3, 1) := by decide +kernel
theorem dX0_nextSpan_7 : decode cX0_nextSpan 7 = .ok (.aload_n 0, 1) := by decide +kernel
theorem dX0_nextSpan_8 : decode cX0_nextSpan 8 = .ok (.iload_n 3, 1) := by decide +kernel
theorem dX0_nextSpan_9 : decode cX0_nextSpan 9 = .ok (.iload_n 2, 1) := by decide +kernel
theorem dX0_nextSpan_10 : decode cX0_nextSpan 10 = .ok (.invokevirtual 87, 3) := by decide +kernel
theorem dX0_nextSpan_13 : decode cX0_nextSpan 13 = .ok (.lstore 4, 2) := by decide +kernel
theorem dX0_nextSpan_15 : decode cX0_nextSpan 15 = .ok (.iload_n 2, 1) := by decide +kernel
theorem dX0_nextSpan_16 : decode cX0_nextSpan 16 = .ok (.iconst 1, 1) := by decide +kernel
theorem dX0_nextSpan_17 : decode cX0_nextSpan 17 = .ok (.iadd, 1) := by decide +kernel
theorem dX0_nextSpan_18 : decode cX0_nextSpan 18 = .ok (.istore 6, 2) := by decide +kernel
theorem dX0_nextSpan_20 : decode cX0_nextSpan 20 = .ok (.iload 6, 2) := by decide +kernel
theorem dX0_nextSpan_22 : decode cX0_nextSpan 22 = .ok (.aload_n 0, 1) := by decide +kernel
theorem dX0_nextSpan_23 : decode cX0_nextSpan 23 = .ok (.getfield 31, 3) := by decide +kernel
theorem dX0_nextSpan_26 : decode cX0_nextSpan 26 = .ok (.if_icmp .gt 53, 3) := by decide +kernel
theorem dX0_nextSpan_29 : decode cX0_nextSpan 29 = .ok (.aload_n 0, 1) := by decide +kernel
theorem dX0_nextSpan_30 : decode cX0_nextSpan 30 = .ok (.iload 6, 2) := by decide +kernel
theorem dX0_nextSpan_32 : decode cX0_nextSpan 32 = .ok (.invokevirtual 94, 3) := by decide +kernel
theorem dX0_nextSpan_35 : decode cX0_nextSpan 35 = .ok (.ifCond .ne 6, 3) := by decide +kernel
theorem dX0_nextSpan_38 : decode cX0_nextSpan 38 = .ok (.goto 35, 3) := by decide +kernel
theorem dX0_nextSpan_41 : decode cX0_nextSpan 41 = .ok (.aload_n 0, 1) := by decide +kernel
theorem dX0_nextSpan_42 : decode cX0_nextSpan 42 = .ok (.iload_n 1, 1) := by decide +kernel
theorem dX0_nextSpan_43 : decode cX0_nextSpan 43 = .ok (.iload 6, 2) := by decide +kernel
theorem dX0_nextSpan_45 : decode cX0_nextSpan 45 = .ok (.invokevirtual 91, 3) := by decide +kernel
theorem dX0_nextSpan_48 : decode cX0_nextSpan 48 = .ok (.istore 7, 2) := by decide +kernel
theorem dX0_nextSpan_50 : decode cX0_nextSpan 50 = .ok (.iload 7, 2) := by decide +kernel
theorem dX0_nextSpan_52 : decode cX0_nextSpan 52 = .ok (.iload_n 3, 1) := by decide +kernel
theorem dX0_nextSpan_53 : decode cX0_nextSpan 53 = .ok (.if_icmp .ne 17, 3) := by decide +kernel
theorem dX0_nextSpan_56 : decode cX0_nextSpan 56 = .ok (.aload_n 0, 1) := by decide +kernel
theorem dX0_nextSpan_57 : decode cX0_nextSpan 57 = .ok (.iload 7, 2) := by decide +kernel
theorem dX0_nextSpan_59 : decode cX0_nextSpan 59 = .ok (.iload 6, 2) := by decide +kernel
theorem dX0_nextSpan_61 : decode cX0_nextSpan 61 = .ok (.invokevirtual 87, 3) := by decide +kernel
theorem dX0_nextSpan_64 : decode cX0_nextSpan 64 = .ok (.lload 4, 2) := by decide +kernel
theorem dX0_nextSpan_66 : decode cX0_nextSpan 66 = .ok (.lcmp, 1) := by decide +kernel
theorem dX0_nextSpan_67 : decode cX0_nextSpan 67 = .ok (.ifCond .eq 6, 3) := by decide +kernel
theorem dX0_nextSpan_70 : decode cX0_nextSpan 70 = .ok (.iload 6, 2) := by decide +kernel
theorem dX0_nextSpan_72 : decode cX0_nextSpan 72 = .ok (.ireturn, 1) := by decide +kernel
theorem dX0_nextSpan_73 : decode cX0_nextSpan 73 = .ok (.iinc 6 1, 3) := by decide +kernel
theorem dX0_nextSpan_76 : decode cX0_nextSpan 76 = .ok (.goto (-56), 3) := by decide +kernel
theorem dX0_nextSpan_79 : decode cX0_nextSpan 79 = .ok (.aload_n 0, 1) := by decide +kernel
theorem dX0_nextSpan_80 : decode cX0_nextSpan 80 = .ok (.getfield 31, 3) := by decide +kernel
theorem dX0_nextSpan_83 : decode cX0_nextSpan 83 = .ok (.iconst 1, 1) := by decide +kernel
theorem dX0_nextSpan_84 : decode cX0_nextSpan 84 = .ok (.iadd, 1) := by decide +kernel
theorem dX0_nextSpan_85 : decode cX0_nextSpan 85 = .ok (.ireturn, 1) := by decide +kernel
set_option maxRecDepth 20000 in
theorem ggX0_parishesNow_X0_sitesNow : GoodIn wsX0_parishesNow wsX0_sitesNow := goodIn_r _ [6, 7, 8, 9, 10, 5, 11, 12, 13, 14, 15, 16, 17, 18, 19, 20, 21, 22, 23, 24, 25, 26, 27, 28, 29] (by decide +kernel) (by decide +kernel)
set_option maxRecDepth 20000 in
theorem gX0_parishesNow_X0_sitesNow : GoodIn wsX0_parishesNow (wsV RX0 103 RX0 yX0_sitesNow wsX0_sitesNow) := goodIn_app (goodIn_of _ (by decide +kernel)) ggX0_parishesNow_X0_sitesNow
theorem dX0_parishesNow_0 : decode cX0_parishesNow 0 = .ok (.iconst 0, 1) := by decide +kernel
theorem dX0_parishesNow_1 : decode cX0_parishesNow 1 = .ok (.istore_n 1, 1) := by decide +kernel
theorem dX0_parishesNow_2 : decode cX0_parishesNow 2 = .ok (.iconst 0, 1) := by decide +kernel
theorem dX0_parishesNow_3 : decode cX0_parishesNow 3 = .ok (.istore_n 2, 1) := by decide +kernel
theorem dX0_parishesNow_4 : decode cX0_parishesNow 4 = .ok (.iload_n 2, 1) := by decide +kernel
theorem dX0_parishesNow_5 : decode cX0_parishesNow 5 = .ok (.aload_n 0, 1) := by decide +kernel
theorem dX0_parishesNow_6 : decode cX0_parishesNow 6 = .ok (.getfield 35, 3) := by decide +kernel
theorem dX0_parishesNow_9 : decode cX0_parishesNow 9 = .ok (.if_icmp .ge 20, 3) := by decide +kernel
theorem dX0_parishesNow_12 : decode cX0_parishesNow 12 = .ok (.aload_n 0, 1) := by decide +kernel
theorem dX0_parishesNow_13 : decode cX0_parishesNow 13 = .ok (.iload_n 2, 1) := by decide +kernel
theorem dX0_parishesNow_14 : decode cX0_parishesNow 14 = .ok (.invokevirtual 103, 3) := by decide +kernel
theorem dX0_parishesNow_17 : decode cX0_parishesNow 17 = .ok (.ifCond .eq 6, 3) := by decide +kernel
theorem dX0_parishesNow_20 : decode cX0_parishesNow 20 = .ok (.iinc 1 1, 3) := by decide +kernel
theorem dX0_parishesNow_23 : decode cX0_parishesNow 23 = .ok (.iinc 2 1, 3) := by decide +kernel
theorem dX0_parishesNow_26 : decode cX0_parishesNow 26 = .ok (.goto (-22), 3) := by decide +kernel
theorem dX0_parishesNow_29 : decode cX0_parishesNow 29 = .ok (.iload_n 1, 1) := by decide +kernel
theorem dX0_parishesNow_30 : decode cX0_parishesNow 30 = .ok (.ireturn, 1) := by decide +kernel
set_option maxRecDepth 20000 in
theorem ggX0_unlikeNamesNow_X0_sitesNow : GoodIn wsX0_unlikeNamesNow wsX0_sitesNow := goodIn_r _ [6, 7, 8, 9, 10, 5, 11, 12, 13, 14, 15, 16, 17, 18, 19, 20, 21, 43, 44, 45, 46, 47, 48, 49, 50] (by decide +kernel) (by decide +kernel)
set_option maxRecDepth 20000 in
theorem gX0_unlikeNamesNow_X0_sitesNow : GoodIn wsX0_unlikeNamesNow (wsV RX0 103 RX0 yX0_sitesNow wsX0_sitesNow) := goodIn_app (goodIn_of _ (by decide +kernel)) ggX0_unlikeNamesNow_X0_sitesNow
set_option maxRecDepth 20000 in
theorem ggX0_unlikeNamesNow_X0_isNameOfLesser : GoodIn wsX0_unlikeNamesNow wsX0_isNameOfLesser := goodIn_r _ [25, 7, 26, 27, 28, 5, 29, 30, 31, 32, 33, 34, 35, 36, 37, 38, 39, 40, 41, 19, 42, 21, 2, 3, 4, 6, 8, 9, 10, 11, 12, 13, 14, 15, 16, 17, 18, 20, 43, 44, 45, 46, 47, 48, 49, 50] (by decide +kernel) (by decide +kernel)
set_option maxRecDepth 20000 in
theorem gX0_unlikeNamesNow_X0_isNameOfLesser : GoodIn wsX0_unlikeNamesNow (wsV RX0 106 RX0 yX0_isNameOfLesser wsX0_isNameOfLesser) := goodIn_app (goodIn_of _ (by decide +kernel)) ggX0_unlikeNamesNow_X0_isNameOfLesser
theorem dX0_unlikeNamesNow_0 : decode cX0_unlikeNamesNow 0 = .ok (.iconst 0, 1) := by decide +kernel
theorem dX0_unlikeNamesNow_1 : decode cX0_unlikeNamesNow 1 = .ok (.istore_n 1, 1) := by decide +kernel
theorem dX0_unlikeNamesNow_2 : decode cX0_unlikeNamesNow 2 = .ok (.iconst 0, 1) := by decide +kernel
theorem dX0_unlikeNamesNow_3 : decode cX0_unlikeNamesNow 3 = .ok (.istore_n 2, 1) := by decide +kernel
theorem dX0_unlikeNamesNow_4 : decode cX0_unlikeNamesNow 4 = .ok (.iload_n 2, 1) := by decide +kernel
theorem dX0_unlikeNamesNow_5 : decode cX0_unlikeNamesNow 5 = .ok (.aload_n 0, 1) := by decide +kernel
theorem dX0_unlikeNamesNow_6 : decode cX0_unlikeNamesNow 6 = .ok (.getfield 35, 3) := by decide +kernel
theorem dX0_unlikeNamesNow_9 : decode cX0_unlikeNamesNow 9 = .ok (.if_icmp .ge 28, 3) := by decide +kernel
theorem dX0_unlikeNamesNow_12 : decode cX0_unlikeNamesNow 12 = .ok (.aload_n 0, 1) := by decide +kernel
theorem dX0_unlikeNamesNow_13 : decode cX0_unlikeNamesNow 13 = .ok (.iload_n 2, 1) := by decide +kernel
theorem dX0_unlikeNamesNow_14 : decode cX0_unlikeNamesNow 14 = .ok (.invokevirtual 103, 3) := by decide +kernel
theorem dX0_unlikeNamesNow_17 : decode cX0_unlikeNamesNow 17 = .ok (.ifCond .eq 14, 3) := by decide +kernel
theorem dX0_unlikeNamesNow_20 : decode cX0_unlikeNamesNow 20 = .ok (.aload_n 0, 1) := by decide +kernel
theorem dX0_unlikeNamesNow_21 : decode cX0_unlikeNamesNow 21 = .ok (.iload_n 2, 1) := by decide +kernel
theorem dX0_unlikeNamesNow_22 : decode cX0_unlikeNamesNow 22 = .ok (.invokevirtual 106, 3) := by decide +kernel
theorem dX0_unlikeNamesNow_25 : decode cX0_unlikeNamesNow 25 = .ok (.ifCond .ne 6, 3) := by decide +kernel
theorem dX0_unlikeNamesNow_28 : decode cX0_unlikeNamesNow 28 = .ok (.iinc 1 1, 3) := by decide +kernel
theorem dX0_unlikeNamesNow_31 : decode cX0_unlikeNamesNow 31 = .ok (.iinc 2 1, 3) := by decide +kernel
theorem dX0_unlikeNamesNow_34 : decode cX0_unlikeNamesNow 34 = .ok (.goto (-30), 3) := by decide +kernel
theorem dX0_unlikeNamesNow_37 : decode cX0_unlikeNamesNow 37 = .ok (.iload_n 1, 1) := by decide +kernel
theorem dX0_unlikeNamesNow_38 : decode cX0_unlikeNamesNow 38 = .ok (.ireturn, 1) := by decide +kernel
set_option maxRecDepth 20000 in
theorem ggX0_isNameOfLesser_X0_nameBehind : GoodIn wsX0_isNameOfLesser wsX0_nameBehind := goodIn_r _ [6, 1, 7, 8, 5, 9, 10, 11, 12, 13, 14, 15, 16, 17, 18, 19, 20, 21, 38, 39, 40, 41, 42, 43, 44, 45] (by decide +kernel) (by decide +kernel)
set_option maxRecDepth 20000 in
theorem gX0_isNameOfLesser_X0_nameBehind : GoodIn wsX0_isNameOfLesser (wsV RX0 87 RX0 yX0_nameBehind wsX0_nameBehind) := goodIn_app (goodIn_of _ (by decide +kernel)) ggX0_isNameOfLesser_X0_nameBehind
set_option maxRecDepth 20000 in
theorem ggX0_isNameOfLesser_X0_sitesNow : GoodIn wsX0_isNameOfLesser wsX0_sitesNow := goodIn_r _ [25, 1, 26, 27, 28, 5, 29, 30, 31, 32, 33, 34, 35, 36, 19, 37, 21, 38, 39, 40, 41, 42, 43, 44, 45] (by decide +kernel) (by decide +kernel)
set_option maxRecDepth 20000 in
theorem gX0_isNameOfLesser_X0_sitesNow : GoodIn wsX0_isNameOfLesser (wsV RX0 103 RX0 yX0_sitesNow wsX0_sitesNow) := goodIn_app (goodIn_of _ (by decide +kernel)) ggX0_isNameOfLesser_X0_sitesNow
theorem dX0_isNameOfLesser_0 : decode cX0_isNameOfLesser 0 = .ok (.aload_n 0, 1) := by decide +kernel
theorem dX0_isNameOfLesser_1 : decode cX0_isNameOfLesser 1 = .ok (.iload_n 1, 1) := by decide +kernel
theorem dX0_isNameOfLesser_2 : decode cX0_isNameOfLesser 2 = .ok (.aload_n 0, 1) := by decide +kernel
theorem dX0_isNameOfLesser_3 : decode cX0_isNameOfLesser 3 = .ok (.getfield 31, 3) := by decide +kernel
theorem dX0_isNameOfLesser_6 : decode cX0_isNameOfLesser 6 = .ok (.invokevirtual 87, 3) := by decide +kernel
theorem dX0_isNameOfLesser_9 : decode cX0_isNameOfLesser 9 = .ok (.lstore_n 2, 1) := by decide +kernel
theorem dX0_isNameOfLesser_10 : decode cX0_isNameOfLesser 10 = .ok (.iconst 0, 1) := by decide +kernel
theorem dX0_isNameOfLesser_11 : decode cX0_isNameOfLesser 11 = .ok (.istore 4, 2) := by decide +kernel
theorem dX0_isNameOfLesser_13 : decode cX0_isNameOfLesser 13 = .ok (.iload 4, 2) := by decide +kernel
theorem dX0_isNameOfLesser_15 : decode cX0_isNameOfLesser 15 = .ok (.iload_n 1, 1) := by decide +kernel
theorem dX0_isNameOfLesser_16 : decode cX0_isNameOfLesser 16 = .ok (.if_icmp .ge 35, 3) := by decide +kernel
theorem dX0_isNameOfLesser_19 : decode cX0_isNameOfLesser 19 = .ok (.aload_n 0, 1) := by decide +kernel
theorem dX0_isNameOfLesser_20 : decode cX0_isNameOfLesser 20 = .ok (.iload 4, 2) := by decide +kernel
theorem dX0_isNameOfLesser_22 : decode cX0_isNameOfLesser 22 = .ok (.invokevirtual 103, 3) := by decide +kernel
theorem dX0_isNameOfLesser_25 : decode cX0_isNameOfLesser 25 = .ok (.ifCond .eq 20, 3) := by decide +kernel
theorem dX0_isNameOfLesser_28 : decode cX0_isNameOfLesser 28 = .ok (.aload_n 0, 1) := by decide +kernel
theorem dX0_isNameOfLesser_29 : decode cX0_isNameOfLesser 29 = .ok (.iload 4, 2) := by decide +kernel
theorem dX0_isNameOfLesser_31 : decode cX0_isNameOfLesser 31 = .ok (.aload_n 0, 1) := by decide +kernel
theorem dX0_isNameOfLesser_32 : decode cX0_isNameOfLesser 32 = .ok (.getfield 31, 3) := by decide +kernel
theorem dX0_isNameOfLesser_35 : decode cX0_isNameOfLesser 35 = .ok (.invokevirtual 87, 3) := by decide +kernel
theorem dX0_isNameOfLesser_38 : decode cX0_isNameOfLesser 38 = .ok (.lload_n 2, 1) := by decide +kernel
theorem dX0_isNameOfLesser_39 : decode cX0_isNameOfLesser 39 = .ok (.lcmp, 1) := by decide +kernel
theorem dX0_isNameOfLesser_40 : decode cX0_isNameOfLesser 40 = .ok (.ifCond .ne 5, 3) := by decide +kernel
theorem dX0_isNameOfLesser_43 : decode cX0_isNameOfLesser 43 = .ok (.iconst 1, 1) := by decide +kernel
theorem dX0_isNameOfLesser_44 : decode cX0_isNameOfLesser 44 = .ok (.ireturn, 1) := by decide +kernel
theorem dX0_isNameOfLesser_45 : decode cX0_isNameOfLesser 45 = .ok (.iinc 4 1, 3) := by decide +kernel
theorem dX0_isNameOfLesser_48 : decode cX0_isNameOfLesser 48 = .ok (.goto (-35), 3) := by decide +kernel
theorem dX0_isNameOfLesser_51 : decode cX0_isNameOfLesser 51 = .ok (.iconst 0, 1) := by decide +kernel
theorem dX0_isNameOfLesser_52 : decode cX0_isNameOfLesser 52 = .ok (.ireturn, 1) := by decide +kernel
theorem dX1_init_0 : decode cX1_init 0 = .ok (.aload_n 0, 1) := by decide +kernel
theorem dX1_init_1 : decode cX1_init 1 = .ok (.invokespecial 3, 3) := by decide +kernel
theorem dX1_init_4 : decode cX1_init 4 = .ok (.aload_n 0, 1) := by decide +kernel
theorem dX1_init_5 : decode cX1_init 5 = .ok (.bipush 9, 2) := by decide +kernel
theorem dX1_init_7 : decode cX1_init 7 = .ok (.newarray .int, 2) := by decide +kernel
theorem dX1_init_9 : decode cX1_init 9 = .ok (.putfield 9, 3) := by decide +kernel
theorem dX1_init_12 : decode cX1_init 12 = .ok (.return_, 1) := by decide +kernel
theorem dX1_letterOf_0 : decode cX1_letterOf 0 = .ok (.lload_n 0, 1) := by decide +kernel
theorem dX1_letterOf_1 : decode cX1_letterOf 1 = .ok (.bipush 8, 2) := by decide +kernel
theorem dX1_letterOf_3 : decode cX1_letterOf 3 = .ok (.iload_n 2, 1) := by decide +kernel
theorem dX1_letterOf_4 : decode cX1_letterOf 4 = .ok (.imul, 1) := by decide +kernel
theorem dX1_letterOf_5 : decode cX1_letterOf 5 = .ok (.lushr, 1) := by decide +kernel
theorem dX1_letterOf_6 : decode cX1_letterOf 6 = .ok (.l2i, 1) := by decide +kernel
theorem dX1_letterOf_7 : decode cX1_letterOf 7 = .ok (.sipush 255, 3) := by decide +kernel
theorem dX1_letterOf_10 : decode cX1_letterOf 10 = .ok (.iand, 1) := by decide +kernel
theorem dX1_letterOf_11 : decode cX1_letterOf 11 = .ok (.ireturn, 1) := by decide +kernel
theorem dX1_withLetter_0 : decode cX1_withLetter 0 = .ok (.lload_n 0, 1) := by decide +kernel
theorem dX1_withLetter_1 : decode cX1_withLetter 1 = .ok (.iload_n 3, 1) := by decide +kernel
theorem dX1_withLetter_2 : decode cX1_withLetter 2 = .ok (.i2l, 1) := by decide +kernel
theorem dX1_withLetter_3 : decode cX1_withLetter 3 = .ok (.bipush 8, 2) := by decide +kernel
theorem dX1_withLetter_5 : decode cX1_withLetter 5 = .ok (.iload_n 2, 1) := by decide +kernel
theorem dX1_withLetter_6 : decode cX1_withLetter 6 = .ok (.imul, 1) := by decide +kernel
theorem dX1_withLetter_7 : decode cX1_withLetter 7 = .ok (.lshl, 1) := by decide +kernel
theorem dX1_withLetter_8 : decode cX1_withLetter 8 = .ok (.lor, 1) := by decide +kernel
theorem dX1_withLetter_9 : decode cX1_withLetter 9 = .ok (.lreturn, 1) := by decide +kernel
set_option maxRecDepth 20000 in
theorem ggX1_lengthOf_X1_letterOf : GoodIn wsX1_lengthOf wsX1_letterOf := goodIn_r _ [4] (by decide +kernel) (by decide +kernel)
set_option maxRecDepth 20000 in
theorem gX1_lengthOf_X1_letterOf : GoodIn wsX1_lengthOf (va_wsS RX1 15 yX1_letterOf wsX1_letterOf) := goodIn_app (goodIn_of _ (by decide +kernel)) ggX1_lengthOf_X1_letterOf
theorem dX1_lengthOf_0 : decode cX1_lengthOf 0 = .ok (.iconst 0, 1) := by decide +kernel
theorem dX1_lengthOf_1 : decode cX1_lengthOf 1 = .ok (.istore_n 2, 1) := by decide +kernel
theorem dX1_lengthOf_2 : decode cX1_lengthOf 2 = .ok (.iload_n 2, 1) := by decide +kernel
theorem dX1_lengthOf_3 : decode cX1_lengthOf 3 = .ok (.bipush 8, 2) := by decide +kernel
theorem dX1_lengthOf_5 : decode cX1_lengthOf 5 = .ok (.if_icmp .ge 17, 3) := by decide +kernel
theorem dX1_lengthOf_8 : decode cX1_lengthOf 8 = .ok (.lload_n 0, 1) := by decide +kernel
theorem dX1_lengthOf_9 : decode cX1_lengthOf 9 = .ok (.iload_n 2, 1) := by decide +kernel
theorem dX1_lengthOf_10 : decode cX1_lengthOf 10 = .ok (.invokestatic 15, 3) := by decide +kernel
theorem dX1_lengthOf_13 : decode cX1_lengthOf 13 = .ok (.ifCond .eq 9, 3) := by decide +kernel
theorem dX1_lengthOf_16 : decode cX1_lengthOf 16 = .ok (.iinc 2 1, 3) := by decide +kernel
theorem dX1_lengthOf_19 : decode cX1_lengthOf 19 = .ok (.goto (-17), 3) := by decide +kernel
theorem dX1_lengthOf_22 : decode cX1_lengthOf 22 = .ok (.iload_n 2, 1) := by decide +kernel
theorem dX1_lengthOf_23 : decode cX1_lengthOf 23 = .ok (.ireturn, 1) := by decide +kernel
theorem dX1_classOf_0 : decode cX1_classOf 0 = .ok (.iload_n 0, 1) := by decide +kernel
theorem dX1_classOf_1 : decode cX1_classOf 1 = .ok (.tableswitch 128 98 122 #[115, 117, 119, 128, 115, 117, 128, 128, 117, 117, 121, 123, 123, 128, 115, 117, 125, 117, 119, 128, 115, 128, 117, 128, 117], 115) := by decide +kernel
theorem dX1_classOf_116 : decode cX1_classOf 116 = .ok (.iconst 1, 1) := by decide +kernel
theorem dX1_classOf_117 : decode cX1_classOf 117 = .ok (.ireturn, 1) := by decide +kernel
theorem dX1_classOf_118 : decode cX1_classOf 118 = .ok (.iconst 2, 1) := by decide +kernel
theorem dX1_classOf_119 : decode cX1_classOf 119 = .ok (.ireturn, 1) := by decide +kernel
theorem dX1_classOf_120 : decode cX1_classOf 120 = .ok (.iconst 3, 1) := by decide +kernel
theorem dX1_classOf_121 : decode cX1_classOf 121 = .ok (.ireturn, 1) := by decide +kernel
theorem dX1_classOf_122 : decode cX1_classOf 122 = .ok (.iconst 4, 1) := by decide +kernel
theorem dX1_classOf_123 : decode cX1_classOf 123 = .ok (.ireturn, 1) := by decide +kernel
theorem dX1_classOf_124 : decode cX1_classOf 124 = .ok (.iconst 5, 1) := by decide +kernel
theorem dX1_classOf_125 : decode cX1_classOf 125 = .ok (.ireturn, 1) := by decide +kernel
theorem dX1_classOf_126 : decode cX1_classOf 126 = .ok (.bipush 6, 2) := by decide +kernel
theorem dX1_classOf_128 : decode cX1_classOf 128 = .ok (.ireturn, 1) := by decide +kernel
theorem dX1_classOf_129 : decode cX1_classOf 129 = .ok (.iconst 0, 1) := by decide +kernel
theorem dX1_classOf_130 : decode cX1_classOf 130 = .ok (.ireturn, 1) := by decide +kernel
set_option maxRecDepth 20000 in
theorem ggX1_soundOf_X1_letterOf : GoodIn wsX1_soundOf wsX1_letterOf := goodIn_r _ [4] (by decide +kernel) (by decide +kernel)
set_option maxRecDepth 20000 in
theorem gX1_soundOf_X1_letterOf : GoodIn wsX1_soundOf (va_wsS RX1 15 yX1_letterOf wsX1_letterOf) := goodIn_app (goodIn_of _ (by decide +kernel)) ggX1_soundOf_X1_letterOf
set_option maxRecDepth 20000 in
theorem ggX1_soundOf_X1_classOf : GoodIn wsX1_soundOf wsX1_classOf := goodIn_r _ [7] (by decide +kernel) (by decide +kernel)
set_option maxRecDepth 20000 in
theorem gX1_soundOf_X1_classOf : GoodIn wsX1_soundOf (va_wsS RX1 19 yX1_classOf wsX1_classOf) := goodIn_app (goodIn_of _ (by decide +kernel)) ggX1_soundOf_X1_classOf
set_option maxRecDepth 20000 in
theorem ggX1_soundOf_X1_lengthOf : GoodIn wsX1_soundOf wsX1_lengthOf := goodIn_r _ [10, 1, 2, 3, 4] (by decide +kernel) (by decide +kernel)
set_option maxRecDepth 20000 in
theorem gX1_soundOf_X1_lengthOf : GoodIn wsX1_soundOf (va_wsS RX1 23 yX1_lengthOf wsX1_lengthOf) := goodIn_app (goodIn_of _ (by decide +kernel)) ggX1_soundOf_X1_lengthOf
theorem dX1_soundOf_0 : decode cX1_soundOf 0 = .ok (.lload_n 0, 1) := by decide +kernel
theorem dX1_soundOf_1 : decode cX1_soundOf 1 = .ok (.iconst 0, 1) := by decide +kernel
theorem dX1_soundOf_2 : decode cX1_soundOf 2 = .ok (.invokestatic 15, 3) := by decide +kernel
theorem dX1_soundOf_5 : decode cX1_soundOf 5 = .ok (.invokestatic 19, 3) := by decide +kernel
theorem dX1_soundOf_8 : decode cX1_soundOf 8 = .ok (.istore_n 2, 1) := by decide +kernel
theorem dX1_soundOf_9 : decode cX1_soundOf 9 = .ok (.iload_n 2, 1) := by decide +kernel
theorem dX1_soundOf_10 : decode cX1_soundOf 10 = .ok (.iconst 1, 1) := by decide +kernel
theorem dX1_soundOf_11 : decode cX1_soundOf 11 = .ok (.iadd, 1) := by decide +kernel
theorem dX1_soundOf_12 : decode cX1_soundOf 12 = .ok (.istore_n 3, 1) := by decide +kernel
theorem dX1_soundOf_13 : decode cX1_soundOf 13 = .ok (.iconst 1, 1) := by decide +kernel
theorem dX1_soundOf_14 : decode cX1_soundOf 14 = .ok (.istore 4, 2) := by decide +kernel
theorem dX1_soundOf_16 : decode cX1_soundOf 16 = .ok (.lload_n 0, 1) := by decide +kernel
theorem dX1_soundOf_17 : decode cX1_soundOf 17 = .ok (.invokestatic 23, 3) := by decide +kernel
theorem dX1_soundOf_20 : decode cX1_soundOf 20 = .ok (.istore 5, 2) := by decide +kernel
theorem dX1_soundOf_22 : decode cX1_soundOf 22 = .ok (.iconst 1, 1) := by decide +kernel
theorem dX1_soundOf_23 : decode cX1_soundOf 23 = .ok (.istore 6, 2) := by decide +kernel
theorem dX1_soundOf_25 : decode cX1_soundOf 25 = .ok (.iload 6, 2) := by decide +kernel
theorem dX1_soundOf_27 : decode cX1_soundOf 27 = .ok (.iload 5, 2) := by decide +kernel
theorem dX1_soundOf_29 : decode cX1_soundOf 29 = .ok (.if_icmp .ge 55, 3) := by decide +kernel
theorem dX1_soundOf_32 : decode cX1_soundOf 32 = .ok (.iload 4, 2) := by decide +kernel
theorem dX1_soundOf_34 : decode cX1_soundOf 34 = .ok (.iconst 4, 1) := by decide +kernel
theorem dX1_soundOf_35 : decode cX1_soundOf 35 = .ok (.if_icmp .ge 49, 3) := by decide +kernel
theorem dX1_soundOf_38 : decode cX1_soundOf 38 = .ok (.lload_n 0, 1) := by decide +kernel
theorem dX1_soundOf_39 : decode cX1_soundOf 39 = .ok (.iload 6, 2) := by decide +kernel
theorem dX1_soundOf_41 : decode cX1_soundOf 41 = .ok (.invokestatic 15, 3) := by decide +kernel
theorem dX1_soundOf_44 : decode cX1_soundOf 44 = .ok (.invokestatic 19, 3) := by decide +kernel
theorem dX1_soundOf_47 : decode cX1_soundOf 47 = .ok (.istore 7, 2) := by decide +kernel
theorem dX1_soundOf_49 : decode cX1_soundOf 49 = .ok (.iload 7, 2) := by decide +kernel
theorem dX1_soundOf_51 : decode cX1_soundOf 51 = .ok (.ifCond .eq 24, 3) := by decide +kernel
theorem dX1_soundOf_54 : decode cX1_soundOf 54 = .ok (.iload 7, 2) := by decide +kernel
theorem dX1_soundOf_56 : decode cX1_soundOf 56 = .ok (.iload_n 2, 1) := by decide +kernel
theorem dX1_soundOf_57 : decode cX1_soundOf 57 = .ok (.if_icmp .eq 18, 3) := by decide +kernel
theorem dX1_soundOf_60 : decode cX1_soundOf 60 = .ok (.iload_n 3, 1) := by decide +kernel
theorem dX1_soundOf_61 : decode cX1_soundOf 61 = .ok (.iload 7, 2) := by decide +kernel
theorem dX1_soundOf_63 : decode cX1_soundOf 63 = .ok (.iconst 1, 1) := by decide +kernel
theorem dX1_soundOf_64 : decode cX1_soundOf 64 = .ok (.iadd, 1) := by decide +kernel
theorem dX1_soundOf_65 : decode cX1_soundOf 65 = .ok (.iconst 4, 1) := by decide +kernel
theorem dX1_soundOf_66 : decode cX1_soundOf 66 = .ok (.iload 4, 2) := by decide +kernel
theorem dX1_soundOf_68 : decode cX1_soundOf 68 = .ok (.imul, 1) := by decide +kernel
theorem dX1_soundOf_69 : decode cX1_soundOf 69 = .ok (.ishl, 1) := by decide +kernel
theorem dX1_soundOf_70 : decode cX1_soundOf 70 = .ok (.ior, 1) := by decide +kernel
theorem dX1_soundOf_71 : decode cX1_soundOf 71 = .ok (.istore_n 3, 1) := by decide +kernel
theorem dX1_soundOf_72 : decode cX1_soundOf 72 = .ok (.iinc 4 1, 3) := by decide +kernel
theorem dX1_soundOf_75 : decode cX1_soundOf 75 = .ok (.iload 7, 2) := by decide +kernel
theorem dX1_soundOf_77 : decode cX1_soundOf 77 = .ok (.istore_n 2, 1) := by decide +kernel
theorem dX1_soundOf_78 : decode cX1_soundOf 78 = .ok (.iinc 6 1, 3) := by decide +kernel
theorem dX1_soundOf_81 : decode cX1_soundOf 81 = .ok (.goto (-56), 3) := by decide +kernel
theorem dX1_soundOf_84 : decode cX1_soundOf 84 = .ok (.iload_n 3, 1) := by decide +kernel
theorem dX1_soundOf_85 : decode cX1_soundOf 85 = .ok (.ireturn, 1) := by decide +kernel
set_option maxRecDepth 20000 in
theorem ggX1_lengthOfSound_X1_classOfSound : GoodIn wsX1_lengthOfSound wsX1_classOfSound := goodIn_r _ [4] (by decide +kernel) (by decide +kernel)
set_option maxRecDepth 20000 in
theorem gX1_lengthOfSound_X1_classOfSound : GoodIn wsX1_lengthOfSound (va_wsS RX1 27 yX1_classOfSound wsX1_classOfSound) := goodIn_app (goodIn_of _ (by decide +kernel)) ggX1_lengthOfSound_X1_classOfSound
theorem dX1_lengthOfSound_0 : decode cX1_lengthOfSound 0 = .ok (.iconst 0, 1) := by decide +kernel
theorem dX1_lengthOfSound_1 : decode cX1_lengthOfSound 1 = .ok (.istore_n 1, 1) := by decide +kernel
theorem dX1_lengthOfSound_2 : decode cX1_lengthOfSound 2 = .ok (.iload_n 1, 1) := by decide +kernel
theorem dX1_lengthOfSound_3 : decode cX1_lengthOfSound 3 = .ok (.iconst 4, 1) := by decide +kernel
theorem dX1_lengthOfSound_4 : decode cX1_lengthOfSound 4 = .ok (.if_icmp .ge 17, 3) := by decide +kernel
theorem dX1_lengthOfSound_7 : decode cX1_lengthOfSound 7 = .ok (.iload_n 0, 1) := by decide +kernel
theorem dX1_lengthOfSound_8 : decode cX1_lengthOfSound 8 = .ok (.iload_n 1, 1) := by decide +kernel
theorem dX1_lengthOfSound_9 : decode cX1_lengthOfSound 9 = .ok (.invokestatic 27, 3) := by decide +kernel
theorem dX1_lengthOfSound_12 : decode cX1_lengthOfSound 12 = .ok (.ifCond .lt 9, 3) := by decide +kernel
theorem dX1_lengthOfSound_15 : decode cX1_lengthOfSound 15 = .ok (.iinc 1 1, 3) := by decide +kernel
theorem dX1_lengthOfSound_18 : decode cX1_lengthOfSound 18 = .ok (.goto (-16), 3) := by decide +kernel
theorem dX1_lengthOfSound_21 : decode cX1_lengthOfSound 21 = .ok (.iload_n 1, 1) := by decide +kernel
theorem dX1_lengthOfSound_22 : decode cX1_lengthOfSound 22 = .ok (.ireturn, 1) := by decide +kernel
theorem dX1_classOfSound_0 : decode cX1_classOfSound 0 = .ok (.iload_n 0, 1) := by decide +kernel
theorem dX1_classOfSound_1 : decode cX1_classOfSound 1 = .ok (.iconst 4, 1) := by decide +kernel
theorem dX1_classOfSound_2 : decode cX1_classOfSound 2 = .ok (.iload_n 1, 1) := by decide +kernel
theorem dX1_classOfSound_3 : decode cX1_classOfSound 3 = .ok (.imul, 1) := by decide +kernel
theorem dX1_classOfSound_4 : decode cX1_classOfSound 4 = .ok (.iushr, 1) := by decide +kernel
theorem dX1_classOfSound_5 : decode cX1_classOfSound 5 = .ok (.bipush 15, 2) := by decide +kernel
theorem dX1_classOfSound_7 : decode cX1_classOfSound 7 = .ok (.iand, 1) := by decide +kernel
theorem dX1_classOfSound_8 : decode cX1_classOfSound 8 = .ok (.iconst 1, 1) := by decide +kernel
theorem dX1_classOfSound_9 : decode cX1_classOfSound 9 = .ok (.isub, 1) := by decide +kernel
theorem dX1_classOfSound_10 : decode cX1_classOfSound 10 = .ok (.ireturn, 1) := by decide +kernel
set_option maxRecDepth 20000 in
theorem ggX1_areAlike_X1_soundOf : GoodIn wsX1_areAlike wsX1_soundOf := goodIn_r _ [4, 5, 6, 3, 7, 8, 9, 10, 11, 12, 13] (by decide +kernel) (by decide +kernel)
set_option maxRecDepth 20000 in
theorem gX1_areAlike_X1_soundOf : GoodIn wsX1_areAlike (va_wsS RX1 31 yX1_soundOf wsX1_soundOf) := goodIn_app (goodIn_of _ (by decide +kernel)) ggX1_areAlike_X1_soundOf
set_option maxRecDepth 20000 in
theorem ggX1_areAlike_X1_distance : GoodIn wsX1_areAlike wsX1_distance := goodIn_r _ [17, 18, 19, 20, 21, 22, 11, 12, 3, 13, 5, 6, 7, 23] (by decide +kernel) (by decide +kernel)
set_option maxRecDepth 20000 in
theorem gX1_areAlike_X1_distance : GoodIn wsX1_areAlike (wsV RX1 34 RX1 yX1_distance wsX1_distance) := goodIn_app (goodIn_of _ (by decide +kernel)) ggX1_areAlike_X1_distance
theorem dX1_areAlike_0 : decode cX1_areAlike 0 = .ok (.iload 5, 2) := by decide +kernel
theorem dX1_areAlike_2 : decode cX1_areAlike 2 = .ok (.ifCond .ne 15, 3) := by decide +kernel
theorem dX1_areAlike_5 : decode cX1_areAlike 5 = .ok (.lload_n 1, 1) := by decide +kernel
theorem dX1_areAlike_6 : decode cX1_areAlike 6 = .ok (.lload_n 3, 1) := by decide +kernel
theorem dX1_areAlike_7 : decode cX1_areAlike 7 = .ok (.lcmp, 1) := by decide +kernel
theorem dX1_areAlike_8 : decode cX1_areAlike 8 = .ok (.ifCond .ne 7, 3) := by decide +kernel
theorem dX1_areAlike_11 : decode cX1_areAlike 11 = .ok (.iconst 1, 1) := by decide +kernel
theorem dX1_areAlike_12 : decode cX1_areAlike 12 = .ok (.goto 4, 3) := by decide +kernel
theorem dX1_areAlike_15 : decode cX1_areAlike 15 = .ok (.iconst 0, 1) := by decide +kernel
theorem dX1_areAlike_16 : decode cX1_areAlike 16 = .ok (.ireturn, 1) := by decide +kernel
theorem dX1_areAlike_17 : decode cX1_areAlike 17 = .ok (.iload 5, 2) := by decide +kernel
theorem dX1_areAlike_19 : decode cX1_areAlike 19 = .ok (.iconst 1, 1) := by decide +kernel
theorem dX1_areAlike_20 : decode cX1_areAlike 20 = .ok (.if_icmp .ne 20, 3) := by decide +kernel
theorem dX1_areAlike_23 : decode cX1_areAlike 23 = .ok (.lload_n 1, 1) := by decide +kernel
theorem dX1_areAlike_24 : decode cX1_areAlike 24 = .ok (.invokestatic 31, 3) := by decide +kernel
theorem dX1_areAlike_27 : decode cX1_areAlike 27 = .ok (.lload_n 3, 1) := by decide +kernel
theorem dX1_areAlike_28 : decode cX1_areAlike 28 = .ok (.invokestatic 31, 3) := by decide +kernel
theorem dX1_areAlike_31 : decode cX1_areAlike 31 = .ok (.if_icmp .ne 7, 3) := by decide +kernel
theorem dX1_areAlike_34 : decode cX1_areAlike 34 = .ok (.iconst 1, 1) := by decide +kernel
theorem dX1_areAlike_35 : decode cX1_areAlike 35 = .ok (.goto 4, 3) := by decide +kernel
theorem dX1_areAlike_38 : decode cX1_areAlike 38 = .ok (.iconst 0, 1) := by decide +kernel
theorem dX1_areAlike_39 : decode cX1_areAlike 39 = .ok (.ireturn, 1) := by decide +kernel
theorem dX1_areAlike_40 : decode cX1_areAlike 40 = .ok (.aload_n 0, 1) := by decide +kernel
theorem dX1_areAlike_41 : decode cX1_areAlike 41 = .ok (.lload_n 1, 1) := by decide +kernel
theorem dX1_areAlike_42 : decode cX1_areAlike 42 = .ok (.lload_n 3, 1) := by decide +kernel
theorem dX1_areAlike_43 : decode cX1_areAlike 43 = .ok (.invokevirtual 34, 3) := by decide +kernel
theorem dX1_areAlike_46 : decode cX1_areAlike 46 = .ok (.iconst 1, 1) := by decide +kernel
theorem dX1_areAlike_47 : decode cX1_areAlike 47 = .ok (.if_icmp .gt 7, 3) := by decide +kernel
theorem dX1_areAlike_50 : decode cX1_areAlike 50 = .ok (.iconst 1, 1) := by decide +kernel
theorem dX1_areAlike_51 : decode cX1_areAlike 51 = .ok (.goto 4, 3) := by decide +kernel
theorem dX1_areAlike_54 : decode cX1_areAlike 54 = .ok (.iconst 0, 1) := by decide +kernel
theorem dX1_areAlike_55 : decode cX1_areAlike 55 = .ok (.ireturn, 1) := by decide +kernel
set_option maxRecDepth 20000 in
theorem ggX1_distance_X1_lengthOf : GoodIn wsX1_distance wsX1_lengthOf := goodIn_r _ [9, 10, 11, 8, 12] (by decide +kernel) (by decide +kernel)
set_option maxRecDepth 20000 in
theorem gX1_distance_X1_lengthOf : GoodIn wsX1_distance (va_wsS RX1 23 yX1_lengthOf wsX1_lengthOf) := goodIn_app (goodIn_of _ (by decide +kernel)) ggX1_distance_X1_lengthOf
set_option maxRecDepth 20000 in
theorem ggX1_distance_X1_letterOf : GoodIn wsX1_distance wsX1_letterOf := goodIn_r _ [12] (by decide +kernel) (by decide +kernel)
set_option maxRecDepth 20000 in
theorem gX1_distance_X1_letterOf : GoodIn wsX1_distance (va_wsS RX1 15 yX1_letterOf wsX1_letterOf) := goodIn_app (goodIn_of _ (by decide +kernel)) ggX1_distance_X1_letterOf
theorem dX1_distance_0 : decode cX1_distance 0 = .ok (.lload_n 1, 1) := by decide +kernel
theorem dX1_distance_1 : decode cX1_distance 1 = .ok (.invokestatic 23, 3) := by decide +kernel
theorem dX1_distance_4 : decode cX1_distance 4 = .ok (.istore 5, 2) := by decide +kernel
theorem dX1_distance_6 : decode cX1_distance 6 = .ok (.lload_n 3, 1) := by decide +kernel
theorem dX1_distance_7 : decode cX1_distance 7 = .ok (.invokestatic 23, 3) := by decide +kernel
theorem dX1_distance_10 : decode cX1_distance 10 = .ok (.istore 6, 2) := by decide +kernel
theorem dX1_distance_12 : decode cX1_distance 12 = .ok (.iconst 0, 1) := by decide +kernel
theorem dX1_distance_13 : decode cX1_distance 13 = .ok (.istore 7, 2) := by decide +kernel
theorem dX1_distance_15 : decode cX1_distance 15 = .ok (.iload 7, 2) := by decide +kernel
theorem dX1_distance_17 : decode cX1_distance 17 = .ok (.iload 6, 2) := by decide +kernel
theorem dX1_distance_19 : decode cX1_distance 19 = .ok (.if_icmp .gt 18, 3) := by decide +kernel
theorem dX1_distance_22 : decode cX1_distance 22 = .ok (.aload_n 0, 1) := by decide +kernel
theorem dX1_distance_23 : decode cX1_distance 23 = .ok (.getfield 9, 3) := by decide +kernel
theorem dX1_distance_26 : decode cX1_distance 26 = .ok (.iload 7, 2) := by decide +kernel
theorem dX1_distance_28 : decode cX1_distance 28 = .ok (.iload 7, 2) := by decide +kernel
theorem dX1_distance_30 : decode cX1_distance 30 = .ok (.iastore, 1) := by decide +kernel
theorem dX1_distance_31 : decode cX1_distance 31 = .ok (.iinc 7 1, 3) := by decide +kernel
theorem dX1_distance_34 : decode cX1_distance 34 = .ok (.goto (-19), 3) := by decide +kernel
theorem dX1_distance_37 : decode cX1_distance 37 = .ok (.iconst 1, 1) := by decide +kernel
theorem dX1_distance_38 : decode cX1_distance 38 = .ok (.istore 7, 2) := by decide +kernel
theorem dX1_distance_40 : decode cX1_distance 40 = .ok (.iload 7, 2) := by decide +kernel
theorem dX1_distance_42 : decode cX1_distance 42 = .ok (.iload 5, 2) := by decide +kernel
theorem dX1_distance_44 : decode cX1_distance 44 = .ok (.if_icmp .gt 108, 3) := by decide +kernel
theorem dX1_distance_47 : decode cX1_distance 47 = .ok (.aload_n 0, 1) := by decide +kernel
theorem dX1_distance_48 : decode cX1_distance 48 = .ok (.getfield 9, 3) := by decide +kernel
theorem dX1_distance_51 : decode cX1_distance 51 = .ok (.iconst 0, 1) := by decide +kernel
theorem dX1_distance_52 : decode cX1_distance 52 = .ok (.iaload, 1) := by decide +kernel
theorem dX1_distance_53 : decode cX1_distance 53 = .ok (.istore 8, 2) := by decide +kernel
theorem dX1_distance_55 : decode cX1_distance 55 = .ok (.aload_n 0, 1) := by decide +kernel
theorem dX1_distance_56 : decode cX1_distance 56 = .ok (.getfield 9, 3) := by decide +kernel
theorem dX1_distance_59 : decode cX1_distance 59 = .ok (.iconst 0, 1) := by decide +kernel
theorem dX1_distance_60 : decode cX1_distance 60 = .ok (.iload 7, 2) := by decide +kernel
theorem dX1_distance_62 : decode cX1_distance 62 = .ok (.iastore, 1) := by decide +kernel
theorem dX1_distance_63 : decode cX1_distance 63 = .ok (.iconst 1, 1) := by decide +kernel
theorem dX1_distance_64 : decode cX1_distance 64 = .ok (.istore 9, 2) := by decide +kernel
theorem dX1_distance_66 : decode cX1_distance 66 = .ok (.iload 9, 2) := by decide +kernel
theorem dX1_distance_68 : decode cX1_distance 68 = .ok (.iload 6, 2) := by decide +kernel
theorem dX1_distance_70 : decode cX1_distance 70 = .ok (.if_icmp .gt 76, 3) := by decide +kernel
theorem dX1_distance_73 : decode cX1_distance 73 = .ok (.lload_n 1, 1) := by decide +kernel
theorem dX1_distance_74 : decode cX1_distance 74 = .ok (.iload 7, 2) := by decide +kernel
theorem dX1_distance_76 : decode cX1_distance 76 = .ok (.iconst 1, 1) := by decide +kernel
theorem dX1_distance_77 : decode cX1_distance 77 = .ok (.isub, 1) := by decide +kernel
theorem dX1_distance_78 : decode cX1_distance 78 = .ok (.invokestatic 15, 3) := by decide +kernel
theorem dX1_distance_81 : decode cX1_distance 81 = .ok (.lload_n 3, 1) := by decide +kernel
theorem dX1_distance_82 : decode cX1_distance 82 = .ok (.iload 9, 2) := by decide +kernel
theorem dX1_distance_84 : decode cX1_distance 84 = .ok (.iconst 1, 1) := by decide +kernel
theorem dX1_distance_85 : decode cX1_distance 85 = .ok (.isub, 1) := by decide +kernel
theorem dX1_distance_86 : decode cX1_distance 86 = .ok (.invokestatic 15, 3) := by decide +kernel
theorem dX1_distance_89 : decode cX1_distance 89 = .ok (.if_icmp .ne 8, 3) := by decide +kernel
theorem dX1_distance_92 : decode cX1_distance 92 = .ok (.iload 8, 2) := by decide +kernel
theorem dX1_distance_94 : decode cX1_distance 94 = .ok (.goto 7, 3) := by decide +kernel
theorem dX1_distance_97 : decode cX1_distance 97 = .ok (.iload 8, 2) := by decide +kernel
theorem dX1_distance_99 : decode cX1_distance 99 = .ok (.iconst 1, 1) := by decide +kernel
theorem dX1_distance_100 : decode cX1_distance 100 = .ok (.iadd, 1) := by decide +kernel
theorem dX1_distance_101 : decode cX1_distance 101 = .ok (.istore 10, 2) := by decide +kernel
theorem dX1_distance_103 : decode cX1_distance 103 = .ok (.aload_n 0, 1) := by decide +kernel
theorem dX1_distance_104 : decode cX1_distance 104 = .ok (.getfield 9, 3) := by decide +kernel
theorem dX1_distance_107 : decode cX1_distance 107 = .ok (.iload 9, 2) := by decide +kernel
theorem dX1_distance_109 : decode cX1_distance 109 = .ok (.iaload, 1) := by decide +kernel
theorem dX1_distance_110 : decode cX1_distance 110 = .ok (.istore 8, 2) := by decide +kernel
theorem dX1_distance_112 : decode cX1_distance 112 = .ok (.aload_n 0, 1) := by decide +kernel
theorem dX1_distance_113 : decode cX1_distance 113 = .ok (.getfield 9, 3) := by decide +kernel
theorem dX1_distance_116 : decode cX1_distance 116 = .ok (.iload 9, 2) := by decide +kernel
theorem dX1_distance_118 : decode cX1_distance 118 = .ok (.iload 10, 2) := by decide +kernel
theorem dX1_distance_120 : decode cX1_distance 120 = .ok (.iload 8, 2) := by decide +kernel
theorem dX1_distance_122 : decode cX1_distance 122 = .ok (.aload_n 0, 1) := by decide +kernel
theorem dX1_distance_123 : decode cX1_distance 123 = .ok (.getfield 9, 3) := by decide +kernel
theorem dX1_distance_126 : decode cX1_distance 126 = .ok (.iload 9, 2) := by decide +kernel
theorem dX1_distance_128 : decode cX1_distance 128 = .ok (.iconst 1, 1) := by decide +kernel
theorem dX1_distance_129 : decode cX1_distance 129 = .ok (.isub, 1) := by decide +kernel
theorem dX1_distance_130 : decode cX1_distance 130 = .ok (.iaload, 1) := by decide +kernel
theorem dX1_distance_131 : decode cX1_distance 131 = .ok (.invokestatic 38, 3) := by decide +kernel
theorem dX1_distance_134 : decode cX1_distance 134 = .ok (.iconst 1, 1) := by decide +kernel
theorem dX1_distance_135 : decode cX1_distance 135 = .ok (.iadd, 1) := by decide +kernel
theorem dX1_distance_136 : decode cX1_distance 136 = .ok (.invokestatic 38, 3) := by decide +kernel
theorem dX1_distance_139 : decode cX1_distance 139 = .ok (.iastore, 1) := by decide +kernel
theorem dX1_distance_140 : decode cX1_distance 140 = .ok (.iinc 9 1, 3) := by decide +kernel
theorem dX1_distance_143 : decode cX1_distance 143 = .ok (.goto (-77), 3) := by decide +kernel
theorem dX1_distance_146 : decode cX1_distance 146 = .ok (.iinc 7 1, 3) := by decide +kernel
theorem dX1_distance_149 : decode cX1_distance 149 = .ok (.goto (-109), 3) := by decide +kernel
theorem dX1_distance_152 : decode cX1_distance 152 = .ok (.aload_n 0, 1) := by decide +kernel
theorem dX1_distance_153 : decode cX1_distance 153 = .ok (.getfield 9, 3) := by decide +kernel
theorem dX1_distance_156 : decode cX1_distance 156 = .ok (.iload 6, 2) := by decide +kernel
theorem dX1_distance_158 : decode cX1_distance 158 = .ok (.iaload, 1) := by decide +kernel
theorem dX1_distance_159 : decode cX1_distance 159 = .ok (.ireturn, 1) := by decide +kernel
theorem dJ6_bitCount_0f7a4_0 : decode cJ6_bitCount_0f7a4 0 = .ok (.iload_n 0, 1) := by decide +kernel
theorem dJ6_bitCount_0f7a4_1 : decode cJ6_bitCount_0f7a4 1 = .ok (.iload_n 0, 1) := by decide +kernel
theorem dJ6_bitCount_0f7a4_2 : decode cJ6_bitCount_0f7a4 2 = .ok (.iconst 1, 1) := by decide +kernel
theorem dJ6_bitCount_0f7a4_3 : decode cJ6_bitCount_0f7a4 3 = .ok (.iushr, 1) := by decide +kernel
theorem dJ6_bitCount_0f7a4_4 : decode cJ6_bitCount_0f7a4 4 = .ok (.ldc_w 265, 3) := by decide +kernel
theorem dJ6_bitCount_0f7a4_7 : decode cJ6_bitCount_0f7a4 7 = .ok (.iand, 1) := by decide +kernel
theorem dJ6_bitCount_0f7a4_8 : decode cJ6_bitCount_0f7a4 8 = .ok (.isub, 1) := by decide +kernel
theorem dJ6_bitCount_0f7a4_9 : decode cJ6_bitCount_0f7a4 9 = .ok (.istore_n 0, 1) := by decide +kernel
theorem dJ6_bitCount_0f7a4_10 : decode cJ6_bitCount_0f7a4 10 = .ok (.iload_n 0, 1) := by decide +kernel
theorem dJ6_bitCount_0f7a4_11 : decode cJ6_bitCount_0f7a4 11 = .ok (.ldc_w 266, 3) := by decide +kernel
theorem dJ6_bitCount_0f7a4_14 : decode cJ6_bitCount_0f7a4 14 = .ok (.iand, 1) := by decide +kernel
theorem dJ6_bitCount_0f7a4_15 : decode cJ6_bitCount_0f7a4 15 = .ok (.iload_n 0, 1) := by decide +kernel
theorem dJ6_bitCount_0f7a4_16 : decode cJ6_bitCount_0f7a4 16 = .ok (.iconst 2, 1) := by decide +kernel
theorem dJ6_bitCount_0f7a4_17 : decode cJ6_bitCount_0f7a4 17 = .ok (.iushr, 1) := by decide +kernel
theorem dJ6_bitCount_0f7a4_18 : decode cJ6_bitCount_0f7a4 18 = .ok (.ldc_w 266, 3) := by decide +kernel
theorem dJ6_bitCount_0f7a4_21 : decode cJ6_bitCount_0f7a4 21 = .ok (.iand, 1) := by decide +kernel
theorem dJ6_bitCount_0f7a4_22 : decode cJ6_bitCount_0f7a4 22 = .ok (.iadd, 1) := by decide +kernel
theorem dJ6_bitCount_0f7a4_23 : decode cJ6_bitCount_0f7a4 23 = .ok (.istore_n 0, 1) := by decide +kernel
theorem dJ6_bitCount_0f7a4_24 : decode cJ6_bitCount_0f7a4 24 = .ok (.iload_n 0, 1) := by decide +kernel
theorem dJ6_bitCount_0f7a4_25 : decode cJ6_bitCount_0f7a4 25 = .ok (.iload_n 0, 1) := by decide +kernel
theorem dJ6_bitCount_0f7a4_26 : decode cJ6_bitCount_0f7a4 26 = .ok (.iconst 4, 1) := by decide +kernel
theorem dJ6_bitCount_0f7a4_27 : decode cJ6_bitCount_0f7a4 27 = .ok (.iushr, 1) := by decide +kernel
theorem dJ6_bitCount_0f7a4_28 : decode cJ6_bitCount_0f7a4 28 = .ok (.iadd, 1) := by decide +kernel
theorem dJ6_bitCount_0f7a4_29 : decode cJ6_bitCount_0f7a4 29 = .ok (.ldc_w 267, 3) := by decide +kernel
theorem dJ6_bitCount_0f7a4_32 : decode cJ6_bitCount_0f7a4 32 = .ok (.iand, 1) := by decide +kernel
theorem dJ6_bitCount_0f7a4_33 : decode cJ6_bitCount_0f7a4 33 = .ok (.istore_n 0, 1) := by decide +kernel
theorem dJ6_bitCount_0f7a4_34 : decode cJ6_bitCount_0f7a4 34 = .ok (.iload_n 0, 1) := by decide +kernel
theorem dJ6_bitCount_0f7a4_35 : decode cJ6_bitCount_0f7a4 35 = .ok (.iload_n 0, 1) := by decide +kernel
theorem dJ6_bitCount_0f7a4_36 : decode cJ6_bitCount_0f7a4 36 = .ok (.bipush 8, 2) := by decide +kernel
theorem dJ6_bitCount_0f7a4_38 : decode cJ6_bitCount_0f7a4 38 = .ok (.iushr, 1) := by decide +kernel
theorem dJ6_bitCount_0f7a4_39 : decode cJ6_bitCount_0f7a4 39 = .ok (.iadd, 1) := by decide +kernel
theorem dJ6_bitCount_0f7a4_40 : decode cJ6_bitCount_0f7a4 40 = .ok (.istore_n 0, 1) := by decide +kernel
theorem dJ6_bitCount_0f7a4_41 : decode cJ6_bitCount_0f7a4 41 = .ok (.iload_n 0, 1) := by decide +kernel
theorem dJ6_bitCount_0f7a4_42 : decode cJ6_bitCount_0f7a4 42 = .ok (.iload_n 0, 1) := by decide +kernel
theorem dJ6_bitCount_0f7a4_43 : decode cJ6_bitCount_0f7a4 43 = .ok (.bipush 16, 2) := by decide +kernel
theorem dJ6_bitCount_0f7a4_45 : decode cJ6_bitCount_0f7a4 45 = .ok (.iushr, 1) := by decide +kernel
theorem dJ6_bitCount_0f7a4_46 : decode cJ6_bitCount_0f7a4 46 = .ok (.iadd, 1) := by decide +kernel
theorem dJ6_bitCount_0f7a4_47 : decode cJ6_bitCount_0f7a4 47 = .ok (.istore_n 0, 1) := by decide +kernel
theorem dJ6_bitCount_0f7a4_48 : decode cJ6_bitCount_0f7a4 48 = .ok (.iload_n 0, 1) := by decide +kernel
theorem dJ6_bitCount_0f7a4_49 : decode cJ6_bitCount_0f7a4 49 = .ok (.bipush 63, 2) := by decide +kernel
theorem dJ6_bitCount_0f7a4_51 : decode cJ6_bitCount_0f7a4 51 = .ok (.iand, 1) := by decide +kernel
theorem dJ6_bitCount_0f7a4_52 : decode cJ6_bitCount_0f7a4 52 = .ok (.ireturn, 1) := by decide +kernel
theorem dJ9_max_7cf53_0 : decode cJ9_max_7cf53 0 = .ok (.iload_n 0, 1) := by decide +kernel
theorem dJ9_max_7cf53_1 : decode cJ9_max_7cf53 1 = .ok (.iload_n 1, 1) := by decide +kernel
theorem dJ9_max_7cf53_2 : decode cJ9_max_7cf53 2 = .ok (.if_icmp .lt 7, 3) := by decide +kernel
theorem dJ9_max_7cf53_5 : decode cJ9_max_7cf53 5 = .ok (.iload_n 0, 1) := by decide +kernel
theorem dJ9_max_7cf53_6 : decode cJ9_max_7cf53 6 = .ok (.goto 4, 3) := by decide +kernel
theorem dJ9_max_7cf53_9 : decode cJ9_max_7cf53 9 = .ok (.iload_n 1, 1) := by decide +kernel
theorem dJ9_max_7cf53_10 : decode cJ9_max_7cf53 10 = .ok (.ireturn, 1) := by decide +kernel
theorem dJ9_min_7cf53_0 : decode cJ9_min_7cf53 0 = .ok (.iload_n 0, 1) := by decide +kernel
theorem dJ9_min_7cf53_1 : decode cJ9_min_7cf53 1 = .ok (.iload_n 1, 1) := by decide +kernel
theorem dJ9_min_7cf53_2 : decode cJ9_min_7cf53 2 = .ok (.if_icmp .gt 7, 3) := by decide +kernel
theorem dJ9_min_7cf53_5 : decode cJ9_min_7cf53 5 = .ok (.iload_n 0, 1) := by decide +kernel
theorem dJ9_min_7cf53_6 : decode cJ9_min_7cf53 6 = .ok (.goto 4, 3) := by decide +kernel
theorem dJ9_min_7cf53_9 : decode cJ9_min_7cf53 9 = .ok (.iload_n 1, 1) := by decide +kernel
theorem dJ9_min_7cf53_10 : decode cJ9_min_7cf53 10 = .ok (.ireturn, 1) := by decide +kernel
end
section
/-! the words of every contract: the tables' rows that all methods share, the start, calls that change nothing -/
def pn_KB (D : va_G) (cI cL cZ cO : ClassId) (U : State) : Prop := va_K D vwCl [(cI, .int), (cL, .long), (cZ, .boolean), (cO, .object RX0)] U ∧ va_Nw (.methodLinkNest RX0 76 yX2_has RX2) U
def pn_Pr (D : va_G) (cI cL cZ cO : ClassId) (WS : va_W) (U : State) : Prop := va_P D vwCl WS U.heap ∧ pn_KB D cI cL cZ cO U
theorem pn_KB.warm {D : va_G} {cI cL cZ cO : ClassId} {s U : State} (h : pn_KB D cI cL cZ cO s) (hW : s.WarmedH U.vm) : pn_KB D cI cL cZ cO U := ⟨va_K.moved hW.alike h.1, h.2.warmM hW⟩
theorem pn_fb {D : va_G} {cI cL cZ cO : ClassId} {WS : va_W} {av : List Value} : FrameBlind (va_Pc av (pn_Pr D cI cL cZ cO WS)) := by
  rintro a U g mk ⟨h1, h2, h3, h4⟩
  exact ⟨h1, h2, va_K.moved (u := U) (U := U.calling g mk a) (Vm.Alike.refl U.vm) h3, va_Nw.same rfl rfl h4⟩
theorem pn_ps {D : va_G} {cI cL cZ cO : ClassId} {WS : va_W} {As : List Value} {s : State} {H : Heap} (hP : va_P D vwCl WS H) (hK : pn_KB D cI cL cZ cO s) : PreS s H (va_Pc As (pn_Pr D cI cL cZ cO WS)) As :=
  ⟨pn_fb, fun U hU hW => ⟨rfl, by rw [hU]; exact hP, hK.warm hW⟩⟩
theorem pn_pv {D : va_G} {cI cL cZ cO : ClassId} {WS : va_W} {As : List Value} {s : State} {H : Heap} {a q0 ci : Nat} {q : vw_C} {fs : List Value} (hP : va_P D vwCl WS H) (hK : pn_KB D cI cL cZ cO s) (he : WS[q0]? = some (a, .inr (ci, fs))) (hc : vwCl[ci]? = some q) : PreV s H q.1 a (va_Pc (.ref a :: As) (pn_Pr D cI cL cZ cO WS)) As :=
  ⟨pn_fb, va_recv hK.1 hP hc he, fun U hU hW => ⟨rfl, by rw [hU]; exact hP, hK.warm hW⟩⟩
/-- a contract out of the walk of the body -/
theorem pn_mk {l : Launch} {D : va_G} {cI cL cZ cO : ClassId} {WS : va_W} {y : MethodName} {ws ws' : List Cond} {rm : Room} {Qc : Array Value → State → Outcome → State → Prop} {A : Addr → Prop} {cc : ByteArray} {maxL : Nat} {ret : Option FieldType} {av : List Value}
    (hy : plainName y.cls = true) (hw : ws = Cond.code y cc maxL ret :: ws') (hlen : (lg_sl av).length ≤ maxL)
    (body : ∀ (p : Program) (e : Env) (s : State) (m : MethodId) (below : List Frame) (meth : Method) (c : Code) (ls : Array Slot), p.tables.exec = Jvm.exec → c.code = cc → meth.sig.returnType = ret → c.maxLocals = maxL → s.vm.findClass y.cls = some m.cls → (∀ w ∈ ws, w.before av.toArray s = true) → meth.locks = false → pn_KB D cI cL cZ cO s → va_P D vwCl WS s.heap → lv_has ls maxL (lv_args 0 av) →
      W p l e rm s m av.toArray below meth c s.heap [] 0 0 (MQ below Qc av.toArray s 0 0 A) (F0 m 0 ls [])) : Met l y ws rm (va_Pc av (pn_Pr D cI cL cZ cO WS)) Qc 0 0 A := by
  refine Met.ofW (cc := cc) (maxL := maxL) (ret := ret) hy hw ?_
  intro p e s m args below meth c s₁ B hml hv
  obtain ⟨rfl, hP, hK⟩ := hv
  have hl := lv_entry av (n := maxL) hlen
  rw [lg_entry_eq]
  exact body p e s m below meth c _ B.exec B.bytes B.returns hml (findClass_of_methodNamed B.named) (atoms_spec (ws := ws) B.pre) B.notSynchronized hK hP hl
def pn_No : Nat → Prop := fun _ => False
theorem pn_kept {D : va_G} {cl : List vw_C} {ws : va_W} {H H1 : Heap} (h : va_P D cl ws H) (hk : ∀ q : Nat, q < H.size → H1[q]? = H[q]?) : va_P D cl ws H1 := fun k q hq => (h k q hq).kept (hk q.1 (h k q hq).lt)
section PNC
variable {p : Program} {l : Launch} {e : Env} {R : Room} {s : State} {m : MethodId} {args : Array Value} {below : List Frame} {meth : Method} {c : Code} {H : Heap} {locs : List Loc} {cells slots : Nat} {Q : State → Prop}
variable {pc : Nat} {ls : Array Slot} {rest st0 : List Value} {a : Array Value} {A0 : Nat → Prop} {H0 : Heap} {D : va_G} {w : va_W}
/-- a call that changes nothing and answers an int -/
theorem pn_roi {f : Int32} (hP : va_P D vwCl w H) (hS : va_S A0 H0 H locs) (hr : va_Run p l e R s m args below meth c H locs cells slots 0 0 (F0 m pc ls st0) rest (va_Qi (fun r (_ : Unit) => r = f) (fun _ _ => True) pn_No a) pn_No)
    (kk : ∀ (H1 : Heap) (locs1 : List Loc), va_P D vwCl w H1 → va_S A0 H0 H1 locs1 → W p l e R s m args below meth c H1 locs1 cells slots Q (F0 m (pc + 3) ls (.int f :: rest))) : W p l e R s m args below meth c H locs cells slots Q (F0 m pc ls st0) := by
  refine va_calli hr hS (fun q _ h => h.elim) (fun q h => h.elim) (fun r u t H1 locs1 ht hvm hp hB hz hk hS1 => ?_)
  subst hp
  exact kk H1 locs1 (pn_kept hP (fun q h => hk q h id)) hS1
theorem pn_rol {f : Int64} (hP : va_P D vwCl w H) (hS : va_S A0 H0 H locs) (hr : va_Run p l e R s m args below meth c H locs cells slots 0 0 (F0 m pc ls st0) rest (va_Ql (fun r (_ : Unit) => r = f) (fun _ _ => True) pn_No a) pn_No)
    (kk : ∀ (H1 : Heap) (locs1 : List Loc), va_P D vwCl w H1 → va_S A0 H0 H1 locs1 → W p l e R s m args below meth c H1 locs1 cells slots Q (F0 m (pc + 3) ls (.long f :: rest))) : W p l e R s m args below meth c H locs cells slots Q (F0 m pc ls st0) := by
  refine va_calll hr hS (fun q _ h => h.elim) (fun q h => h.elim) (fun r u t H1 locs1 ht hvm hp hB hz hk hS1 => ?_)
  subst hp
  exact kk H1 locs1 (pn_kept hP (fun q h => hk q h id)) hS1
/-- a call that changes cells of one world; the world behind it stands in its end -/
theorem pn_wri {S : Type} {post : Int32 → S → Prop} {w1 : S → va_W} {A1 : Nat → Prop} (hS : va_S A0 H0 H locs) (hA : ∀ q, A1 q → A0 q) (hr : va_Run p l e R s m args below meth c H locs cells slots 0 0 (F0 m pc ls st0) rest (va_Qi post (fun u t => va_P D vwCl (w1 u) t.heap) A1 a) A1)
    (kk : ∀ (r : Int32) (u : S) (H1 : Heap) (locs1 : List Loc), post r u → va_P D vwCl (w1 u) H1 → (∀ q : Nat, q < H.size → ¬ A1 q → H1[q]? = H[q]?) → va_S A0 H0 H1 locs1 → W p l e R s m args below meth c H1 locs1 cells slots Q (F0 m (pc + 3) ls (.int r :: rest))) : W p l e R s m args below meth c H locs cells slots Q (F0 m pc ls st0) := by
  refine va_calli hr hS (fun q _ h => hA q h) hA (fun r u t H1 locs1 ht hvm hp hB hz hk hS1 => ?_)
  rw [ht] at hB
  exact kk r u H1 locs1 hp hB hk hS1
theorem pn_wrl {S : Type} {post : Int64 → S → Prop} {w1 : S → va_W} {A1 : Nat → Prop} (hS : va_S A0 H0 H locs) (hA : ∀ q, A1 q → A0 q) (hr : va_Run p l e R s m args below meth c H locs cells slots 0 0 (F0 m pc ls st0) rest (va_Ql post (fun u t => va_P D vwCl (w1 u) t.heap) A1 a) A1)
    (kk : ∀ (r : Int64) (u : S) (H1 : Heap) (locs1 : List Loc), post r u → va_P D vwCl (w1 u) H1 → (∀ q : Nat, q < H.size → ¬ A1 q → H1[q]? = H[q]?) → va_S A0 H0 H1 locs1 → W p l e R s m args below meth c H1 locs1 cells slots Q (F0 m (pc + 3) ls (.long r :: rest))) : W p l e R s m args below meth c H locs cells slots Q (F0 m pc ls st0) := by
  refine va_calll hr hS (fun q _ h => hA q h) hA (fun r u t H1 locs1 ht hvm hp hB hz hk hS1 => ?_)
  rw [ht] at hB
  exact kk r u H1 locs1 hp hB hk hS1
theorem pn_wrv {S : Type} {post : S → Prop} {w1 : S → va_W} {A1 : Nat → Prop} (hS : va_S A0 H0 H locs) (hA : ∀ q, A1 q → A0 q) (hr : va_Run p l e R s m args below meth c H locs cells slots 0 0 (F0 m pc ls st0) rest (va_Qv post (fun u t => va_P D vwCl (w1 u) t.heap) A1 a) A1)
    (kk : ∀ (u : S) (H1 : Heap) (locs1 : List Loc), post u → va_P D vwCl (w1 u) H1 → (∀ q : Nat, q < H.size → ¬ A1 q → H1[q]? = H[q]?) → va_S A0 H0 H1 locs1 → W p l e R s m args below meth c H1 locs1 cells slots Q (F0 m (pc + 3) ls rest)) : W p l e R s m args below meth c H locs cells slots Q (F0 m pc ls st0) := by
  refine va_callv hr hS (fun q _ h => hA q h) hA (fun u t H1 locs1 ht hvm hp hB hz hk hS1 => ?_)
  rw [ht] at hB
  exact kk u H1 locs1 hp hB hk hS1
end PNC
/-- the addresses of a world are apart -/
def pn_ad (ws : va_W) : List Nat := ws.map (fun q => q.1)
def pn_In (L : List Nat) : Nat → Prop := fun q => q ∈ L
theorem pn_D {L : List Nat} {ws : va_W} (h : L.Nodup) (e : pn_ad ws = L) : va_D (pn_In L) ws := by
  subst e
  refine ⟨fun i j p q hp hq hpq => ?_, fun k q hk => List.mem_map.mpr ⟨q, List.mem_of_getElem? hk, rfl⟩⟩
  have h1 : (pn_ad ws)[i]? = some p.1 := by unfold pn_ad; rw [List.getElem?_map, hp]; rfl
  have h2 : (pn_ad ws)[j]? = some q.1 := by unfold pn_ad; rw [List.getElem?_map, hq]; rfl
  have hi : i < (pn_ad ws).length := (List.getElem?_eq_some_iff.mp h1).1
  exact (List.getElem?_inj hi h).mp (by rw [h1, h2, hpq])
/-- what the callee's cells are not stays, and stands beside the callee's world -/
theorem pn_join {D : va_G} {cl : List vw_C} {ws wr w1 : va_W} {A0 A1 : Nat → Prop} {H H1 : Heap} (hP : va_P D cl ws H) (hD : va_D A0 ws) (isC isR : List Nat) (hA : ∀ q, A1 q → ∃ i ∈ isC, ∃ e, ws[i]? = some (q, e)) (hR : isR.map (fun i => ws[i]?) = wr.map some) (hdis : ∀ i ∈ isR, i ∉ isC)
    (hk : ∀ q : Nat, q < H.size → ¬ A1 q → H1[q]? = H[q]?) (hP1 : va_P D cl w1 H1) : va_P D cl (wr ++ w1) H1 := by
  refine va_P.app (fun k q hq => ?_) hP1
  have h1 : (isR.map (fun i => ws[i]?))[k]? = some (some q) := by rw [hR, List.getElem?_map, hq]; rfl
  rw [List.getElem?_map] at h1
  cases hi : isR[k]? with
  | none => rw [hi] at h1; cases h1
  | some i =>
    rw [hi] at h1
    have h2 : ws[i]? = some q := Option.some.inj h1
    refine (hP i q h2).kept (hk q.1 (hP i q h2).lt (fun ha => ?_))
    obtain ⟨j, hj, e, he⟩ := hA q.1 ha
    have := hD.1 i j q (q.1, e) h2 he rfl
    subst this
    exact hdis i (List.mem_of_getElem? hi) hj
theorem pn_inA {ws wc : va_W} {L : List Nat} (isC : List Nat) (hC : isC.map (fun i => ws[i]?) = wc.map some) (hL : pn_ad wc = L) : ∀ q, pn_In L q → ∃ i ∈ isC, ∃ e, ws[i]? = some (q, e) := by
  intro q hq
  subst hL
  obtain ⟨x, hx, rfl⟩ := List.mem_map.mp hq
  have h1 : some x ∈ isC.map (fun i => ws[i]?) := by rw [hC]; exact List.mem_map.mpr ⟨x, hx, rfl⟩
  obtain ⟨i, hi, e⟩ := List.mem_map.mp h1
  exact ⟨i, hi, x.2, e⟩
/-- an array's numbers may be told otherwise, where they are the same in its range -/
theorem pn_cgI {D : va_G} {cl : List vw_C} {ws : va_W} {H : Heap} {q a n : Nat} {cA : ClassId} {f g : Nat → Int32} (hP : va_P D cl ws H) (he : ws[q]? = some (a, .inl (cA, n, .inl f))) (h : ∀ i, i < n → f i = g i) : va_P D cl (ws.set q (a, .inl (cA, n, .inl g))) H := by
  intro k x hx
  by_cases hk : k = q
  · subst hk
    have hlt : k < ws.length := (List.getElem?_eq_some_iff.mp he).1
    rw [List.getElem?_set_self hlt] at hx
    cases hx
    have h0 := hP k _ he
    show H[a]? = some (vp_cell _ _)
    have h0 : H[a]? = some (vp_cell cA (n, .inl f)) := h0
    rw [h0]
    congr 1
    show vp_cell cA (n, .inl f) = vp_cell cA (n, .inl g)
    rw [vp_cell_i, vp_cell_i]
    unfold arrV
    congr 1
    apply Array.ext
    · simp
    · intro i h1 h2
      simp at h1
      simp [h i h1]
  · rw [List.getElem?_set_ne (fun h => hk h.symm)] at hx
    exact hP k x hx
section PNI
variable {p : Program} {l : Launch} {e : Env} {R : Room} {s : State} {m : MethodId} {args : Array Value} {below : List Frame} {meth : Method} {c : Code} {H : Heap} {locs : List Loc} {cells slots : Nat} {Q : State → Prop}
variable {cc : ByteArray} {pc : Nat} {ls : Array Slot} {rest : List Value} {D : va_G} {cl : List vw_C} {A : Nat → Prop} {a : Nat} {tys : List (ClassId × FieldType)} {ws : va_W} {H0 : Heap}
theorem pn_iald (hexec : p.tables.exec = Jvm.exec) (hb : c.code = cc) (hK : va_K D cl tys s) (hP : va_P D cl ws H) (q0 t0 : Nat) {cA : ClassId} {n : Nat} {f : Nat → Int32} (ha : ws[q0]? = some (a, .inl (cA, n, .inl f))) (ht : tys[t0]? = some (cA, .int)) {i : Nat} (hin : i < n) (hn : n < 2 ^ 31) (hdg : decode cc pc = .ok (.iaload, 1))
    (kk : W p l e R s m args below meth c H locs cells slots Q (F0 m (pc + 1) ls (.int (f i) :: rest))) : W p l e R s m args below meth c H locs cells slots Q (F0 m pc ls (.int (nI i) :: .ref a :: rest)) := by
  refine va_iald hexec hb hK hP q0 t0 ha ht (vp_in_nI hin hn) hdg ?_
  rw [nI_clamp (Nat.lt_trans hin hn)]; exact kk
theorem pn_zald (hexec : p.tables.exec = Jvm.exec) (hb : c.code = cc) (hK : va_K D cl tys s) (hP : va_P D cl ws H) (q0 t0 : Nat) {cA : ClassId} {n : Nat} {f : Nat → Int32} (ha : ws[q0]? = some (a, .inl (cA, n, .inl f))) (ht : tys[t0]? = some (cA, .boolean)) {i : Nat} (hin : i < n) (hn : n < 2 ^ 31) (hdg : decode cc pc = .ok (.baload, 1))
    (kk : W p l e R s m args below meth c H locs cells slots Q (F0 m (pc + 1) ls (.int (f i) :: rest))) : W p l e R s m args below meth c H locs cells slots Q (F0 m pc ls (.int (nI i) :: .ref a :: rest)) := by
  refine va_zald hexec hb hK hP q0 t0 ha ht (vp_in_nI hin hn) hdg ?_
  rw [nI_clamp (Nat.lt_trans hin hn)]; exact kk
theorem pn_lald (hexec : p.tables.exec = Jvm.exec) (hb : c.code = cc) (hK : va_K D cl tys s) (hP : va_P D cl ws H) (q0 t0 : Nat) {cA : ClassId} {n : Nat} {f : Nat → Int64} (ha : ws[q0]? = some (a, .inl (cA, n, .inr (.inl f)))) (ht : tys[t0]? = some (cA, .long)) {i : Nat} (hin : i < n) (hn : n < 2 ^ 31) (hdg : decode cc pc = .ok (.laload, 1))
    (kk : W p l e R s m args below meth c H locs cells slots Q (F0 m (pc + 1) ls (.long (f i) :: rest))) : W p l e R s m args below meth c H locs cells slots Q (F0 m pc ls (.int (nI i) :: .ref a :: rest)) := by
  refine va_lald hexec hb hK hP q0 t0 ha ht (vp_in_nI hin hn) hdg ?_
  rw [nI_clamp (Nat.lt_trans hin hn)]; exact kk
theorem pn_iast (hexec : p.tables.exec = Jvm.exec) (hb : c.code = cc) (hK : va_K D cl tys s) (hP : va_P D cl ws H) (hD : va_D A ws) (hS : va_S A H0 H locs) (q0 t0 : Nat) {cA : ClassId} {n : Nat} {f : Nat → Int32} (ha : ws[q0]? = some (a, .inl (cA, n, .inl f))) (ht : tys[t0]? = some (cA, .int)) {i : Nat} {x : Int32} (hin : i < n) (hn : n < 2 ^ 31) (hdg : decode cc pc = .ok (.iastore, 1))
    (kk : ∀ (H1 : Heap) (locs1 : List Loc), va_P D cl (ws.set q0 (a, .inl (cA, n, .inl (upd f i x)))) H1 → va_S A H0 H1 locs1 → W p l e R s m args below meth c H1 locs1 cells slots Q (F0 m (pc + 1) ls rest)) : W p l e R s m args below meth c H locs cells slots Q (F0 m pc ls (.int x :: .int (nI i) :: .ref a :: rest)) := by
  refine va_iast hexec hb hK hP hD hS q0 t0 ha ht (vp_in_nI hin hn) hdg (fun H1 locs1 h1 _ h3 => ?_)
  rw [nI_clamp (Nat.lt_trans hin hn)] at h1; exact kk H1 locs1 h1 h3
theorem pn_last (hexec : p.tables.exec = Jvm.exec) (hb : c.code = cc) (hK : va_K D cl tys s) (hP : va_P D cl ws H) (hD : va_D A ws) (hS : va_S A H0 H locs) (q0 t0 : Nat) {cA : ClassId} {n : Nat} {f : Nat → Int64} (ha : ws[q0]? = some (a, .inl (cA, n, .inr (.inl f)))) (ht : tys[t0]? = some (cA, .long)) {i : Nat} {x : Int64} (hin : i < n) (hn : n < 2 ^ 31) (hdg : decode cc pc = .ok (.lastore, 1))
    (kk : ∀ (H1 : Heap) (locs1 : List Loc), va_P D cl (ws.set q0 (a, .inl (cA, n, .inr (.inl (vp_updL f i x))))) H1 → va_S A H0 H1 locs1 → W p l e R s m args below meth c H1 locs1 cells slots Q (F0 m (pc + 1) ls rest)) : W p l e R s m args below meth c H locs cells slots Q (F0 m pc ls (.long x :: .int (nI i) :: .ref a :: rest)) := by
  refine va_last hexec hb hK hP hD hS q0 t0 ha ht (vp_in_nI hin hn) hdg (fun H1 locs1 h1 _ h3 => ?_)
  rw [nI_clamp (Nat.lt_trans hin hn)] at h1; exact kk H1 locs1 h1 h3
theorem pn_iadd (hexec : p.tables.exec = Jvm.exec) (hb : c.code = cc) {x y : Nat} (hdg : decode cc pc = .ok (.iadd, 1)) (k : W p l e R s m args below meth c H locs cells slots Q (F0 m (pc + 1) ls (.int (nI (x + y)) :: rest))) : W p l e R s m args below meth c H locs cells slots Q (F0 m pc ls (.int (nI y) :: .int (nI x) :: rest)) :=
  lv_iadd hexec hb hdg (by rw [nI_add]; exact k)
theorem pn_isub (hexec : p.tables.exec = Jvm.exec) (hb : c.code = cc) {x y : Nat} (hxy : y ≤ x) (hdg : decode cc pc = .ok (.isub, 1)) (k : W p l e R s m args below meth c H locs cells slots Q (F0 m (pc + 1) ls (.int (nI (x - y)) :: rest))) : W p l e R s m args below meth c H locs cells slots Q (F0 m pc ls (.int (nI y) :: .int (nI x) :: rest)) :=
  lv_isub hexec hb hdg (by rw [pk_sub hxy]; exact k)
theorem pn_imul (hexec : p.tables.exec = Jvm.exec) (hb : c.code = cc) {x y : Nat} (hdg : decode cc pc = .ok (.imul, 1)) (k : W p l e R s m args below meth c H locs cells slots Q (F0 m (pc + 1) ls (.int (nI (x * y)) :: rest))) : W p l e R s m args below meth c H locs cells slots Q (F0 m pc ls (.int (nI y) :: .int (nI x) :: rest)) :=
  lv_imul hexec hb hdg (by rw [pk_mul]; exact k)
theorem pn_top {x y : Int32} (h : x = y) (k : W p l e R s m args below meth c H locs cells slots Q (F0 m pc ls (.int y :: rest))) : W p l e R s m args below meth c H locs cells slots Q (F0 m pc ls (.int x :: rest)) := by rw [h]; exact k
theorem pn_topL {x y : Int64} (h : x = y) (k : W p l e R s m args below meth c H locs cells slots Q (F0 m pc ls (.long y :: rest))) : W p l e R s m args below meth c H locs cells slots Q (F0 m pc ls (.long x :: rest)) := by rw [h]; exact k
end PNI
theorem pn_le {a b : Nat} (ha : a < 2 ^ 31) (hb : b < 2 ^ 31) : nI a ≤ nI b ↔ a ≤ b := nI_leI ha hb
theorem pn_lt {a b : Nat} (ha : a < 2 ^ 31) (hb : b < 2 ^ 31) : nI a < nI b ↔ a < b := nI_ltI ha hb
theorem pn_eq {a b : Nat} (ha : a < 2 ^ 31) (hb : b < 2 ^ 31) : nI a = nI b ↔ a = b := nI_eq ha hb
end
section
/-! numbers of the walks: truth values, switches, counting while -/
noncomputable def pn_b (P : Prop) : Int32 := @ite Int32 P (Classical.propDecidable P) (nI 1) (nI 0)
theorem pn_b0 {P : Prop} : pn_b P = 0 ↔ ¬ P := by
  unfold pn_b
  by_cases h : P
  · rw [if_pos h]; exact ⟨fun q => absurd q (by decide), fun q => absurd h q⟩
  · rw [if_neg h]; exact ⟨fun _ => h, fun _ => rfl⟩
theorem pn_b1 {P : Prop} : ¬ pn_b P = 0 ↔ P := by rw [pn_b0]; exact Classical.not_not
theorem pn_bt {P : Prop} (h : P) : nI 1 = pn_b P := by unfold pn_b; rw [if_pos h]
theorem pn_bf {P : Prop} (h : ¬ P) : nI 0 = pn_b P := by unfold pn_b; rw [if_neg h]
theorem pn_nz {P : Prop} : narrow .boolean (.int (pn_b P)) = .int (pn_b P) := by
  unfold pn_b
  by_cases h : P
  · rw [if_pos h]; decide
  · rw [if_neg h]; decide
theorem pn_cmp0 {x y : Int64} : lg_cmp x y = 0 ↔ x = y := by
  unfold lg_cmp
  by_cases h1 : y < x
  · rw [if_pos h1]
    refine ⟨fun h => absurd h (by decide), fun h => ?_⟩
    subst h
    exact absurd h1 (Int64.lt_irrefl)
  · rw [if_neg h1]
    by_cases h2 : x = y
    · rw [if_pos h2]; exact ⟨fun _ => h2, fun _ => rfl⟩
    · rw [if_neg h2]; exact ⟨fun h => absurd h (by decide), fun h => absurd h h2⟩
theorem pn_sw (x : Int32) {lo hi : Nat} : (x.toInt < (lo : Int) ∨ (hi : Int) < x.toInt) ∨ ∃ k : Nat, (lo ≤ k ∧ k ≤ hi) ∧ x.toInt = (k : Int) := by
  by_cases h1 : x.toInt < (lo : Int)
  · exact Or.inl (Or.inl h1)
  · by_cases h2 : (hi : Int) < x.toInt
    · exact Or.inl (Or.inr h2)
    · exact Or.inr ⟨x.toInt.toNat, ⟨by omega, by omega⟩, by omega⟩
theorem pn_swe {x : Int32} {k : Nat} (h : x.toInt = (k : Int)) (hk : k < 2 ^ 31) : x = nI k := Int32.toInt_inj.mp (by rw [h, nI_toInt hk])
theorem pn_toI {k : Nat} (hk : k < 2 ^ 31) : (nI k).toInt = (k : Int) := nI_toInt hk
theorem pn_nd {L : List Nat} (h : L.Nodup) (is : List Nat) {L' : List Nat} (e : is.filterMap (fun i => L[i]?) = L') (hd : is.Nodup := by decide) : L'.Nodup := by
  subst e
  rw [List.nodup_iff_pairwise_ne] at *
  refine List.Pairwise.filterMap _ (fun a b hab x hx y hy hxy => ?_) hd
  subst hxy
  have hi : a < L.length := (List.getElem?_eq_some_iff.mp hx).1
  have hn : L.Nodup := h
  exact hab ((List.getElem?_inj hi hn).mp (by rw [hx, hy]))
theorem pn_sA {L L' : List Nat} (is : List Nat) (e : is.filterMap (fun i => L[i]?) = L') : ∀ q, pn_In L' q → pn_In L q := by
  subst e
  intro q hq
  obtain ⟨i, -, hi⟩ := List.mem_filterMap.mp hq
  exact List.mem_of_getElem? hi
/-- how far from 0 on something holds, below n -/
def pn_cw (P : Nat → Bool) : Nat → Nat
  | 0 => 0
  | n + 1 => if pn_cw P n = n ∧ P n = true then n + 1 else pn_cw P n
theorem pn_cw_le (P : Nat → Bool) (n : Nat) : pn_cw P n ≤ n := by
  induction n with
  | zero => exact Nat.le_refl _
  | succ n ih =>
    unfold pn_cw
    split
    · exact Nat.le_refl _
    · omega
theorem pn_cw_lt (P : Nat → Bool) (n : Nat) : ∀ i, i < pn_cw P n → P i = true := by
  induction n with
  | zero => intro i h; exact absurd h (Nat.not_lt_zero _)
  | succ n ih =>
    intro i h
    unfold pn_cw at h
    split at h
    · rename_i q
      by_cases hi : i = n
      · subst hi; exact q.2
      · exact ih i (by rw [q.1]; omega)
    · exact ih i h
theorem pn_cw_no (P : Nat → Bool) (n : Nat) (h : pn_cw P n < n) : ¬ P (pn_cw P n) = true := by
  induction n with
  | zero => exact absurd h (Nat.not_lt_zero _)
  | succ n ih =>
    have hle := pn_cw_le P n
    unfold pn_cw at h ⊢
    split
    · rename_i q; rw [if_pos q] at h; exact absurd h (Nat.lt_irrefl _)
    · rename_i q
      rw [if_neg q] at h
      by_cases hn : pn_cw P n = n
      · rw [hn]; exact fun hp => q ⟨hn, hp⟩
      · exact ih (by omega)
theorem pn_cw_eq {P : Nat → Bool} {n k : Nat} (h1 : ∀ i, i < k → P i = true) (hk : k ≤ n) (h2 : k = n ∨ ¬ P k = true) : pn_cw P n = k := by
  have a := pn_cw_le P n
  have b := pn_cw_lt P n
  have c := pn_cw_no P n
  by_cases h : pn_cw P n < k
  · exact absurd (h1 _ h) (c (by omega))
  · by_cases h3 : k < pn_cw P n
    · rcases h2 with h2 | h2
      · omega
      · exact absurd (b k h3) h2
    · omega
/-! names as numbers -/
def pn_let (nm : Int64) (k : Nat) : Int32 := ((nm.toUInt64 >>> ((nI (8 * k)).toInt64.toUInt64 &&& Int64.toUInt64 63)).toInt64.toInt32 &&& nI 255)
def pn_wl (nm : Int64) (k : Nat) (x : Int32) : Int64 := (nm ||| (x.toInt64 <<< ((nI (8 * k)).toInt64 &&& 63)))
def pn_len (nm : Int64) : Nat := pn_cw (fun i => decide (¬ pn_let nm i = 0)) 8
theorem pn_len8 (nm : Int64) : pn_len nm ≤ 8 := pn_cw_le _ _
def pn_cls (x : Int32) : Int32 :=
  if x = nI 98 ∨ x = nI 102 ∨ x = nI 112 ∨ x = nI 118 then nI 1
  else if x = nI 99 ∨ x = nI 103 ∨ x = nI 106 ∨ x = nI 107 ∨ x = nI 113 ∨ x = nI 115 ∨ x = nI 120 ∨ x = nI 122 then nI 2
  else if x = nI 100 ∨ x = nI 116 then nI 3
  else if x = nI 108 then nI 4
  else if x = nI 109 ∨ x = nI 110 then nI 5
  else if x = nI 114 then nI 6
  else nI 0
theorem pn_cls_out {x : Int32} (h : x.toInt < ((98 : Nat) : Int) ∨ ((122 : Nat) : Int) < x.toInt) : nI 0 = pn_cls x := by
  have ne : ∀ k : Nat, 98 ≤ k → k ≤ 122 → ¬ x = nI k := by
    intro k h1 h2 e
    rw [e, nI_toInt (by omega)] at h
    omega
  unfold pn_cls
  simp [ne 98, ne 99, ne 100, ne 102, ne 103, ne 106, ne 107, ne 108, ne 109, ne 110, ne 112, ne 113, ne 114, ne 115, ne 116, ne 118, ne 120, ne 122]
def pn_cs (h : Int32) (k : Nat) : Int32 := (((h.toUInt32 >>> ((nI (4 * k)).toUInt32 &&& Int32.toUInt32 31)).toInt32 &&& nI 15) - nI 1)
def pn_lsd (h : Int32) : Nat := pn_cw (fun i => decide (¬ pn_cs h i < 0)) 4
theorem pn_lsd4 (h : Int32) : pn_lsd h ≤ 4 := pn_cw_le _ _
/-- what is heard, and how many classes, behind letter j -/
def pn_sd (nm : Int64) : Nat → Int32 × Nat
  | 0 => (pn_cls (pn_let nm 0) + nI 1, 1)
  | j + 1 => if (pn_sd nm j).2 < 4 ∧ ¬ pn_cls (pn_let nm (j + 1)) = 0 ∧ ¬ pn_cls (pn_let nm (j + 1)) = pn_cls (pn_let nm j)
      then ((pn_sd nm j).1 ||| ((pn_cls (pn_let nm (j + 1)) + nI 1) <<< (nI (4 * (pn_sd nm j).2) &&& 31)), (pn_sd nm j).2 + 1)
      else pn_sd nm j
def pn_snd (nm : Int64) : Int32 := (pn_sd nm (pn_len nm - 1)).1
theorem pn_sd4 (nm : Int64) (j : Nat) : 1 ≤ (pn_sd nm j).2 ∧ (pn_sd nm j).2 ≤ 4 := by
  induction j with
  | zero => exact ⟨Nat.le_refl 1, by show 1 ≤ 4; omega⟩
  | succ j ih =>
    unfold pn_sd
    split
    · rename_i h; exact ⟨by show 1 ≤ _ + 1; omega, by show _ + 1 ≤ 4; omega⟩
    · exact ih
theorem pn_sd_s (nm : Int64) (j : Nat) : pn_sd nm (j + 1) = if (pn_sd nm j).2 < 4 ∧ ¬ pn_cls (pn_let nm (j + 1)) = 0 ∧ ¬ pn_cls (pn_let nm (j + 1)) = pn_cls (pn_let nm j)
      then ((pn_sd nm j).1 ||| ((pn_cls (pn_let nm (j + 1)) + nI 1) <<< (nI (4 * (pn_sd nm j).2) &&& 31)), (pn_sd nm j).2 + 1)
      else pn_sd nm j := rfl
theorem pn_sd_stop (nm : Int64) {j : Nat} (h : 4 ≤ (pn_sd nm j).2) : ∀ d, pn_sd nm (j + d) = pn_sd nm j := by
  intro d
  induction d with
  | zero => rfl
  | succ d ih =>
    show pn_sd nm ((j + d) + 1) = _
    rw [pn_sd_s, if_neg (by rw [ih]; omega)]
    exact ih
/-- how many letters must change -/
def pn_lev (a b : Nat → Int32) : Nat → Nat → Nat
  | 0, j => j
  | i + 1, 0 => i + 1
  | i + 1, j + 1 => min (if a i = b j then pn_lev a b i j else pn_lev a b i j + 1) (min (pn_lev a b i (j + 1)) (pn_lev a b (i + 1) j) + 1)
theorem pn_lev_le (a b : Nat → Int32) : ∀ i j, pn_lev a b i j ≤ i + j := by
  intro i
  induction i with
  | zero => intro j; unfold pn_lev; omega
  | succ i ih =>
    intro j
    cases j with
    | zero => unfold pn_lev; omega
    | succ j =>
      have h1 := ih j
      unfold pn_lev
      split <;> omega
theorem pn_lev_i0 (a b : Nat → Int32) (i : Nat) : pn_lev a b i 0 = i := by
  cases i <;> rw [pn_lev]
theorem pn_lev_0j (a b : Nat → Int32) (j : Nat) : pn_lev a b 0 j = j := by
  cases j <;> rw [pn_lev]
theorem pn_lev_ss (a b : Nat → Int32) (i j : Nat) : pn_lev a b (i + 1) (j + 1) = min (if a i = b j then pn_lev a b i j else pn_lev a b i j + 1) (min (pn_lev a b i (j + 1)) (pn_lev a b (i + 1) j) + 1) := by rw [pn_lev]
theorem pn_lev_sym (a b : Nat → Int32) : ∀ i j, pn_lev a b i j = pn_lev b a j i := by
  intro i
  induction i with
  | zero => intro j; rw [pn_lev_i0, pn_lev_0j]
  | succ i ih =>
    intro j
    induction j with
    | zero => rw [pn_lev_i0, pn_lev_0j]
    | succ j ihj =>
      rw [pn_lev_ss a b, pn_lev_ss b a, ih j, ih (j + 1), ihj]
      by_cases h : a i = b j
      · rw [if_pos h, if_pos h.symm, Nat.min_comm (pn_lev b a (j + 1) i)]
      · rw [if_neg h, if_neg (fun q => h q.symm), Nat.min_comm (pn_lev b a (j + 1) i)]
/-- HOW a name is like another one -/
def pn_like (x y : Int64) (how : Int32) : Prop := (how = 0 ∧ x = y) ∨ (how = nI 1 ∧ pn_snd x = pn_snd y) ∨ (¬ how = 0 ∧ ¬ how = nI 1 ∧ pn_lev (pn_let x) (pn_let y) (pn_len x) (pn_len y) ≤ 1)
end
section
set_option maxHeartbeats 4000000 in
set_option maxRecDepth 100000 in
theorem c_X1_letterOf (l : Launch) (D : va_G) (cI cL cZ cO : ClassId)  (nm : Int64) (k : Nat) : Met l yX1_letterOf wsX1_letterOf ({ frames := 0, cells := 0, slots := 0, locals := 0 }) (va_Pc [.long nm, .int (nI k)] (pn_Pr D cI cL cZ cO [])) (va_Qi (fun r (_ : Unit) => r = (pn_let nm k)) (fun _ _ => True) pn_No) 0 0 pn_No := by
  refine pn_mk (by decide) rfl (Nat.le_of_ble_eq_true rfl) ?_
  intro p e s m below meth c ls hx hb hr hml hown hts hlocks hK hP hl
  have hown : s.vm.findClass RX1 = some m.cls := hown
  have hS : va_S pn_No s.heap s.heap [] := va_S.rf
  have hl : lv_has ls 3 [(0, .long nm), (2, .int (nI k))] := hl
  refine lv_lload_n hx hb dX1_letterOf_0 rfl (lv_at hl 0 rfl) ?_
  refine lv_bipush (v := (nI 8)) hx hb dX1_letterOf_1 (by decide) ?_
  refine lv_iload_n hx hb dX1_letterOf_3 rfl (lv_at hl 1 rfl) ?_
  refine pn_imul hx hb dX1_letterOf_4 ?_
  refine lv_lushr hx hb dX1_letterOf_5 rfl ?_
  refine lv_l2i hx hb dX1_letterOf_6 rfl ?_
  refine lv_sipush (v := (nI 255)) hx hb dX1_letterOf_7 (by decide) ?_
  refine lv_iand hx hb dX1_letterOf_10 ?_
  exact W.iret hx hb hr (fun t ht hW => ⟨⟨_, (), rfl, rfl, trivial⟩, hS.F ht⟩) hS.2.2 dX1_letterOf_11 hlocks

set_option maxHeartbeats 4000000 in
set_option maxRecDepth 100000 in
theorem c_X1_withLetter (l : Launch) (D : va_G) (cI cL cZ cO : ClassId)  (nm : Int64) (k : Nat) (x : Int32) : Met l yX1_withLetter wsX1_withLetter ({ frames := 0, cells := 0, slots := 0, locals := 0 }) (va_Pc [.long nm, .int (nI k), .int x] (pn_Pr D cI cL cZ cO [])) (va_Ql (fun r (_ : Unit) => r = (pn_wl nm k x)) (fun _ _ => True) pn_No) 0 0 pn_No := by
  refine pn_mk (by decide) rfl (Nat.le_of_ble_eq_true rfl) ?_
  intro p e s m below meth c ls hx hb hr hml hown hts hlocks hK hP hl
  have hown : s.vm.findClass RX1 = some m.cls := hown
  have hS : va_S pn_No s.heap s.heap [] := va_S.rf
  have hl : lv_has ls 4 [(0, .long nm), (2, .int (nI k)), (3, .int x)] := hl
  refine lv_lload_n hx hb dX1_withLetter_0 rfl (lv_at hl 0 rfl) ?_
  refine lv_iload_n hx hb dX1_withLetter_1 rfl (lv_at hl 2 rfl) ?_
  refine lv_i2l hx hb dX1_withLetter_2 rfl ?_
  refine lv_bipush (v := (nI 8)) hx hb dX1_withLetter_3 (by decide) ?_
  refine lv_iload_n hx hb dX1_withLetter_5 rfl (lv_at hl 1 rfl) ?_
  refine pn_imul hx hb dX1_withLetter_6 ?_
  refine lv_lshl hx hb dX1_withLetter_7 rfl ?_
  refine lv_lor hx hb dX1_withLetter_8 ?_
  exact W.lret hx hb hr (fun t ht hW => ⟨⟨_, (), rfl, rfl, trivial⟩, hS.F ht⟩) hS.2.2 dX1_withLetter_9 hlocks

set_option maxHeartbeats 4000000 in
set_option maxRecDepth 100000 in
theorem c_X1_lengthOf (l : Launch) (D : va_G) (cI cL cZ cO : ClassId)  (nm : Int64) : Met l yX1_lengthOf wsX1_lengthOf ({ frames := 1, cells := 0, slots := 0, locals := 22 }) (va_Pc [.long nm] (pn_Pr D cI cL cZ cO [])) (va_Qi (fun r (_ : Unit) => r = (nI (pn_len nm))) (fun _ _ => True) pn_No) 0 0 pn_No := by
  refine pn_mk (by decide) rfl (Nat.le_of_ble_eq_true rfl) ?_
  intro p e s m below meth c ls hx hb hr hml hown hts hlocks hK hP hl
  have hown : s.vm.findClass RX1 = some m.cls := hown
  have hS : va_S pn_No s.heap s.heap [] := va_S.rf
  have hl : lv_has ls 3 [(0, .long nm)] := hl
  refine lv_iconst (v := (nI 0)) hx hb dX1_lengthOf_0 (by decide) ?_
  refine lv_istore_n (lv' := [(2, .int (nI 0)), (0, .long nm)]) hx hb dX1_lengthOf_1 rfl hl (by decide) rfl (fun ls hl => ?_)
  have lp2_1 : ∀ (fu : Nat) (k : Nat), 8 - k < fu → (k ≤ 8) → (∀ i, i < k → ¬ pn_let nm i = 0) → ∀ (H : Heap) (locs : List Loc) (ls : Array Slot), va_P D vwCl [] H → va_S pn_No s.heap H locs → lv_has ls 3 [(0, .long nm), (2, .int (nI k))] → W p l e ({ frames := 1, cells := 0, slots := 0, locals := 22 }) s m (List.toArray [.long nm]) below meth c H locs 0 0 (MQ below (va_Qi (fun r (_ : Unit) => r = (nI (pn_len nm))) (fun _ _ => True) pn_No) (List.toArray [.long nm]) s 0 0 pn_No) (F0 m 2 ls []) := by
    intro fu
    induction fu with
    | zero => intro k hfu; exact absurd hfu (Nat.not_lt_zero _)
    | succ fu ih2_1 =>
      intro k hfu hk hp H locs ls hP hS hl
      refine lv_iload_n hx hb dX1_lengthOf_2 rfl (lv_at hl 1 rfl) ?_
      refine lv_bipush (v := (nI 8)) hx hb dX1_lengthOf_3 (by decide) ?_
      refine lv_icmp_ge (tgt := 22) hx hb dX1_lengthOf_5 (by decide) (fun c_2 => ?_) (fun c_2 => ?_)
      · have c_2 : 8 ≤ k := (pn_le (by omega) (by omega)).mp (show nI 8 ≤ nI k from c_2)
        refine lv_iload_n hx hb dX1_lengthOf_22 rfl (lv_at hl 1 rfl) ?_
        exact W.iret hx hb hr (fun t ht hW => ⟨⟨_, (), rfl, (congrArg nI (pn_cw_eq (fun i h => decide_eq_true (hp i h)) (by omega) (by first | exact Or.inl (by omega) | exact Or.inr (by simp_all))).symm), trivial⟩, hS.F ht⟩) hS.2.2 dX1_lengthOf_23 hlocks
      · have c_2 : ¬ 8 ≤ k := fun h => (show ¬ nI 8 ≤ nI k from c_2) ((pn_le (by omega) (by omega)).mpr h)
        refine lv_lload_n hx hb dX1_lengthOf_8 rfl (lv_at hl 0 rfl) ?_
        refine lv_iload_n hx hb dX1_lengthOf_9 rfl (lv_at hl 1 rfl) ?_
        refine pn_roi (w := []) hP hS (va_runS (As := [.long nm, .int (nI k)]) (rest := []) ⟨hx, hb, hml, hown, hts⟩ (c_X1_letterOf l D cI cL cZ cO nm k) (va_cwS 2 hts gX1_lengthOf_X1_letterOf rfl rfl rfl (by decide +kernel) ⟨Nat.le_of_ble_eq_true rfl, Nat.le_of_ble_eq_true rfl⟩) (pn_ps (WS := []) (fun k q h => by simp at h) hK) rfl rfl hl.1 rfl (lv_room (Nat.le_of_ble_eq_true rfl)) dX1_lengthOf_10 ⟨Nat.le_of_ble_eq_true rfl, Nat.le_of_ble_eq_true rfl⟩) (fun H locs hP hS => ?_)
        refine lv_if_eq (tgt := 22) hx hb dX1_lengthOf_13 (by decide) (fun c_3 => ?_) (fun c_3 => ?_)
        · refine lv_iload_n hx hb dX1_lengthOf_22 rfl (lv_at hl 1 rfl) ?_
          exact W.iret hx hb hr (fun t ht hW => ⟨⟨_, (), rfl, (congrArg nI (pn_cw_eq (fun i h => decide_eq_true (hp i h)) (by omega) (by first | exact Or.inl (by omega) | exact Or.inr (by simp_all))).symm), trivial⟩, hS.F ht⟩) hS.2.2 dX1_lengthOf_23 hlocks
        · refine lv_iinc (v := (nI (k + 1))) (lv' := [(2, .int (nI (k + 1))), (0, .long nm)]) hx hb dX1_lengthOf_16 hl (k := 1) rfl (nI_add k 1) (by decide) rfl (fun ls hl => ?_)
          refine lv_goto (tgt := 2) hx hb dX1_lengthOf_19 (by decide) ?_
          exact ih2_1 (k + 1) (by omega) (by first | assumption | omega | grind | simp_all) (lt_s hp (by assumption)) _ _ _ hP hS (lv_sub hl [1, 0] rfl)
  exact lp2_1 ((8 - 0) + 1) 0 (Nat.lt_succ_self _) (by first | assumption | omega | grind | simp_all) (fun i h => absurd h (Nat.not_lt_zero _)) _ _ _ hP hS (lv_sub hl [1, 0] rfl)

set_option maxHeartbeats 4000000 in
set_option maxRecDepth 100000 in
theorem c_X1_classOf (l : Launch) (D : va_G) (cI cL cZ cO : ClassId)  (x : Int32) : Met l yX1_classOf wsX1_classOf ({ frames := 0, cells := 0, slots := 0, locals := 0 }) (va_Pc [.int x] (pn_Pr D cI cL cZ cO [])) (va_Qi (fun r (_ : Unit) => r = (pn_cls x)) (fun _ _ => True) pn_No) 0 0 pn_No := by
  refine pn_mk (by decide) rfl (Nat.le_of_ble_eq_true rfl) ?_
  intro p e s m below meth c ls hx hb hr hml hown hts hlocks hK hP hl
  have hown : s.vm.findClass RX1 = some m.cls := hown
  have hS : va_S pn_No s.heap s.heap [] := va_S.rf
  have hl : lv_has ls 1 [(0, .int x)] := hl
  refine lv_iload_n hx hb dX1_classOf_0 rfl (lv_at hl 0 rfl) ?_
  rcases pn_sw x (lo := 98) (hi := 122) with c_1 | c_1
  · refine lv_tableOut (tgt := 129) hx hb dX1_classOf_1 c_1 (by decide) ?_
    refine lv_iconst (v := (nI 0)) hx hb dX1_classOf_129 (by decide) ?_
    exact W.iret hx hb hr (fun t ht hW => ⟨⟨_, (), rfl, (by first | exact pn_cls_out (by assumption) | (simp only [*]; decide)), trivial⟩, hS.F ht⟩) hS.2.2 dX1_classOf_130 hlocks
  · obtain ⟨k_1, hk_1, c_1⟩ := c_1
    have hk_1 : k_1 = 98 ∨ k_1 = 99 ∨ k_1 = 100 ∨ k_1 = 101 ∨ k_1 = 102 ∨ k_1 = 103 ∨ k_1 = 104 ∨ k_1 = 105 ∨ k_1 = 106 ∨ k_1 = 107 ∨ k_1 = 108 ∨ k_1 = 109 ∨ k_1 = 110 ∨ k_1 = 111 ∨ k_1 = 112 ∨ k_1 = 113 ∨ k_1 = 114 ∨ k_1 = 115 ∨ k_1 = 116 ∨ k_1 = 117 ∨ k_1 = 118 ∨ k_1 = 119 ∨ k_1 = 120 ∨ k_1 = 121 ∨ k_1 = 122 := by omega
    rcases hk_1 with rfl | rfl | rfl | rfl | rfl | rfl | rfl | rfl | rfl | rfl | rfl | rfl | rfl | rfl | rfl | rfl | rfl | rfl | rfl | rfl | rfl | rfl | rfl | rfl | rfl
    · refine lv_tableIn (tgt := 116) hx hb dX1_classOf_1 (by rw [c_1]; decide) (by rw [c_1]; decide) (by rw [c_1]; rfl) (by decide) ?_
      have c_1 : x = 98 := pn_swe c_1 (by decide)
      refine lv_iconst (v := (nI 1)) hx hb dX1_classOf_116 (by decide) ?_
      exact W.iret hx hb hr (fun t ht hW => ⟨⟨_, (), rfl, (by first | exact pn_cls_out (by assumption) | (simp only [*]; decide)), trivial⟩, hS.F ht⟩) hS.2.2 dX1_classOf_117 hlocks
    · refine lv_tableIn (tgt := 118) hx hb dX1_classOf_1 (by rw [c_1]; decide) (by rw [c_1]; decide) (by rw [c_1]; rfl) (by decide) ?_
      have c_1 : x = 99 := pn_swe c_1 (by decide)
      refine lv_iconst (v := (nI 2)) hx hb dX1_classOf_118 (by decide) ?_
      exact W.iret hx hb hr (fun t ht hW => ⟨⟨_, (), rfl, (by first | exact pn_cls_out (by assumption) | (simp only [*]; decide)), trivial⟩, hS.F ht⟩) hS.2.2 dX1_classOf_119 hlocks
    · refine lv_tableIn (tgt := 120) hx hb dX1_classOf_1 (by rw [c_1]; decide) (by rw [c_1]; decide) (by rw [c_1]; rfl) (by decide) ?_
      have c_1 : x = 100 := pn_swe c_1 (by decide)
      refine lv_iconst (v := (nI 3)) hx hb dX1_classOf_120 (by decide) ?_
      exact W.iret hx hb hr (fun t ht hW => ⟨⟨_, (), rfl, (by first | exact pn_cls_out (by assumption) | (simp only [*]; decide)), trivial⟩, hS.F ht⟩) hS.2.2 dX1_classOf_121 hlocks
    · refine lv_tableIn (tgt := 129) hx hb dX1_classOf_1 (by rw [c_1]; decide) (by rw [c_1]; decide) (by rw [c_1]; rfl) (by decide) ?_
      have c_1 : x = 101 := pn_swe c_1 (by decide)
      refine lv_iconst (v := (nI 0)) hx hb dX1_classOf_129 (by decide) ?_
      exact W.iret hx hb hr (fun t ht hW => ⟨⟨_, (), rfl, (by first | exact pn_cls_out (by assumption) | (simp only [*]; decide)), trivial⟩, hS.F ht⟩) hS.2.2 dX1_classOf_130 hlocks
    · refine lv_tableIn (tgt := 116) hx hb dX1_classOf_1 (by rw [c_1]; decide) (by rw [c_1]; decide) (by rw [c_1]; rfl) (by decide) ?_
      have c_1 : x = 102 := pn_swe c_1 (by decide)
      refine lv_iconst (v := (nI 1)) hx hb dX1_classOf_116 (by decide) ?_
      exact W.iret hx hb hr (fun t ht hW => ⟨⟨_, (), rfl, (by first | exact pn_cls_out (by assumption) | (simp only [*]; decide)), trivial⟩, hS.F ht⟩) hS.2.2 dX1_classOf_117 hlocks
    · refine lv_tableIn (tgt := 118) hx hb dX1_classOf_1 (by rw [c_1]; decide) (by rw [c_1]; decide) (by rw [c_1]; rfl) (by decide) ?_
      have c_1 : x = 103 := pn_swe c_1 (by decide)
      refine lv_iconst (v := (nI 2)) hx hb dX1_classOf_118 (by decide) ?_
      exact W.iret hx hb hr (fun t ht hW => ⟨⟨_, (), rfl, (by first | exact pn_cls_out (by assumption) | (simp only [*]; decide)), trivial⟩, hS.F ht⟩) hS.2.2 dX1_classOf_119 hlocks
    · refine lv_tableIn (tgt := 129) hx hb dX1_classOf_1 (by rw [c_1]; decide) (by rw [c_1]; decide) (by rw [c_1]; rfl) (by decide) ?_
      have c_1 : x = 104 := pn_swe c_1 (by decide)
      refine lv_iconst (v := (nI 0)) hx hb dX1_classOf_129 (by decide) ?_
      exact W.iret hx hb hr (fun t ht hW => ⟨⟨_, (), rfl, (by first | exact pn_cls_out (by assumption) | (simp only [*]; decide)), trivial⟩, hS.F ht⟩) hS.2.2 dX1_classOf_130 hlocks
    · refine lv_tableIn (tgt := 129) hx hb dX1_classOf_1 (by rw [c_1]; decide) (by rw [c_1]; decide) (by rw [c_1]; rfl) (by decide) ?_
      have c_1 : x = 105 := pn_swe c_1 (by decide)
      refine lv_iconst (v := (nI 0)) hx hb dX1_classOf_129 (by decide) ?_
      exact W.iret hx hb hr (fun t ht hW => ⟨⟨_, (), rfl, (by first | exact pn_cls_out (by assumption) | (simp only [*]; decide)), trivial⟩, hS.F ht⟩) hS.2.2 dX1_classOf_130 hlocks
    · refine lv_tableIn (tgt := 118) hx hb dX1_classOf_1 (by rw [c_1]; decide) (by rw [c_1]; decide) (by rw [c_1]; rfl) (by decide) ?_
      have c_1 : x = 106 := pn_swe c_1 (by decide)
      refine lv_iconst (v := (nI 2)) hx hb dX1_classOf_118 (by decide) ?_
      exact W.iret hx hb hr (fun t ht hW => ⟨⟨_, (), rfl, (by first | exact pn_cls_out (by assumption) | (simp only [*]; decide)), trivial⟩, hS.F ht⟩) hS.2.2 dX1_classOf_119 hlocks
    · refine lv_tableIn (tgt := 118) hx hb dX1_classOf_1 (by rw [c_1]; decide) (by rw [c_1]; decide) (by rw [c_1]; rfl) (by decide) ?_
      have c_1 : x = 107 := pn_swe c_1 (by decide)
      refine lv_iconst (v := (nI 2)) hx hb dX1_classOf_118 (by decide) ?_
      exact W.iret hx hb hr (fun t ht hW => ⟨⟨_, (), rfl, (by first | exact pn_cls_out (by assumption) | (simp only [*]; decide)), trivial⟩, hS.F ht⟩) hS.2.2 dX1_classOf_119 hlocks
    · refine lv_tableIn (tgt := 122) hx hb dX1_classOf_1 (by rw [c_1]; decide) (by rw [c_1]; decide) (by rw [c_1]; rfl) (by decide) ?_
      have c_1 : x = 108 := pn_swe c_1 (by decide)
      refine lv_iconst (v := (nI 4)) hx hb dX1_classOf_122 (by decide) ?_
      exact W.iret hx hb hr (fun t ht hW => ⟨⟨_, (), rfl, (by first | exact pn_cls_out (by assumption) | (simp only [*]; decide)), trivial⟩, hS.F ht⟩) hS.2.2 dX1_classOf_123 hlocks
    · refine lv_tableIn (tgt := 124) hx hb dX1_classOf_1 (by rw [c_1]; decide) (by rw [c_1]; decide) (by rw [c_1]; rfl) (by decide) ?_
      have c_1 : x = 109 := pn_swe c_1 (by decide)
      refine lv_iconst (v := (nI 5)) hx hb dX1_classOf_124 (by decide) ?_
      exact W.iret hx hb hr (fun t ht hW => ⟨⟨_, (), rfl, (by first | exact pn_cls_out (by assumption) | (simp only [*]; decide)), trivial⟩, hS.F ht⟩) hS.2.2 dX1_classOf_125 hlocks
    · refine lv_tableIn (tgt := 124) hx hb dX1_classOf_1 (by rw [c_1]; decide) (by rw [c_1]; decide) (by rw [c_1]; rfl) (by decide) ?_
      have c_1 : x = 110 := pn_swe c_1 (by decide)
      refine lv_iconst (v := (nI 5)) hx hb dX1_classOf_124 (by decide) ?_
      exact W.iret hx hb hr (fun t ht hW => ⟨⟨_, (), rfl, (by first | exact pn_cls_out (by assumption) | (simp only [*]; decide)), trivial⟩, hS.F ht⟩) hS.2.2 dX1_classOf_125 hlocks
    · refine lv_tableIn (tgt := 129) hx hb dX1_classOf_1 (by rw [c_1]; decide) (by rw [c_1]; decide) (by rw [c_1]; rfl) (by decide) ?_
      have c_1 : x = 111 := pn_swe c_1 (by decide)
      refine lv_iconst (v := (nI 0)) hx hb dX1_classOf_129 (by decide) ?_
      exact W.iret hx hb hr (fun t ht hW => ⟨⟨_, (), rfl, (by first | exact pn_cls_out (by assumption) | (simp only [*]; decide)), trivial⟩, hS.F ht⟩) hS.2.2 dX1_classOf_130 hlocks
    · refine lv_tableIn (tgt := 116) hx hb dX1_classOf_1 (by rw [c_1]; decide) (by rw [c_1]; decide) (by rw [c_1]; rfl) (by decide) ?_
      have c_1 : x = 112 := pn_swe c_1 (by decide)
      refine lv_iconst (v := (nI 1)) hx hb dX1_classOf_116 (by decide) ?_
      exact W.iret hx hb hr (fun t ht hW => ⟨⟨_, (), rfl, (by first | exact pn_cls_out (by assumption) | (simp only [*]; decide)), trivial⟩, hS.F ht⟩) hS.2.2 dX1_classOf_117 hlocks
    · refine lv_tableIn (tgt := 118) hx hb dX1_classOf_1 (by rw [c_1]; decide) (by rw [c_1]; decide) (by rw [c_1]; rfl) (by decide) ?_
      have c_1 : x = 113 := pn_swe c_1 (by decide)
      refine lv_iconst (v := (nI 2)) hx hb dX1_classOf_118 (by decide) ?_
      exact W.iret hx hb hr (fun t ht hW => ⟨⟨_, (), rfl, (by first | exact pn_cls_out (by assumption) | (simp only [*]; decide)), trivial⟩, hS.F ht⟩) hS.2.2 dX1_classOf_119 hlocks
    · refine lv_tableIn (tgt := 126) hx hb dX1_classOf_1 (by rw [c_1]; decide) (by rw [c_1]; decide) (by rw [c_1]; rfl) (by decide) ?_
      have c_1 : x = 114 := pn_swe c_1 (by decide)
      refine lv_bipush (v := (nI 6)) hx hb dX1_classOf_126 (by decide) ?_
      exact W.iret hx hb hr (fun t ht hW => ⟨⟨_, (), rfl, (by first | exact pn_cls_out (by assumption) | (simp only [*]; decide)), trivial⟩, hS.F ht⟩) hS.2.2 dX1_classOf_128 hlocks
    · refine lv_tableIn (tgt := 118) hx hb dX1_classOf_1 (by rw [c_1]; decide) (by rw [c_1]; decide) (by rw [c_1]; rfl) (by decide) ?_
      have c_1 : x = 115 := pn_swe c_1 (by decide)
      refine lv_iconst (v := (nI 2)) hx hb dX1_classOf_118 (by decide) ?_
      exact W.iret hx hb hr (fun t ht hW => ⟨⟨_, (), rfl, (by first | exact pn_cls_out (by assumption) | (simp only [*]; decide)), trivial⟩, hS.F ht⟩) hS.2.2 dX1_classOf_119 hlocks
    · refine lv_tableIn (tgt := 120) hx hb dX1_classOf_1 (by rw [c_1]; decide) (by rw [c_1]; decide) (by rw [c_1]; rfl) (by decide) ?_
      have c_1 : x = 116 := pn_swe c_1 (by decide)
      refine lv_iconst (v := (nI 3)) hx hb dX1_classOf_120 (by decide) ?_
      exact W.iret hx hb hr (fun t ht hW => ⟨⟨_, (), rfl, (by first | exact pn_cls_out (by assumption) | (simp only [*]; decide)), trivial⟩, hS.F ht⟩) hS.2.2 dX1_classOf_121 hlocks
    · refine lv_tableIn (tgt := 129) hx hb dX1_classOf_1 (by rw [c_1]; decide) (by rw [c_1]; decide) (by rw [c_1]; rfl) (by decide) ?_
      have c_1 : x = 117 := pn_swe c_1 (by decide)
      refine lv_iconst (v := (nI 0)) hx hb dX1_classOf_129 (by decide) ?_
      exact W.iret hx hb hr (fun t ht hW => ⟨⟨_, (), rfl, (by first | exact pn_cls_out (by assumption) | (simp only [*]; decide)), trivial⟩, hS.F ht⟩) hS.2.2 dX1_classOf_130 hlocks
    · refine lv_tableIn (tgt := 116) hx hb dX1_classOf_1 (by rw [c_1]; decide) (by rw [c_1]; decide) (by rw [c_1]; rfl) (by decide) ?_
      have c_1 : x = 118 := pn_swe c_1 (by decide)
      refine lv_iconst (v := (nI 1)) hx hb dX1_classOf_116 (by decide) ?_
      exact W.iret hx hb hr (fun t ht hW => ⟨⟨_, (), rfl, (by first | exact pn_cls_out (by assumption) | (simp only [*]; decide)), trivial⟩, hS.F ht⟩) hS.2.2 dX1_classOf_117 hlocks
    · refine lv_tableIn (tgt := 129) hx hb dX1_classOf_1 (by rw [c_1]; decide) (by rw [c_1]; decide) (by rw [c_1]; rfl) (by decide) ?_
      have c_1 : x = 119 := pn_swe c_1 (by decide)
      refine lv_iconst (v := (nI 0)) hx hb dX1_classOf_129 (by decide) ?_
      exact W.iret hx hb hr (fun t ht hW => ⟨⟨_, (), rfl, (by first | exact pn_cls_out (by assumption) | (simp only [*]; decide)), trivial⟩, hS.F ht⟩) hS.2.2 dX1_classOf_130 hlocks
    · refine lv_tableIn (tgt := 118) hx hb dX1_classOf_1 (by rw [c_1]; decide) (by rw [c_1]; decide) (by rw [c_1]; rfl) (by decide) ?_
      have c_1 : x = 120 := pn_swe c_1 (by decide)
      refine lv_iconst (v := (nI 2)) hx hb dX1_classOf_118 (by decide) ?_
      exact W.iret hx hb hr (fun t ht hW => ⟨⟨_, (), rfl, (by first | exact pn_cls_out (by assumption) | (simp only [*]; decide)), trivial⟩, hS.F ht⟩) hS.2.2 dX1_classOf_119 hlocks
    · refine lv_tableIn (tgt := 129) hx hb dX1_classOf_1 (by rw [c_1]; decide) (by rw [c_1]; decide) (by rw [c_1]; rfl) (by decide) ?_
      have c_1 : x = 121 := pn_swe c_1 (by decide)
      refine lv_iconst (v := (nI 0)) hx hb dX1_classOf_129 (by decide) ?_
      exact W.iret hx hb hr (fun t ht hW => ⟨⟨_, (), rfl, (by first | exact pn_cls_out (by assumption) | (simp only [*]; decide)), trivial⟩, hS.F ht⟩) hS.2.2 dX1_classOf_130 hlocks
    · refine lv_tableIn (tgt := 118) hx hb dX1_classOf_1 (by rw [c_1]; decide) (by rw [c_1]; decide) (by rw [c_1]; rfl) (by decide) ?_
      have c_1 : x = 122 := pn_swe c_1 (by decide)
      refine lv_iconst (v := (nI 2)) hx hb dX1_classOf_118 (by decide) ?_
      exact W.iret hx hb hr (fun t ht hW => ⟨⟨_, (), rfl, (by first | exact pn_cls_out (by assumption) | (simp only [*]; decide)), trivial⟩, hS.F ht⟩) hS.2.2 dX1_classOf_119 hlocks

set_option maxHeartbeats 4000000 in
set_option maxRecDepth 100000 in
theorem c_X1_classOfSound (l : Launch) (D : va_G) (cI cL cZ cO : ClassId)  (h : Int32) (k : Nat) : Met l yX1_classOfSound wsX1_classOfSound ({ frames := 0, cells := 0, slots := 0, locals := 0 }) (va_Pc [.int h, .int (nI k)] (pn_Pr D cI cL cZ cO [])) (va_Qi (fun r (_ : Unit) => r = (pn_cs h k)) (fun _ _ => True) pn_No) 0 0 pn_No := by
  refine pn_mk (by decide) rfl (Nat.le_of_ble_eq_true rfl) ?_
  intro p e s m below meth c ls hx hb hr hml hown hts hlocks hK hP hl
  have hown : s.vm.findClass RX1 = some m.cls := hown
  have hS : va_S pn_No s.heap s.heap [] := va_S.rf
  have hl : lv_has ls 2 [(0, .int h), (1, .int (nI k))] := hl
  refine lv_iload_n hx hb dX1_classOfSound_0 rfl (lv_at hl 0 rfl) ?_
  refine lv_iconst (v := (nI 4)) hx hb dX1_classOfSound_1 (by decide) ?_
  refine lv_iload_n hx hb dX1_classOfSound_2 rfl (lv_at hl 1 rfl) ?_
  refine pn_imul hx hb dX1_classOfSound_3 ?_
  refine lv_iushr hx hb dX1_classOfSound_4 rfl ?_
  refine lv_bipush (v := (nI 15)) hx hb dX1_classOfSound_5 (by decide) ?_
  refine lv_iand hx hb dX1_classOfSound_7 ?_
  refine lv_iconst (v := (nI 1)) hx hb dX1_classOfSound_8 (by decide) ?_
  refine lv_isub hx hb dX1_classOfSound_9 ?_
  exact W.iret hx hb hr (fun t ht hW => ⟨⟨_, (), rfl, rfl, trivial⟩, hS.F ht⟩) hS.2.2 dX1_classOfSound_10 hlocks

set_option maxHeartbeats 4000000 in
set_option maxRecDepth 100000 in
theorem c_X1_lengthOfSound (l : Launch) (D : va_G) (cI cL cZ cO : ClassId)  (h : Int32) : Met l yX1_lengthOfSound wsX1_lengthOfSound ({ frames := 1, cells := 0, slots := 0, locals := 21 }) (va_Pc [.int h] (pn_Pr D cI cL cZ cO [])) (va_Qi (fun r (_ : Unit) => r = (nI (pn_lsd h))) (fun _ _ => True) pn_No) 0 0 pn_No := by
  refine pn_mk (by decide) rfl (Nat.le_of_ble_eq_true rfl) ?_
  intro p e s m below meth c ls hx hb hr hml hown hts hlocks hK hP hl
  have hown : s.vm.findClass RX1 = some m.cls := hown
  have hS : va_S pn_No s.heap s.heap [] := va_S.rf
  have hl : lv_has ls 2 [(0, .int h)] := hl
  refine lv_iconst (v := (nI 0)) hx hb dX1_lengthOfSound_0 (by decide) ?_
  refine lv_istore_n (lv' := [(1, .int (nI 0)), (0, .int h)]) hx hb dX1_lengthOfSound_1 rfl hl (by decide) rfl (fun ls hl => ?_)
  have lp2_1 : ∀ (fu : Nat) (k : Nat), 4 - k < fu → (k ≤ 4) → (∀ i, i < k → ¬ pn_cs h i < 0) → ∀ (H : Heap) (locs : List Loc) (ls : Array Slot), va_P D vwCl [] H → va_S pn_No s.heap H locs → lv_has ls 2 [(0, .int h), (1, .int (nI k))] → W p l e ({ frames := 1, cells := 0, slots := 0, locals := 21 }) s m (List.toArray [.int h]) below meth c H locs 0 0 (MQ below (va_Qi (fun r (_ : Unit) => r = (nI (pn_lsd h))) (fun _ _ => True) pn_No) (List.toArray [.int h]) s 0 0 pn_No) (F0 m 2 ls []) := by
    intro fu
    induction fu with
    | zero => intro k hfu; exact absurd hfu (Nat.not_lt_zero _)
    | succ fu ih2_1 =>
      intro k hfu hk hp H locs ls hP hS hl
      refine lv_iload_n hx hb dX1_lengthOfSound_2 rfl (lv_at hl 1 rfl) ?_
      refine lv_iconst (v := (nI 4)) hx hb dX1_lengthOfSound_3 (by decide) ?_
      refine lv_icmp_ge (tgt := 21) hx hb dX1_lengthOfSound_4 (by decide) (fun c_2 => ?_) (fun c_2 => ?_)
      · have c_2 : 4 ≤ k := (pn_le (by omega) (by omega)).mp (show nI 4 ≤ nI k from c_2)
        refine lv_iload_n hx hb dX1_lengthOfSound_21 rfl (lv_at hl 1 rfl) ?_
        exact W.iret hx hb hr (fun t ht hW => ⟨⟨_, (), rfl, (congrArg nI (pn_cw_eq (fun i h => decide_eq_true (hp i h)) (by omega) (by first | exact Or.inl (by omega) | exact Or.inr (by simp_all))).symm), trivial⟩, hS.F ht⟩) hS.2.2 dX1_lengthOfSound_22 hlocks
      · have c_2 : ¬ 4 ≤ k := fun h => (show ¬ nI 4 ≤ nI k from c_2) ((pn_le (by omega) (by omega)).mpr h)
        refine lv_iload_n hx hb dX1_lengthOfSound_7 rfl (lv_at hl 0 rfl) ?_
        refine lv_iload_n hx hb dX1_lengthOfSound_8 rfl (lv_at hl 1 rfl) ?_
        refine pn_roi (w := []) hP hS (va_runS (As := [.int h, .int (nI k)]) (rest := []) ⟨hx, hb, hml, hown, hts⟩ (c_X1_classOfSound l D cI cL cZ cO h k) (va_cwS 2 hts gX1_lengthOfSound_X1_classOfSound rfl rfl rfl (by decide +kernel) ⟨Nat.le_of_ble_eq_true rfl, Nat.le_of_ble_eq_true rfl⟩) (pn_ps (WS := []) (fun k q h => by simp at h) hK) rfl rfl hl.1 rfl (lv_room (Nat.le_of_ble_eq_true rfl)) dX1_lengthOfSound_9 ⟨Nat.le_of_ble_eq_true rfl, Nat.le_of_ble_eq_true rfl⟩) (fun H locs hP hS => ?_)
        refine lv_if_lt (tgt := 21) hx hb dX1_lengthOfSound_12 (by decide) (fun c_3 => ?_) (fun c_3 => ?_)
        · refine lv_iload_n hx hb dX1_lengthOfSound_21 rfl (lv_at hl 1 rfl) ?_
          exact W.iret hx hb hr (fun t ht hW => ⟨⟨_, (), rfl, (congrArg nI (pn_cw_eq (fun i h => decide_eq_true (hp i h)) (by omega) (by first | exact Or.inl (by omega) | exact Or.inr (by simp_all))).symm), trivial⟩, hS.F ht⟩) hS.2.2 dX1_lengthOfSound_22 hlocks
        · refine lv_iinc (v := (nI (k + 1))) (lv' := [(1, .int (nI (k + 1))), (0, .int h)]) hx hb dX1_lengthOfSound_15 hl (k := 1) rfl (nI_add k 1) (by decide) rfl (fun ls hl => ?_)
          refine lv_goto (tgt := 2) hx hb dX1_lengthOfSound_18 (by decide) ?_
          exact ih2_1 (k + 1) (by omega) (by first | assumption | omega | grind | simp_all) (lt_s hp (by assumption)) _ _ _ hP hS (lv_sub hl [1, 0] rfl)
  exact lp2_1 ((4 - 0) + 1) 0 (Nat.lt_succ_self _) (by first | assumption | omega | grind | simp_all) (fun i h => absurd h (Nat.not_lt_zero _)) _ _ _ hP hS (lv_sub hl [1, 0] rfl)

set_option maxHeartbeats 4000000 in
set_option maxRecDepth 100000 in
theorem c_X1_soundOf (l : Launch) (D : va_G) (cI cL cZ cO : ClassId)  (nm : Int64) : Met l yX1_soundOf wsX1_soundOf ({ frames := 2, cells := 0, slots := 0, locals := 44 }) (va_Pc [.long nm] (pn_Pr D cI cL cZ cO [])) (va_Qi (fun r (_ : Unit) => r = (pn_snd nm)) (fun _ _ => True) pn_No) 0 0 pn_No := by
  refine pn_mk (by decide) rfl (Nat.le_of_ble_eq_true rfl) ?_
  intro p e s m below meth c ls hx hb hr hml hown hts hlocks hK hP hl
  have hown : s.vm.findClass RX1 = some m.cls := hown
  have hS : va_S pn_No s.heap s.heap [] := va_S.rf
  have hl : lv_has ls 8 [(0, .long nm)] := hl
  refine lv_lload_n hx hb dX1_soundOf_0 rfl (lv_at hl 0 rfl) ?_
  refine lv_iconst (v := (nI 0)) hx hb dX1_soundOf_1 (by decide) ?_
  refine pn_roi (w := []) hP hS (va_runS (As := [.long nm, .int (nI 0)]) (rest := []) ⟨hx, hb, hml, hown, hts⟩ (c_X1_letterOf l D cI cL cZ cO nm 0) (va_cwS 2 hts gX1_soundOf_X1_letterOf rfl rfl rfl (by decide +kernel) ⟨Nat.le_of_ble_eq_true rfl, Nat.le_of_ble_eq_true rfl⟩) (pn_ps (WS := []) (fun k q h => by simp at h) hK) rfl rfl hl.1 rfl (lv_room (Nat.le_of_ble_eq_true rfl)) dX1_soundOf_2 ⟨Nat.le_of_ble_eq_true rfl, Nat.le_of_ble_eq_true rfl⟩) (fun H locs hP hS => ?_)
  refine pn_roi (w := []) hP hS (va_runS (As := [.int (pn_let nm 0)]) (rest := []) ⟨hx, hb, hml, hown, hts⟩ (c_X1_classOf l D cI cL cZ cO (pn_let nm 0)) (va_cwS 1 hts gX1_soundOf_X1_classOf rfl rfl rfl (by decide +kernel) ⟨Nat.le_of_ble_eq_true rfl, Nat.le_of_ble_eq_true rfl⟩) (pn_ps (WS := []) (fun k q h => by simp at h) hK) rfl rfl hl.1 rfl (lv_room (Nat.le_of_ble_eq_true rfl)) dX1_soundOf_5 ⟨Nat.le_of_ble_eq_true rfl, Nat.le_of_ble_eq_true rfl⟩) (fun H locs hP hS => ?_)
  refine lv_istore_n (lv' := [(2, .int (pn_cls (pn_let nm 0))), (0, .long nm)]) hx hb dX1_soundOf_8 rfl hl (by decide) rfl (fun ls hl => ?_)
  refine lv_iload_n hx hb dX1_soundOf_9 rfl (lv_at hl 0 rfl) ?_
  refine lv_iconst (v := (nI 1)) hx hb dX1_soundOf_10 (by decide) ?_
  refine lv_iadd hx hb dX1_soundOf_11 ?_
  refine lv_istore_n (lv' := [(3, .int ((pn_cls (pn_let nm 0)) + (nI 1))), (2, .int (pn_cls (pn_let nm 0))), (0, .long nm)]) hx hb dX1_soundOf_12 rfl hl (by decide) rfl (fun ls hl => ?_)
  refine lv_iconst (v := (nI 1)) hx hb dX1_soundOf_13 (by decide) ?_
  refine lv_istore (lv' := [(4, .int (nI 1)), (3, .int ((pn_cls (pn_let nm 0)) + (nI 1))), (2, .int (pn_cls (pn_let nm 0))), (0, .long nm)]) hx hb dX1_soundOf_14 hl (by decide) rfl (fun ls hl => ?_)
  refine lv_lload_n hx hb dX1_soundOf_16 rfl (lv_at hl 3 rfl) ?_
  refine pn_roi (w := []) hP hS (va_runS (As := [.long nm]) (rest := []) ⟨hx, hb, hml, hown, hts⟩ (c_X1_lengthOf l D cI cL cZ cO nm) (va_cwS 1 hts gX1_soundOf_X1_lengthOf rfl rfl rfl (by decide +kernel) ⟨Nat.le_of_ble_eq_true rfl, Nat.le_of_ble_eq_true rfl⟩) (pn_ps (WS := []) (fun k q h => by simp at h) hK) rfl rfl hl.1 rfl (lv_room (Nat.le_of_ble_eq_true rfl)) dX1_soundOf_17 ⟨Nat.le_of_ble_eq_true rfl, Nat.le_of_ble_eq_true rfl⟩) (fun H locs hP hS => ?_)
  refine lv_istore (lv' := [(5, .int (nI (pn_len nm))), (4, .int (nI 1)), (3, .int ((pn_cls (pn_let nm 0)) + (nI 1))), (2, .int (pn_cls (pn_let nm 0))), (0, .long nm)]) hx hb dX1_soundOf_20 hl (by decide) rfl (fun ls hl => ?_)
  refine lv_iconst (v := (nI 1)) hx hb dX1_soundOf_22 (by decide) ?_
  refine lv_istore (lv' := [(6, .int (nI 1)), (5, .int (nI (pn_len nm))), (4, .int (nI 1)), (3, .int ((pn_cls (pn_let nm 0)) + (nI 1))), (2, .int (pn_cls (pn_let nm 0))), (0, .long nm)]) hx hb dX1_soundOf_23 hl (by decide) rfl (fun ls hl => ?_)
  have lp25_1 : ∀ (fu : Nat) (j : Nat) (bf : Int32) (hd : Int32) (ct : Nat), 9 - j < fu → (j + 1 ≤ pn_len nm ∨ j = 0) → (bf = pn_cls (pn_let nm j)) → (hd = (pn_sd nm j).1) → (ct = (pn_sd nm j).2) → ∀ (H : Heap) (locs : List Loc) (ls : Array Slot), va_P D vwCl [] H → va_S pn_No s.heap H locs → lv_has ls 8 [(0, .long nm), (2, .int bf), (3, .int hd), (4, .int (nI ct)), (5, .int (nI (pn_len nm))), (6, .int (nI (j + 1)))] → W p l e ({ frames := 2, cells := 0, slots := 0, locals := 44 }) s m (List.toArray [.long nm]) below meth c H locs 0 0 (MQ below (va_Qi (fun r (_ : Unit) => r = (pn_snd nm)) (fun _ _ => True) pn_No) (List.toArray [.long nm]) s 0 0 pn_No) (F0 m 25 ls []) := by
    intro fu
    induction fu with
    | zero => intro j bf hd ct hfu; exact absurd hfu (Nat.not_lt_zero _)
    | succ fu ih25_1 =>
      intro j bf hd ct hfu hk e1 e2 e3 H locs ls hP hS hl
      have h8 := pn_len8 nm
      have h4 := pn_sd4 nm j
      refine lv_iload hx hb dX1_soundOf_25 (lv_at hl 5 rfl) ?_
      refine lv_iload hx hb dX1_soundOf_27 (lv_at hl 4 rfl) ?_
      refine lv_icmp_ge (tgt := 84) hx hb dX1_soundOf_29 (by decide) (fun c_2 => ?_) (fun c_2 => ?_)
      · have c_2 : (pn_len nm) ≤ (j + 1) := (pn_le (by omega) (by omega)).mp (show nI (pn_len nm) ≤ nI (j + 1) from c_2)
        refine lv_iload_n hx hb dX1_soundOf_84 rfl (lv_at hl 2 rfl) ?_
        exact W.iret hx hb hr (fun t ht hW => ⟨⟨_, (), rfl, (by rw [e2]; unfold pn_snd; first | (rw [show pn_len nm - 1 = j by omega]) | (have hs := pn_sd_stop nm (j := j) (by omega) (pn_len nm - 1 - j); rw [show j + (pn_len nm - 1 - j) = pn_len nm - 1 by omega] at hs; rw [hs])), trivial⟩, hS.F ht⟩) hS.2.2 dX1_soundOf_85 hlocks
      · have c_2 : ¬ (pn_len nm) ≤ (j + 1) := fun h => (show ¬ nI (pn_len nm) ≤ nI (j + 1) from c_2) ((pn_le (by omega) (by omega)).mpr h)
        refine lv_iload hx hb dX1_soundOf_32 (lv_at hl 3 rfl) ?_
        refine lv_iconst (v := (nI 4)) hx hb dX1_soundOf_34 (by decide) ?_
        refine lv_icmp_ge (tgt := 84) hx hb dX1_soundOf_35 (by decide) (fun c_3 => ?_) (fun c_3 => ?_)
        · have c_3 : 4 ≤ ct := (pn_le (by omega) (by omega)).mp (show nI 4 ≤ nI ct from c_3)
          refine lv_iload_n hx hb dX1_soundOf_84 rfl (lv_at hl 2 rfl) ?_
          exact W.iret hx hb hr (fun t ht hW => ⟨⟨_, (), rfl, (by rw [e2]; unfold pn_snd; first | (rw [show pn_len nm - 1 = j by omega]) | (have hs := pn_sd_stop nm (j := j) (by omega) (pn_len nm - 1 - j); rw [show j + (pn_len nm - 1 - j) = pn_len nm - 1 by omega] at hs; rw [hs])), trivial⟩, hS.F ht⟩) hS.2.2 dX1_soundOf_85 hlocks
        · have c_3 : ¬ 4 ≤ ct := fun h => (show ¬ nI 4 ≤ nI ct from c_3) ((pn_le (by omega) (by omega)).mpr h)
          refine lv_lload_n hx hb dX1_soundOf_38 rfl (lv_at hl 0 rfl) ?_
          refine lv_iload hx hb dX1_soundOf_39 (lv_at hl 5 rfl) ?_
          refine pn_roi (w := []) hP hS (va_runS (As := [.long nm, .int (nI (j + 1))]) (rest := []) ⟨hx, hb, hml, hown, hts⟩ (c_X1_letterOf l D cI cL cZ cO nm (j + 1)) (va_cwS 2 hts gX1_soundOf_X1_letterOf rfl rfl rfl (by decide +kernel) ⟨Nat.le_of_ble_eq_true rfl, Nat.le_of_ble_eq_true rfl⟩) (pn_ps (WS := []) (fun k q h => by simp at h) hK) rfl rfl hl.1 rfl (lv_room (Nat.le_of_ble_eq_true rfl)) dX1_soundOf_41 ⟨Nat.le_of_ble_eq_true rfl, Nat.le_of_ble_eq_true rfl⟩) (fun H locs hP hS => ?_)
          refine pn_roi (w := []) hP hS (va_runS (As := [.int (pn_let nm (j + 1))]) (rest := []) ⟨hx, hb, hml, hown, hts⟩ (c_X1_classOf l D cI cL cZ cO (pn_let nm (j + 1))) (va_cwS 1 hts gX1_soundOf_X1_classOf rfl rfl rfl (by decide +kernel) ⟨Nat.le_of_ble_eq_true rfl, Nat.le_of_ble_eq_true rfl⟩) (pn_ps (WS := []) (fun k q h => by simp at h) hK) rfl rfl hl.1 rfl (lv_room (Nat.le_of_ble_eq_true rfl)) dX1_soundOf_44 ⟨Nat.le_of_ble_eq_true rfl, Nat.le_of_ble_eq_true rfl⟩) (fun H locs hP hS => ?_)
          refine lv_istore (lv' := [(7, .int (pn_cls (pn_let nm (j + 1)))), (0, .long nm), (2, .int bf), (3, .int hd), (4, .int (nI ct)), (5, .int (nI (pn_len nm))), (6, .int (nI (j + 1)))]) hx hb dX1_soundOf_47 hl (by decide) rfl (fun ls hl => ?_)
          refine lv_iload hx hb dX1_soundOf_49 (lv_at hl 0 rfl) ?_
          refine lv_if_eq (tgt := 75) hx hb dX1_soundOf_51 (by decide) (fun c_4 => ?_) (fun c_4 => ?_)
          · refine lv_iload hx hb dX1_soundOf_75 (lv_at hl 0 rfl) ?_
            refine lv_istore_n (lv' := [(2, .int (pn_cls (pn_let nm (j + 1)))), (7, .int (pn_cls (pn_let nm (j + 1)))), (0, .long nm), (3, .int hd), (4, .int (nI ct)), (5, .int (nI (pn_len nm))), (6, .int (nI (j + 1)))]) hx hb dX1_soundOf_77 rfl hl (by decide) rfl (fun ls hl => ?_)
            refine lv_iinc (v := (nI ((j + 1) + 1))) (lv' := [(6, .int (nI ((j + 1) + 1))), (2, .int (pn_cls (pn_let nm (j + 1)))), (7, .int (pn_cls (pn_let nm (j + 1)))), (0, .long nm), (3, .int hd), (4, .int (nI ct)), (5, .int (nI (pn_len nm)))]) hx hb dX1_soundOf_78 hl (k := 6) rfl (nI_add (j + 1) 1) (by decide) rfl (fun ls hl => ?_)
            refine lv_goto (tgt := 25) hx hb dX1_soundOf_81 (by decide) ?_
            exact ih25_1 (j + 1) (pn_cls (pn_let nm (j + 1))) hd ct (by omega) (Or.inl (by omega)) rfl (by rw [pn_sd_s]; split <;> rename_i hh <;> first | (rw [e2, e3]; done) | exact e2 | (exfalso; exact hh.2.1 (by assumption)) | (exfalso; exact hh.2.2 (by rw [← e1]; assumption)) | (exfalso; exact hh ⟨by omega, by assumption, by rw [← e1]; assumption⟩)) (by rw [pn_sd_s]; split <;> rename_i hh <;> first | (rw [e3]; done) | exact e3 | (exfalso; exact hh.2.1 (by assumption)) | (exfalso; exact hh.2.2 (by rw [← e1]; assumption)) | (exfalso; exact hh ⟨by omega, by assumption, by rw [← e1]; assumption⟩)) _ _ _ hP hS (lv_sub hl [3, 1, 4, 5, 6, 0] rfl)
          · refine lv_iload hx hb dX1_soundOf_54 (lv_at hl 0 rfl) ?_
            refine lv_iload_n hx hb dX1_soundOf_56 rfl (lv_at hl 2 rfl) ?_
            refine lv_icmp_eq (tgt := 75) hx hb dX1_soundOf_57 (by decide) (fun c_5 => ?_) (fun c_5 => ?_)
            · refine lv_iload hx hb dX1_soundOf_75 (lv_at hl 0 rfl) ?_
              refine lv_istore_n (lv' := [(2, .int (pn_cls (pn_let nm (j + 1)))), (7, .int (pn_cls (pn_let nm (j + 1)))), (0, .long nm), (3, .int hd), (4, .int (nI ct)), (5, .int (nI (pn_len nm))), (6, .int (nI (j + 1)))]) hx hb dX1_soundOf_77 rfl hl (by decide) rfl (fun ls hl => ?_)
              refine lv_iinc (v := (nI ((j + 1) + 1))) (lv' := [(6, .int (nI ((j + 1) + 1))), (2, .int (pn_cls (pn_let nm (j + 1)))), (7, .int (pn_cls (pn_let nm (j + 1)))), (0, .long nm), (3, .int hd), (4, .int (nI ct)), (5, .int (nI (pn_len nm)))]) hx hb dX1_soundOf_78 hl (k := 6) rfl (nI_add (j + 1) 1) (by decide) rfl (fun ls hl => ?_)
              refine lv_goto (tgt := 25) hx hb dX1_soundOf_81 (by decide) ?_
              exact ih25_1 (j + 1) (pn_cls (pn_let nm (j + 1))) hd ct (by omega) (Or.inl (by omega)) rfl (by rw [pn_sd_s]; split <;> rename_i hh <;> first | (rw [e2, e3]; done) | exact e2 | (exfalso; exact hh.2.1 (by assumption)) | (exfalso; exact hh.2.2 (by rw [← e1]; assumption)) | (exfalso; exact hh ⟨by omega, by assumption, by rw [← e1]; assumption⟩)) (by rw [pn_sd_s]; split <;> rename_i hh <;> first | (rw [e3]; done) | exact e3 | (exfalso; exact hh.2.1 (by assumption)) | (exfalso; exact hh.2.2 (by rw [← e1]; assumption)) | (exfalso; exact hh ⟨by omega, by assumption, by rw [← e1]; assumption⟩)) _ _ _ hP hS (lv_sub hl [3, 1, 4, 5, 6, 0] rfl)
            · refine lv_iload_n hx hb dX1_soundOf_60 rfl (lv_at hl 3 rfl) ?_
              refine lv_iload hx hb dX1_soundOf_61 (lv_at hl 0 rfl) ?_
              refine lv_iconst (v := (nI 1)) hx hb dX1_soundOf_63 (by decide) ?_
              refine lv_iadd hx hb dX1_soundOf_64 ?_
              refine lv_iconst (v := (nI 4)) hx hb dX1_soundOf_65 (by decide) ?_
              refine lv_iload hx hb dX1_soundOf_66 (lv_at hl 4 rfl) ?_
              refine pn_imul hx hb dX1_soundOf_68 ?_
              refine lv_ishl hx hb dX1_soundOf_69 ?_
              refine lv_ior hx hb dX1_soundOf_70 ?_
              refine lv_istore_n (lv' := [(3, .int (hd ||| (((pn_cls (pn_let nm (j + 1))) + (nI 1)) <<< ((nI (4 * ct)) &&& 31)))), (7, .int (pn_cls (pn_let nm (j + 1)))), (0, .long nm), (2, .int bf), (4, .int (nI ct)), (5, .int (nI (pn_len nm))), (6, .int (nI (j + 1)))]) hx hb dX1_soundOf_71 rfl hl (by decide) rfl (fun ls hl => ?_)
              refine lv_iinc (v := (nI (ct + 1))) (lv' := [(4, .int (nI (ct + 1))), (3, .int (hd ||| (((pn_cls (pn_let nm (j + 1))) + (nI 1)) <<< ((nI (4 * ct)) &&& 31)))), (7, .int (pn_cls (pn_let nm (j + 1)))), (0, .long nm), (2, .int bf), (5, .int (nI (pn_len nm))), (6, .int (nI (j + 1)))]) hx hb dX1_soundOf_72 hl (k := 4) rfl (nI_add ct 1) (by decide) rfl (fun ls hl => ?_)
              refine lv_iload hx hb dX1_soundOf_75 (lv_at hl 2 rfl) ?_
              refine lv_istore_n (lv' := [(2, .int (pn_cls (pn_let nm (j + 1)))), (4, .int (nI (ct + 1))), (3, .int (hd ||| (((pn_cls (pn_let nm (j + 1))) + (nI 1)) <<< ((nI (4 * ct)) &&& 31)))), (7, .int (pn_cls (pn_let nm (j + 1)))), (0, .long nm), (5, .int (nI (pn_len nm))), (6, .int (nI (j + 1)))]) hx hb dX1_soundOf_77 rfl hl (by decide) rfl (fun ls hl => ?_)
              refine lv_iinc (v := (nI ((j + 1) + 1))) (lv' := [(6, .int (nI ((j + 1) + 1))), (2, .int (pn_cls (pn_let nm (j + 1)))), (4, .int (nI (ct + 1))), (3, .int (hd ||| (((pn_cls (pn_let nm (j + 1))) + (nI 1)) <<< ((nI (4 * ct)) &&& 31)))), (7, .int (pn_cls (pn_let nm (j + 1)))), (0, .long nm), (5, .int (nI (pn_len nm)))]) hx hb dX1_soundOf_78 hl (k := 6) rfl (nI_add (j + 1) 1) (by decide) rfl (fun ls hl => ?_)
              refine lv_goto (tgt := 25) hx hb dX1_soundOf_81 (by decide) ?_
              exact ih25_1 (j + 1) (pn_cls (pn_let nm (j + 1))) (hd ||| (((pn_cls (pn_let nm (j + 1))) + (nI 1)) <<< ((nI (4 * ct)) &&& 31))) (ct + 1) (by omega) (Or.inl (by omega)) rfl (by rw [pn_sd_s]; split <;> rename_i hh <;> first | (rw [e2, e3]; done) | exact e2 | (exfalso; exact hh.2.1 (by assumption)) | (exfalso; exact hh.2.2 (by rw [← e1]; assumption)) | (exfalso; exact hh ⟨by omega, by assumption, by rw [← e1]; assumption⟩)) (by rw [pn_sd_s]; split <;> rename_i hh <;> first | (rw [e3]; done) | exact e3 | (exfalso; exact hh.2.1 (by assumption)) | (exfalso; exact hh.2.2 (by rw [← e1]; assumption)) | (exfalso; exact hh ⟨by omega, by assumption, by rw [← e1]; assumption⟩)) _ _ _ hP hS (lv_sub hl [5, 1, 3, 2, 6, 0] rfl)
  exact lp25_1 ((9 - 0) + 1) 0 (pn_cls (pn_let nm 0)) (pn_cls (pn_let nm 0) + nI 1) 1 (Nat.lt_succ_self _) (Or.inr rfl) rfl rfl rfl _ _ _ hP hS (lv_sub hl [5, 4, 3, 2, 1, 0] rfl)
end
section
/-! what the events tell, as the class plays them: n events, F parishes, six rows -/
def pn_st (Y : Nat → Int32) (yr : Int32) (n : Nat) : Nat := pn_cw (fun i => decide (Y i ≤ yr)) n
theorem pn_st_le (Y : Nat → Int32) (yr : Int32) (n : Nat) : pn_st Y yr n ≤ n := pn_cw_le _ _
def pn_fy (Y : Nat → Int32) (n j : Nat) : Int32 := if j = 0 ∨ n < j then nI 0 else Y (j - 1)
def pn_ly (Y : Nat → Int32) (n j : Nat) : Int32 := if n ≤ j then nI 999 else Y j - nI 1
def pn_factN (K Y P S O : Nat → Int32) (k : Nat) (wh : Int32) : Int32 :=
  if wh = nI 0 then K k else if wh = nI 1 then Y k else if wh = nI 2 then P k else if wh = nI 3 then (if K k = 0 then (-6) else S k) else (if K k = 0 then (-6) else O k)
def pn_fact (K Y P S O : Nat → Int32) (n : Nat) (i wh : Int32) : Int32 := if i < 0 ∨ nI n ≤ i then (-6) else pn_factN K Y P S O i.toNatClampNeg wh
theorem pn_fact_in {K Y P S O : Nat → Int32} {n k : Nat} {wh : Int32} (hk : k < n) (hn : n < 2 ^ 31) : pn_fact K Y P S O n (nI k) wh = pn_factN K Y P S O k wh := by
  unfold pn_fact
  rw [if_neg (by rintro (h | h); exact nI_pos (by omega) h; exact nI_ge hk hn h), nI_clamp (by omega)]
theorem pn_ofI {x : Int32} {n : Nat} (h0 : ¬ x < 0) (h : x < nI n) (hn : n < 2 ^ 31) : ∃ k : Nat, k < n ∧ x = nI k := by
  obtain ⟨j, hj, rfl⟩ := nI_of h0
  exact ⟨j, (nI_ltI hj hn).mp h, rfl⟩
theorem pn_ofJ {x : Int32} {n : Nat} (h0 : ¬ x < 0) (h : ¬ nI n ≤ x) (hn : n < 2 ^ 31) : ∃ k : Nat, k < n ∧ x = nI k := pn_ofI h0 (Int32.not_le.mp h) hn
theorem pn_ofK {x : Int32} {n : Nat} (h0 : ¬ x < 0) (h : ¬ nI n < x) (hn : n < 2 ^ 31) : ∃ k : Nat, k ≤ n ∧ x = nI k := by
  obtain ⟨j, hj, rfl⟩ := nI_of h0
  exact ⟨j, Nat.le_of_not_lt (fun q => h ((nI_ltI hn hj).mpr q)), rfl⟩
theorem pn_outI {x : Int32} {lo hi : Nat} (h : x.toInt < (lo : Int) ∨ (hi : Int) < x.toInt) {k : Nat} (h1 : lo ≤ k) (h2 : k ≤ hi) (h3 : hi < 2 ^ 31) : ¬ x = nI k := by
  intro e
  rw [e, nI_toInt (by omega)] at h
  omega
def pn_sit0 (pa : Int32) : Int32 := if pa = 0 then nI 4095 else nI 0
def pn_nam0 (pa : Int32) : Int64 := if pa = 0 then pn_wl 0 0 (nI 97) else 0
def pn_sitT (P S O : Nat → Int32) (i : Nat) (pa hd : Int32) : Int32 := if P i = pa then (hd &&& (S i ^^^ (-1))) else if O i = pa then (hd ||| S i) else hd
def pn_namT (K P O : Nat → Int32) (N : Nat → Int64) (i : Nat) (pa : Int32) (nm : Int64) : Int64 := if K i = 0 ∧ P i = pa then N i else if K i = nI 1 ∧ O i = pa then N i else nm
def pn_sit (P S O : Nat → Int32) (pa : Int32) : Nat → Int32
  | 0 => pn_sit0 pa
  | k + 1 => pn_sitT P S O k pa (pn_sit P S O pa k)
def pn_nam (K P O : Nat → Int32) (N : Nat → Int64) (pa : Int32) : Nat → Int64
  | 0 => pn_nam0 pa
  | k + 1 => pn_namT K P O N k pa (pn_nam K P O N pa k)
def pn_bit (x : Int32) (k : Nat) : Int32 := ((x.toUInt32 >>> ((nI k).toUInt32 &&& Int32.toUInt32 31)).toInt32 &&& nI 1)
def pn_own (S O : Nat → Int32) (t : Nat) : Nat → Int32
  | 0 => nI 0
  | k + 1 => if ¬ pn_bit (S k) t = 0 then O k else pn_own S O t k
def pn_nin (K Y P S O : Nat → Int32) (N : Nat → Int64) (n : Nat) (pa yr : Int32) : Int64 := if pn_sit P S O pa (pn_st Y yr n) = 0 then 0 else pn_nam K P O N pa (pn_st Y yr n)
noncomputable def pn_cnt (P : Nat → Prop) : Nat → Nat
  | 0 => 0
  | n + 1 => @ite Nat (P n) (Classical.propDecidable _) (pn_cnt P n + 1) (pn_cnt P n)
theorem pn_cnt_le (P : Nat → Prop) (n : Nat) : pn_cnt P n ≤ n := by
  induction n with
  | zero => exact Nat.le_refl _
  | succ n ih => unfold pn_cnt; split <;> omega
def pn_nol (K P S O : Nat → Int32) (N : Nat → Int64) (n b : Nat) : Prop := ∃ i, i < b ∧ ¬ pn_sit P S O (nI i) n = 0 ∧ pn_nam K P O N (nI i) n = pn_nam K P O N (nI b) n
end
section
theorem ih_X0_eventCount_X0 : ∀ w ∈ wsX00, w ∈ wsX0_eventCount := by decide +kernel
set_option maxHeartbeats 4000000 in
set_option maxRecDepth 100000 in
theorem c_X0_eventCount (l : Launch) (D : va_G) (cI cL cZ cO : ClassId) (h0 q1 q2 q3 q4 q5 q6 : Nat) (K Y P S O : Nat → Int32) (N : Nat → Int64) (n F : Nat) : Met l yX0_eventCount wsX0_eventCount ({ frames := 0, cells := 0, slots := 0, locals := 0 }) (va_Pc [.ref h0] (pn_Pr D cI cL cZ cO [(h0, .inr (0, [.ref q1, .ref q2, .ref q3, .ref q4, .ref q5, .ref q6, .int (nI n), .int (nI F)])), (q1, .inl (cI, 30, .inl K)), (q2, .inl (cI, 30, .inl Y)), (q3, .inl (cI, 30, .inl P)), (q4, .inl (cI, 30, .inl S)), (q5, .inl (cI, 30, .inl O)), (q6, .inl (cL, 30, .inr (.inl N)))])) (va_Qi (fun r (_ : Unit) => r = (nI n)) (fun _ _ => True) pn_No) 0 0 pn_No := by
  refine pn_mk (by decide) rfl (Nat.le_of_ble_eq_true rfl) ?_
  intro p e s m below meth c ls hx hb hr hml hown hts hlocks hK hP hl
  have hown : s.vm.findClass RX0 = some m.cls := hown
  have hS : va_S pn_No s.heap s.heap [] := va_S.rf
  have hl : lv_has ls 1 [(0, .ref h0)] := hl
  refine lv_aload_n hx hb dX0_eventCount_0 rfl (lv_at hl 0 rfl) ?_
  refine va_get (D := D) (ci := 0) (v := .int (nI n)) (C := RX0) (T := TX0) (N := 8) hx hb hts ih_X0_eventCount_X0 hown hK.1 hP 0 rfl rfl 6 (by decide) (hts (.fieldLink RX0 31 "ParishNames$Chronicle" "told" "I") (by decide +kernel)) (fun _ h9 => h9) rfl dX0_eventCount_1 ?_
  exact W.iret hx hb hr (fun t ht hW => ⟨⟨_, (), rfl, rfl, trivial⟩, hS.F ht⟩) hS.2.2 dX0_eventCount_4 hlocks

theorem ih_X0_parishCount_X0 : ∀ w ∈ wsX00, w ∈ wsX0_parishCount := by decide +kernel
set_option maxHeartbeats 4000000 in
set_option maxRecDepth 100000 in
theorem c_X0_parishCount (l : Launch) (D : va_G) (cI cL cZ cO : ClassId) (h0 q1 q2 q3 q4 q5 q6 : Nat) (K Y P S O : Nat → Int32) (N : Nat → Int64) (n F : Nat) : Met l yX0_parishCount wsX0_parishCount ({ frames := 0, cells := 0, slots := 0, locals := 0 }) (va_Pc [.ref h0] (pn_Pr D cI cL cZ cO [(h0, .inr (0, [.ref q1, .ref q2, .ref q3, .ref q4, .ref q5, .ref q6, .int (nI n), .int (nI F)])), (q1, .inl (cI, 30, .inl K)), (q2, .inl (cI, 30, .inl Y)), (q3, .inl (cI, 30, .inl P)), (q4, .inl (cI, 30, .inl S)), (q5, .inl (cI, 30, .inl O)), (q6, .inl (cL, 30, .inr (.inl N)))])) (va_Qi (fun r (_ : Unit) => r = (nI F)) (fun _ _ => True) pn_No) 0 0 pn_No := by
  refine pn_mk (by decide) rfl (Nat.le_of_ble_eq_true rfl) ?_
  intro p e s m below meth c ls hx hb hr hml hown hts hlocks hK hP hl
  have hown : s.vm.findClass RX0 = some m.cls := hown
  have hS : va_S pn_No s.heap s.heap [] := va_S.rf
  have hl : lv_has ls 1 [(0, .ref h0)] := hl
  refine lv_aload_n hx hb dX0_parishCount_0 rfl (lv_at hl 0 rfl) ?_
  refine va_get (D := D) (ci := 0) (v := .int (nI F)) (C := RX0) (T := TX0) (N := 8) hx hb hts ih_X0_parishCount_X0 hown hK.1 hP 0 rfl rfl 7 (by decide) (hts (.fieldLink RX0 35 "ParishNames$Chronicle" "founded" "I") (by decide +kernel)) (fun _ h9 => h9) rfl dX0_parishCount_1 ?_
  exact W.iret hx hb hr (fun t ht hW => ⟨⟨_, (), rfl, rfl, trivial⟩, hS.F ht⟩) hS.2.2 dX0_parishCount_4 hlocks

theorem ih_X0_lastEvent_X0 : ∀ w ∈ wsX00, w ∈ wsX0_lastEvent := by decide +kernel
set_option maxHeartbeats 4000000 in
set_option maxRecDepth 100000 in
theorem c_X0_lastEvent (l : Launch) (D : va_G) (cI cL cZ cO : ClassId) (h0 q1 q2 q3 q4 q5 q6 : Nat) (K Y P S O : Nat → Int32) (N : Nat → Int64) (n F : Nat) : Met l yX0_lastEvent wsX0_lastEvent ({ frames := 0, cells := 0, slots := 0, locals := 0 }) (va_Pc [.ref h0] (pn_Pr D cI cL cZ cO [(h0, .inr (0, [.ref q1, .ref q2, .ref q3, .ref q4, .ref q5, .ref q6, .int (nI n), .int (nI F)])), (q1, .inl (cI, 30, .inl K)), (q2, .inl (cI, 30, .inl Y)), (q3, .inl (cI, 30, .inl P)), (q4, .inl (cI, 30, .inl S)), (q5, .inl (cI, 30, .inl O)), (q6, .inl (cL, 30, .inr (.inl N)))])) (va_Qi (fun r (_ : Unit) => r = (nI n - nI 1)) (fun _ _ => True) pn_No) 0 0 pn_No := by
  refine pn_mk (by decide) rfl (Nat.le_of_ble_eq_true rfl) ?_
  intro p e s m below meth c ls hx hb hr hml hown hts hlocks hK hP hl
  have hown : s.vm.findClass RX0 = some m.cls := hown
  have hS : va_S pn_No s.heap s.heap [] := va_S.rf
  have hl : lv_has ls 1 [(0, .ref h0)] := hl
  refine lv_aload_n hx hb dX0_lastEvent_0 rfl (lv_at hl 0 rfl) ?_
  refine va_get (D := D) (ci := 0) (v := .int (nI n)) (C := RX0) (T := TX0) (N := 8) hx hb hts ih_X0_lastEvent_X0 hown hK.1 hP 0 rfl rfl 6 (by decide) (hts (.fieldLink RX0 31 "ParishNames$Chronicle" "told" "I") (by decide +kernel)) (fun _ h9 => h9) rfl dX0_lastEvent_1 ?_
  refine lv_iconst (v := (nI 1)) hx hb dX0_lastEvent_4 (by decide) ?_
  refine lv_isub hx hb dX0_lastEvent_5 ?_
  exact W.iret hx hb hr (fun t ht hW => ⟨⟨_, (), rfl, rfl, trivial⟩, hS.F ht⟩) hS.2.2 dX0_lastEvent_6 hlocks

theorem ih_X0_isFull_X0 : ∀ w ∈ wsX00, w ∈ wsX0_isFull := by decide +kernel
set_option maxHeartbeats 4000000 in
set_option maxRecDepth 100000 in
theorem c_X0_isFull (l : Launch) (D : va_G) (cI cL cZ cO : ClassId) (h0 q1 q2 q3 q4 q5 q6 : Nat) (K Y P S O : Nat → Int32) (N : Nat → Int64) (n F : Nat) (hn : n ≤ 30) : Met l yX0_isFull wsX0_isFull ({ frames := 0, cells := 0, slots := 0, locals := 0 }) (va_Pc [.ref h0] (pn_Pr D cI cL cZ cO [(h0, .inr (0, [.ref q1, .ref q2, .ref q3, .ref q4, .ref q5, .ref q6, .int (nI n), .int (nI F)])), (q1, .inl (cI, 30, .inl K)), (q2, .inl (cI, 30, .inl Y)), (q3, .inl (cI, 30, .inl P)), (q4, .inl (cI, 30, .inl S)), (q5, .inl (cI, 30, .inl O)), (q6, .inl (cL, 30, .inr (.inl N)))])) (va_Qi (fun r (_ : Unit) => r = (pn_b (30 ≤ n))) (fun _ _ => True) pn_No) 0 0 pn_No := by
  refine pn_mk (by decide) rfl (Nat.le_of_ble_eq_true rfl) ?_
  intro p e s m below meth c ls hx hb hr hml hown hts hlocks hK hP hl
  have hown : s.vm.findClass RX0 = some m.cls := hown
  have hS : va_S pn_No s.heap s.heap [] := va_S.rf
  have hl : lv_has ls 1 [(0, .ref h0)] := hl
  refine lv_aload_n hx hb dX0_isFull_0 rfl (lv_at hl 0 rfl) ?_
  refine va_get (D := D) (ci := 0) (v := .int (nI n)) (C := RX0) (T := TX0) (N := 8) hx hb hts ih_X0_isFull_X0 hown hK.1 hP 0 rfl rfl 6 (by decide) (hts (.fieldLink RX0 31 "ParishNames$Chronicle" "told" "I") (by decide +kernel)) (fun _ h9 => h9) rfl dX0_isFull_1 ?_
  refine lv_bipush (v := (nI 30)) hx hb dX0_isFull_4 (by decide) ?_
  refine lv_icmp_lt (tgt := 13) hx hb dX0_isFull_6 (by decide) (fun c_1 => ?_) (fun c_1 => ?_)
  · have c_1 : n < 30 := (pn_lt (by omega) (by omega)).mp (show nI n < nI 30 from c_1)
    refine lv_iconst (v := (nI 0)) hx hb dX0_isFull_13 (by decide) ?_
    exact W.zret hx hb hr (by decide) (fun t ht hW => ⟨⟨_, (), rfl, (by first | exact pn_bt (by assumption) | exact pn_bf (by assumption)), trivial⟩, hS.F ht⟩) hS.2.2 dX0_isFull_14 hlocks
  · have c_1 : ¬ n < 30 := fun h => (show ¬ nI n < nI 30 from c_1) ((pn_lt (by omega) (by omega)).mpr h)
    refine lv_iconst (v := (nI 1)) hx hb dX0_isFull_9 (by decide) ?_
    refine lv_goto (tgt := 14) hx hb dX0_isFull_10 (by decide) ?_
    exact W.zret hx hb hr (by decide) (fun t ht hW => ⟨⟨_, (), rfl, (by first | exact pn_bt (by assumption) | exact pn_bf (by assumption)), trivial⟩, hS.F ht⟩) hS.2.2 dX0_isFull_14 hlocks

theorem ih_X0_knows_X0 : ∀ w ∈ wsX00, w ∈ wsX0_knows := by decide +kernel
set_option maxHeartbeats 4000000 in
set_option maxRecDepth 100000 in
theorem c_X0_knows (l : Launch) (D : va_G) (cI cL cZ cO : ClassId) (h0 q1 q2 q3 q4 q5 q6 : Nat) (K Y P S O : Nat → Int32) (N : Nat → Int64) (n F : Nat) (pa : Int32) : Met l yX0_knows wsX0_knows ({ frames := 0, cells := 0, slots := 0, locals := 0 }) (va_Pc [.ref h0, .int pa] (pn_Pr D cI cL cZ cO [(h0, .inr (0, [.ref q1, .ref q2, .ref q3, .ref q4, .ref q5, .ref q6, .int (nI n), .int (nI F)])), (q1, .inl (cI, 30, .inl K)), (q2, .inl (cI, 30, .inl Y)), (q3, .inl (cI, 30, .inl P)), (q4, .inl (cI, 30, .inl S)), (q5, .inl (cI, 30, .inl O)), (q6, .inl (cL, 30, .inr (.inl N)))])) (va_Qi (fun r (_ : Unit) => r = (pn_b (¬ pa < 0 ∧ ¬ nI F ≤ pa))) (fun _ _ => True) pn_No) 0 0 pn_No := by
  refine pn_mk (by decide) rfl (Nat.le_of_ble_eq_true rfl) ?_
  intro p e s m below meth c ls hx hb hr hml hown hts hlocks hK hP hl
  have hown : s.vm.findClass RX0 = some m.cls := hown
  have hS : va_S pn_No s.heap s.heap [] := va_S.rf
  have hl : lv_has ls 2 [(0, .ref h0), (1, .int pa)] := hl
  refine lv_iload_n hx hb dX0_knows_0 rfl (lv_at hl 1 rfl) ?_
  refine lv_if_lt (tgt := 16) hx hb dX0_knows_1 (by decide) (fun c_1 => ?_) (fun c_1 => ?_)
  · refine lv_iconst (v := (nI 0)) hx hb dX0_knows_16 (by decide) ?_
    exact W.zret hx hb hr (by decide) (fun t ht hW => ⟨⟨_, (), rfl, (by first | exact pn_bt ⟨by assumption, by assumption⟩ | exact pn_bf (fun h => by first | exact h.1 (by assumption) | exact h.2 (by assumption))), trivial⟩, hS.F ht⟩) hS.2.2 dX0_knows_17 hlocks
  · refine lv_iload_n hx hb dX0_knows_4 rfl (lv_at hl 1 rfl) ?_
    refine lv_aload_n hx hb dX0_knows_5 rfl (lv_at hl 0 rfl) ?_
    refine va_get (D := D) (ci := 0) (v := .int (nI F)) (C := RX0) (T := TX0) (N := 8) hx hb hts ih_X0_knows_X0 hown hK.1 hP 0 rfl rfl 7 (by decide) (hts (.fieldLink RX0 35 "ParishNames$Chronicle" "founded" "I") (by decide +kernel)) (fun _ h9 => h9) rfl dX0_knows_6 ?_
    refine lv_icmp_ge (tgt := 16) hx hb dX0_knows_9 (by decide) (fun c_2 => ?_) (fun c_2 => ?_)
    · refine lv_iconst (v := (nI 0)) hx hb dX0_knows_16 (by decide) ?_
      exact W.zret hx hb hr (by decide) (fun t ht hW => ⟨⟨_, (), rfl, (by first | exact pn_bt ⟨by assumption, by assumption⟩ | exact pn_bf (fun h => by first | exact h.1 (by assumption) | exact h.2 (by assumption))), trivial⟩, hS.F ht⟩) hS.2.2 dX0_knows_17 hlocks
    · refine lv_iconst (v := (nI 1)) hx hb dX0_knows_12 (by decide) ?_
      refine lv_goto (tgt := 17) hx hb dX0_knows_13 (by decide) ?_
      exact W.zret hx hb hr (by decide) (fun t ht hW => ⟨⟨_, (), rfl, (by first | exact pn_bt ⟨by assumption, by assumption⟩ | exact pn_bf (fun h => by first | exact h.1 (by assumption) | exact h.2 (by assumption))), trivial⟩, hS.F ht⟩) hS.2.2 dX0_knows_17 hlocks

theorem ih_X0_yearOfLast_X0 : ∀ w ∈ wsX00, w ∈ wsX0_yearOfLast := by decide +kernel
set_option maxHeartbeats 4000000 in
set_option maxRecDepth 100000 in
theorem c_X0_yearOfLast (l : Launch) (D : va_G) (cI cL cZ cO : ClassId) (h0 q1 q2 q3 q4 q5 q6 : Nat) (K Y P S O : Nat → Int32) (N : Nat → Int64) (n F : Nat) (hn : n ≤ 30) : Met l yX0_yearOfLast wsX0_yearOfLast ({ frames := 0, cells := 0, slots := 0, locals := 0 }) (va_Pc [.ref h0] (pn_Pr D cI cL cZ cO [(h0, .inr (0, [.ref q1, .ref q2, .ref q3, .ref q4, .ref q5, .ref q6, .int (nI n), .int (nI F)])), (q1, .inl (cI, 30, .inl K)), (q2, .inl (cI, 30, .inl Y)), (q3, .inl (cI, 30, .inl P)), (q4, .inl (cI, 30, .inl S)), (q5, .inl (cI, 30, .inl O)), (q6, .inl (cL, 30, .inr (.inl N)))])) (va_Qi (fun r (_ : Unit) => r = (if n = 0 then nI 0 else Y (n - 1))) (fun _ _ => True) pn_No) 0 0 pn_No := by
  refine pn_mk (by decide) rfl (Nat.le_of_ble_eq_true rfl) ?_
  intro p e s m below meth c ls hx hb hr hml hown hts hlocks hK hP hl
  have hown : s.vm.findClass RX0 = some m.cls := hown
  have hS : va_S pn_No s.heap s.heap [] := va_S.rf
  have hl : lv_has ls 1 [(0, .ref h0)] := hl
  refine lv_aload_n hx hb dX0_yearOfLast_0 rfl (lv_at hl 0 rfl) ?_
  refine va_get (D := D) (ci := 0) (v := .int (nI n)) (C := RX0) (T := TX0) (N := 8) hx hb hts ih_X0_yearOfLast_X0 hown hK.1 hP 0 rfl rfl 6 (by decide) (hts (.fieldLink RX0 31 "ParishNames$Chronicle" "told" "I") (by decide +kernel)) (fun _ h9 => h9) rfl dX0_yearOfLast_1 ?_
  refine lv_if_ne (tgt := 11) hx hb dX0_yearOfLast_4 (by decide) (fun c_1 => ?_) (fun c_1 => ?_)
  · have c_1 : ¬ n = 0 := fun h => (show ¬ nI n = nI 0 from c_1) ((pn_eq (by omega) (by omega)).mpr h)
    refine lv_aload_n hx hb dX0_yearOfLast_11 rfl (lv_at hl 0 rfl) ?_
    refine va_get (D := D) (ci := 0) (v := .ref q2) (C := RX0) (T := TX0) (N := 8) hx hb hts ih_X0_yearOfLast_X0 hown hK.1 hP 0 rfl rfl 1 (by decide) (hts (.fieldLink RX0 15 "ParishNames$Chronicle" "years" "[I") (by decide +kernel)) (fun _ h9 => h9) rfl dX0_yearOfLast_12 ?_
    refine lv_aload_n hx hb dX0_yearOfLast_15 rfl (lv_at hl 0 rfl) ?_
    refine va_get (D := D) (ci := 0) (v := .int (nI n)) (C := RX0) (T := TX0) (N := 8) hx hb hts ih_X0_yearOfLast_X0 hown hK.1 hP 0 rfl rfl 6 (by decide) (hts (.fieldLink RX0 31 "ParishNames$Chronicle" "told" "I") (by decide +kernel)) (fun _ h9 => h9) rfl dX0_yearOfLast_16 ?_
    refine lv_iconst (v := (nI 1)) hx hb dX0_yearOfLast_19 (by decide) ?_
    refine pn_isub hx hb (by omega) dX0_yearOfLast_20 ?_
    refine pn_iald hx hb hK.1 hP 2 0 rfl rfl (i := (n - 1)) (by omega) (Nat.le_of_ble_eq_true rfl) dX0_yearOfLast_21 ?_
    exact W.iret hx hb hr (fun t ht hW => ⟨⟨_, (), rfl, (by split <;> first | rfl | contradiction), trivial⟩, hS.F ht⟩) hS.2.2 dX0_yearOfLast_22 hlocks
  · have c_1 : n = 0 := (pn_eq (by omega) (by omega)).mp (show nI n = nI 0 from c_1)
    refine lv_iconst (v := (nI 0)) hx hb dX0_yearOfLast_7 (by decide) ?_
    refine lv_goto (tgt := 22) hx hb dX0_yearOfLast_8 (by decide) ?_
    exact W.iret hx hb hr (fun t ht hW => ⟨⟨_, (), rfl, (by split <;> first | rfl | contradiction), trivial⟩, hS.F ht⟩) hS.2.2 dX0_yearOfLast_22 hlocks

theorem ih_X0_factOf_X0 : ∀ w ∈ wsX00, w ∈ wsX0_factOf := by decide +kernel
set_option maxHeartbeats 4000000 in
set_option maxRecDepth 100000 in
theorem c_X0_factOf (l : Launch) (D : va_G) (cI cL cZ cO : ClassId) (h0 q1 q2 q3 q4 q5 q6 : Nat) (K Y P S O : Nat → Int32) (N : Nat → Int64) (n F : Nat) (i : Int32) (wh : Int32) (hn : n ≤ 30) : Met l yX0_factOf wsX0_factOf ({ frames := 0, cells := 0, slots := 0, locals := 0 }) (va_Pc [.ref h0, .int i, .int wh] (pn_Pr D cI cL cZ cO [(h0, .inr (0, [.ref q1, .ref q2, .ref q3, .ref q4, .ref q5, .ref q6, .int (nI n), .int (nI F)])), (q1, .inl (cI, 30, .inl K)), (q2, .inl (cI, 30, .inl Y)), (q3, .inl (cI, 30, .inl P)), (q4, .inl (cI, 30, .inl S)), (q5, .inl (cI, 30, .inl O)), (q6, .inl (cL, 30, .inr (.inl N)))])) (va_Qi (fun r (_ : Unit) => r = (pn_fact K Y P S O n i wh)) (fun _ _ => True) pn_No) 0 0 pn_No := by
  refine pn_mk (by decide) rfl (Nat.le_of_ble_eq_true rfl) ?_
  intro p e s m below meth c ls hx hb hr hml hown hts hlocks hK hP hl
  have hown : s.vm.findClass RX0 = some m.cls := hown
  have hS : va_S pn_No s.heap s.heap [] := va_S.rf
  have hl : lv_has ls 3 [(0, .ref h0), (1, .int i), (2, .int wh)] := hl
  refine lv_iload_n hx hb dX0_factOf_0 rfl (lv_at hl 1 rfl) ?_
  refine lv_if_lt (tgt := 12) hx hb dX0_factOf_1 (by decide) (fun c_1 => ?_) (fun c_1 => ?_)
  · refine lv_bipush (v := (-6)) hx hb dX0_factOf_12 (by decide) ?_
    exact W.iret hx hb hr (fun t ht hW => ⟨⟨_, (), rfl, (by unfold pn_fact; first | exact (if_pos (Or.inl (by assumption))).symm | exact (if_pos (Or.inr (Int32.not_lt.mp (by assumption)))).symm), trivial⟩, hS.F ht⟩) hS.2.2 dX0_factOf_14 hlocks
  · refine lv_iload_n hx hb dX0_factOf_4 rfl (lv_at hl 1 rfl) ?_
    refine lv_aload_n hx hb dX0_factOf_5 rfl (lv_at hl 0 rfl) ?_
    refine va_get (D := D) (ci := 0) (v := .int (nI n)) (C := RX0) (T := TX0) (N := 8) hx hb hts ih_X0_factOf_X0 hown hK.1 hP 0 rfl rfl 6 (by decide) (hts (.fieldLink RX0 31 "ParishNames$Chronicle" "told" "I") (by decide +kernel)) (fun _ h9 => h9) rfl dX0_factOf_6 ?_
    refine lv_icmp_lt (tgt := 15) hx hb dX0_factOf_9 (by decide) (fun c_2 => ?_) (fun c_2 => ?_)
    · obtain ⟨k, hk, rfl⟩ := pn_ofI (by assumption) c_2 (by omega)
      refine lv_iload_n hx hb dX0_factOf_15 rfl (lv_at hl 2 rfl) ?_
      rcases pn_sw wh (lo := 0) (hi := 3) with c_3 | c_3
      · refine lv_tableOut (tgt := 90) hx hb dX0_factOf_16 c_3 (by decide) ?_
        refine lv_aload_n hx hb dX0_factOf_90 rfl (lv_at hl 0 rfl) ?_
        refine va_get (D := D) (ci := 0) (v := .ref q1) (C := RX0) (T := TX0) (N := 8) hx hb hts ih_X0_factOf_X0 hown hK.1 hP 0 rfl rfl 0 (by decide) (hts (.fieldLink RX0 9 "ParishNames$Chronicle" "kinds" "[I") (by decide +kernel)) (fun _ h9 => h9) rfl dX0_factOf_91 ?_
        refine lv_iload_n hx hb dX0_factOf_94 rfl (lv_at hl 1 rfl) ?_
        refine pn_iald hx hb hK.1 hP 1 0 rfl rfl (i := k) (by omega) (Nat.le_of_ble_eq_true rfl) dX0_factOf_95 ?_
        refine lv_if_ne (tgt := 104) hx hb dX0_factOf_96 (by decide) (fun c_4 => ?_) (fun c_4 => ?_)
        · refine lv_aload_n hx hb dX0_factOf_104 rfl (lv_at hl 0 rfl) ?_
          refine va_get (D := D) (ci := 0) (v := .ref q5) (C := RX0) (T := TX0) (N := 8) hx hb hts ih_X0_factOf_X0 hown hK.1 hP 0 rfl rfl 4 (by decide) (hts (.fieldLink RX0 24 "ParishNames$Chronicle" "owners" "[I") (by decide +kernel)) (fun _ h9 => h9) rfl dX0_factOf_105 ?_
          refine lv_iload_n hx hb dX0_factOf_108 rfl (lv_at hl 1 rfl) ?_
          refine pn_iald hx hb hK.1 hP 5 0 rfl rfl (i := k) (by omega) (Nat.le_of_ble_eq_true rfl) dX0_factOf_109 ?_
          exact W.iret hx hb hr (fun t ht hW => ⟨⟨_, (), rfl, (by rw [pn_fact_in hk (by omega)]; unfold pn_factN; (repeat' split) <;> first | rfl | contradiction | (exfalso; exact pn_outI (by assumption) (k := 0) (by omega) (by omega) (by omega) (by assumption)) | (exfalso; exact pn_outI (by assumption) (k := 1) (by omega) (by omega) (by omega) (by assumption)) | (exfalso; exact pn_outI (by assumption) (k := 2) (by omega) (by omega) (by omega) (by assumption)) | (exfalso; exact pn_outI (by assumption) (k := 3) (by omega) (by omega) (by omega) (by assumption)) | grind), trivial⟩, hS.F ht⟩) hS.2.2 dX0_factOf_110 hlocks
        · refine lv_bipush (v := (-6)) hx hb dX0_factOf_99 (by decide) ?_
          refine lv_goto (tgt := 110) hx hb dX0_factOf_101 (by decide) ?_
          exact W.iret hx hb hr (fun t ht hW => ⟨⟨_, (), rfl, (by rw [pn_fact_in hk (by omega)]; unfold pn_factN; (repeat' split) <;> first | rfl | contradiction | (exfalso; exact pn_outI (by assumption) (k := 0) (by omega) (by omega) (by omega) (by assumption)) | (exfalso; exact pn_outI (by assumption) (k := 1) (by omega) (by omega) (by omega) (by assumption)) | (exfalso; exact pn_outI (by assumption) (k := 2) (by omega) (by omega) (by omega) (by assumption)) | (exfalso; exact pn_outI (by assumption) (k := 3) (by omega) (by omega) (by omega) (by assumption)) | grind), trivial⟩, hS.F ht⟩) hS.2.2 dX0_factOf_110 hlocks
      · obtain ⟨k_3, hk_3, c_3⟩ := c_3
        have hk_3 : k_3 = 0 ∨ k_3 = 1 ∨ k_3 = 2 ∨ k_3 = 3 := by omega
        rcases hk_3 with rfl | rfl | rfl | rfl
        · refine lv_tableIn (tgt := 48) hx hb dX0_factOf_16 (by rw [c_3]; decide) (by rw [c_3]; decide) (by rw [c_3]; rfl) (by decide) ?_
          have c_3 : wh = 0 := pn_swe c_3 (by decide)
          refine lv_aload_n hx hb dX0_factOf_48 rfl (lv_at hl 0 rfl) ?_
          refine va_get (D := D) (ci := 0) (v := .ref q1) (C := RX0) (T := TX0) (N := 8) hx hb hts ih_X0_factOf_X0 hown hK.1 hP 0 rfl rfl 0 (by decide) (hts (.fieldLink RX0 9 "ParishNames$Chronicle" "kinds" "[I") (by decide +kernel)) (fun _ h9 => h9) rfl dX0_factOf_49 ?_
          refine lv_iload_n hx hb dX0_factOf_52 rfl (lv_at hl 1 rfl) ?_
          refine pn_iald hx hb hK.1 hP 1 0 rfl rfl (i := k) (by omega) (Nat.le_of_ble_eq_true rfl) dX0_factOf_53 ?_
          exact W.iret hx hb hr (fun t ht hW => ⟨⟨_, (), rfl, (by rw [pn_fact_in hk (by omega)]; unfold pn_factN; (repeat' split) <;> first | rfl | contradiction | (exfalso; exact pn_outI (by assumption) (k := 0) (by omega) (by omega) (by omega) (by assumption)) | (exfalso; exact pn_outI (by assumption) (k := 1) (by omega) (by omega) (by omega) (by assumption)) | (exfalso; exact pn_outI (by assumption) (k := 2) (by omega) (by omega) (by omega) (by assumption)) | (exfalso; exact pn_outI (by assumption) (k := 3) (by omega) (by omega) (by omega) (by assumption)) | grind), trivial⟩, hS.F ht⟩) hS.2.2 dX0_factOf_54 hlocks
        · refine lv_tableIn (tgt := 55) hx hb dX0_factOf_16 (by rw [c_3]; decide) (by rw [c_3]; decide) (by rw [c_3]; rfl) (by decide) ?_
          have c_3 : wh = 1 := pn_swe c_3 (by decide)
          refine lv_aload_n hx hb dX0_factOf_55 rfl (lv_at hl 0 rfl) ?_
          refine va_get (D := D) (ci := 0) (v := .ref q2) (C := RX0) (T := TX0) (N := 8) hx hb hts ih_X0_factOf_X0 hown hK.1 hP 0 rfl rfl 1 (by decide) (hts (.fieldLink RX0 15 "ParishNames$Chronicle" "years" "[I") (by decide +kernel)) (fun _ h9 => h9) rfl dX0_factOf_56 ?_
          refine lv_iload_n hx hb dX0_factOf_59 rfl (lv_at hl 1 rfl) ?_
          refine pn_iald hx hb hK.1 hP 2 0 rfl rfl (i := k) (by omega) (Nat.le_of_ble_eq_true rfl) dX0_factOf_60 ?_
          exact W.iret hx hb hr (fun t ht hW => ⟨⟨_, (), rfl, (by rw [pn_fact_in hk (by omega)]; unfold pn_factN; (repeat' split) <;> first | rfl | contradiction | (exfalso; exact pn_outI (by assumption) (k := 0) (by omega) (by omega) (by omega) (by assumption)) | (exfalso; exact pn_outI (by assumption) (k := 1) (by omega) (by omega) (by omega) (by assumption)) | (exfalso; exact pn_outI (by assumption) (k := 2) (by omega) (by omega) (by omega) (by assumption)) | (exfalso; exact pn_outI (by assumption) (k := 3) (by omega) (by omega) (by omega) (by assumption)) | grind), trivial⟩, hS.F ht⟩) hS.2.2 dX0_factOf_61 hlocks
        · refine lv_tableIn (tgt := 62) hx hb dX0_factOf_16 (by rw [c_3]; decide) (by rw [c_3]; decide) (by rw [c_3]; rfl) (by decide) ?_
          have c_3 : wh = 2 := pn_swe c_3 (by decide)
          refine lv_aload_n hx hb dX0_factOf_62 rfl (lv_at hl 0 rfl) ?_
          refine va_get (D := D) (ci := 0) (v := .ref q3) (C := RX0) (T := TX0) (N := 8) hx hb hts ih_X0_factOf_X0 hown hK.1 hP 0 rfl rfl 2 (by decide) (hts (.fieldLink RX0 18 "ParishNames$Chronicle" "parishes" "[I") (by decide +kernel)) (fun _ h9 => h9) rfl dX0_factOf_63 ?_
          refine lv_iload_n hx hb dX0_factOf_66 rfl (lv_at hl 1 rfl) ?_
          refine pn_iald hx hb hK.1 hP 3 0 rfl rfl (i := k) (by omega) (Nat.le_of_ble_eq_true rfl) dX0_factOf_67 ?_
          exact W.iret hx hb hr (fun t ht hW => ⟨⟨_, (), rfl, (by rw [pn_fact_in hk (by omega)]; unfold pn_factN; (repeat' split) <;> first | rfl | contradiction | (exfalso; exact pn_outI (by assumption) (k := 0) (by omega) (by omega) (by omega) (by assumption)) | (exfalso; exact pn_outI (by assumption) (k := 1) (by omega) (by omega) (by omega) (by assumption)) | (exfalso; exact pn_outI (by assumption) (k := 2) (by omega) (by omega) (by omega) (by assumption)) | (exfalso; exact pn_outI (by assumption) (k := 3) (by omega) (by omega) (by omega) (by assumption)) | grind), trivial⟩, hS.F ht⟩) hS.2.2 dX0_factOf_68 hlocks
        · refine lv_tableIn (tgt := 69) hx hb dX0_factOf_16 (by rw [c_3]; decide) (by rw [c_3]; decide) (by rw [c_3]; rfl) (by decide) ?_
          have c_3 : wh = 3 := pn_swe c_3 (by decide)
          refine lv_aload_n hx hb dX0_factOf_69 rfl (lv_at hl 0 rfl) ?_
          refine va_get (D := D) (ci := 0) (v := .ref q1) (C := RX0) (T := TX0) (N := 8) hx hb hts ih_X0_factOf_X0 hown hK.1 hP 0 rfl rfl 0 (by decide) (hts (.fieldLink RX0 9 "ParishNames$Chronicle" "kinds" "[I") (by decide +kernel)) (fun _ h9 => h9) rfl dX0_factOf_70 ?_
          refine lv_iload_n hx hb dX0_factOf_73 rfl (lv_at hl 1 rfl) ?_
          refine pn_iald hx hb hK.1 hP 1 0 rfl rfl (i := k) (by omega) (Nat.le_of_ble_eq_true rfl) dX0_factOf_74 ?_
          refine lv_if_ne (tgt := 83) hx hb dX0_factOf_75 (by decide) (fun c_5 => ?_) (fun c_5 => ?_)
          · refine lv_aload_n hx hb dX0_factOf_83 rfl (lv_at hl 0 rfl) ?_
            refine va_get (D := D) (ci := 0) (v := .ref q4) (C := RX0) (T := TX0) (N := 8) hx hb hts ih_X0_factOf_X0 hown hK.1 hP 0 rfl rfl 3 (by decide) (hts (.fieldLink RX0 21 "ParishNames$Chronicle" "sets" "[I") (by decide +kernel)) (fun _ h9 => h9) rfl dX0_factOf_84 ?_
            refine lv_iload_n hx hb dX0_factOf_87 rfl (lv_at hl 1 rfl) ?_
            refine pn_iald hx hb hK.1 hP 4 0 rfl rfl (i := k) (by omega) (Nat.le_of_ble_eq_true rfl) dX0_factOf_88 ?_
            exact W.iret hx hb hr (fun t ht hW => ⟨⟨_, (), rfl, (by rw [pn_fact_in hk (by omega)]; unfold pn_factN; (repeat' split) <;> first | rfl | contradiction | (exfalso; exact pn_outI (by assumption) (k := 0) (by omega) (by omega) (by omega) (by assumption)) | (exfalso; exact pn_outI (by assumption) (k := 1) (by omega) (by omega) (by omega) (by assumption)) | (exfalso; exact pn_outI (by assumption) (k := 2) (by omega) (by omega) (by omega) (by assumption)) | (exfalso; exact pn_outI (by assumption) (k := 3) (by omega) (by omega) (by omega) (by assumption)) | grind), trivial⟩, hS.F ht⟩) hS.2.2 dX0_factOf_89 hlocks
          · refine lv_bipush (v := (-6)) hx hb dX0_factOf_78 (by decide) ?_
            refine lv_goto (tgt := 89) hx hb dX0_factOf_80 (by decide) ?_
            exact W.iret hx hb hr (fun t ht hW => ⟨⟨_, (), rfl, (by rw [pn_fact_in hk (by omega)]; unfold pn_factN; (repeat' split) <;> first | rfl | contradiction | (exfalso; exact pn_outI (by assumption) (k := 0) (by omega) (by omega) (by omega) (by assumption)) | (exfalso; exact pn_outI (by assumption) (k := 1) (by omega) (by omega) (by omega) (by assumption)) | (exfalso; exact pn_outI (by assumption) (k := 2) (by omega) (by omega) (by omega) (by assumption)) | (exfalso; exact pn_outI (by assumption) (k := 3) (by omega) (by omega) (by omega) (by assumption)) | grind), trivial⟩, hS.F ht⟩) hS.2.2 dX0_factOf_89 hlocks
    · refine lv_bipush (v := (-6)) hx hb dX0_factOf_12 (by decide) ?_
      exact W.iret hx hb hr (fun t ht hW => ⟨⟨_, (), rfl, (by unfold pn_fact; first | exact (if_pos (Or.inl (by assumption))).symm | exact (if_pos (Or.inr (Int32.not_lt.mp (by assumption)))).symm), trivial⟩, hS.F ht⟩) hS.2.2 dX0_factOf_14 hlocks

theorem ih_X0_firstYear_X0 : ∀ w ∈ wsX00, w ∈ wsX0_firstYear := by decide +kernel
set_option maxHeartbeats 4000000 in
set_option maxRecDepth 100000 in
theorem c_X0_firstYear (l : Launch) (D : va_G) (cI cL cZ cO : ClassId) (h0 q1 q2 q3 q4 q5 q6 : Nat) (K Y P S O : Nat → Int32) (N : Nat → Int64) (n F : Nat) (j : Nat) (hn : n ≤ 30) (hj : j ≤ 31) : Met l yX0_firstYear wsX0_firstYear ({ frames := 0, cells := 0, slots := 0, locals := 0 }) (va_Pc [.ref h0, .int (nI j)] (pn_Pr D cI cL cZ cO [(h0, .inr (0, [.ref q1, .ref q2, .ref q3, .ref q4, .ref q5, .ref q6, .int (nI n), .int (nI F)])), (q1, .inl (cI, 30, .inl K)), (q2, .inl (cI, 30, .inl Y)), (q3, .inl (cI, 30, .inl P)), (q4, .inl (cI, 30, .inl S)), (q5, .inl (cI, 30, .inl O)), (q6, .inl (cL, 30, .inr (.inl N)))])) (va_Qi (fun r (_ : Unit) => r = (pn_fy Y n j)) (fun _ _ => True) pn_No) 0 0 pn_No := by
  refine pn_mk (by decide) rfl (Nat.le_of_ble_eq_true rfl) ?_
  intro p e s m below meth c ls hx hb hr hml hown hts hlocks hK hP hl
  have hown : s.vm.findClass RX0 = some m.cls := hown
  have hS : va_S pn_No s.heap s.heap [] := va_S.rf
  have hl : lv_has ls 2 [(0, .ref h0), (1, .int (nI j))] := hl
  refine lv_iload_n hx hb dX0_firstYear_0 rfl (lv_at hl 1 rfl) ?_
  refine lv_if_le (tgt := 12) hx hb dX0_firstYear_1 (by decide) (fun c_1 => ?_) (fun c_1 => ?_)
  · have c_1 : j ≤ 0 := (pn_le (by omega) (by omega)).mp (show nI j ≤ nI 0 from c_1)
    refine lv_iconst (v := (nI 0)) hx hb dX0_firstYear_12 (by decide) ?_
    refine lv_goto (tgt := 24) hx hb dX0_firstYear_13 (by decide) ?_
    exact W.iret hx hb hr (fun t ht hW => ⟨⟨_, (), rfl, (by unfold pn_fy; (repeat' split) <;> first | rfl | contradiction | omega | grind), trivial⟩, hS.F ht⟩) hS.2.2 dX0_firstYear_24 hlocks
  · have c_1 : ¬ j ≤ 0 := fun h => (show ¬ nI j ≤ nI 0 from c_1) ((pn_le (by omega) (by omega)).mpr h)
    refine lv_iload_n hx hb dX0_firstYear_4 rfl (lv_at hl 1 rfl) ?_
    refine lv_aload_n hx hb dX0_firstYear_5 rfl (lv_at hl 0 rfl) ?_
    refine va_get (D := D) (ci := 0) (v := .int (nI n)) (C := RX0) (T := TX0) (N := 8) hx hb hts ih_X0_firstYear_X0 hown hK.1 hP 0 rfl rfl 6 (by decide) (hts (.fieldLink RX0 31 "ParishNames$Chronicle" "told" "I") (by decide +kernel)) (fun _ h9 => h9) rfl dX0_firstYear_6 ?_
    refine lv_icmp_le (tgt := 16) hx hb dX0_firstYear_9 (by decide) (fun c_2 => ?_) (fun c_2 => ?_)
    · have c_2 : j ≤ n := (pn_le (by omega) (by omega)).mp (show nI j ≤ nI n from c_2)
      refine lv_aload_n hx hb dX0_firstYear_16 rfl (lv_at hl 0 rfl) ?_
      refine va_get (D := D) (ci := 0) (v := .ref q2) (C := RX0) (T := TX0) (N := 8) hx hb hts ih_X0_firstYear_X0 hown hK.1 hP 0 rfl rfl 1 (by decide) (hts (.fieldLink RX0 15 "ParishNames$Chronicle" "years" "[I") (by decide +kernel)) (fun _ h9 => h9) rfl dX0_firstYear_17 ?_
      refine lv_iload_n hx hb dX0_firstYear_20 rfl (lv_at hl 1 rfl) ?_
      refine lv_iconst (v := (nI 1)) hx hb dX0_firstYear_21 (by decide) ?_
      refine pn_isub hx hb (by omega) dX0_firstYear_22 ?_
      refine pn_iald hx hb hK.1 hP 2 0 rfl rfl (i := (j - 1)) (by omega) (Nat.le_of_ble_eq_true rfl) dX0_firstYear_23 ?_
      exact W.iret hx hb hr (fun t ht hW => ⟨⟨_, (), rfl, (by unfold pn_fy; (repeat' split) <;> first | rfl | contradiction | omega | grind), trivial⟩, hS.F ht⟩) hS.2.2 dX0_firstYear_24 hlocks
    · have c_2 : ¬ j ≤ n := fun h => (show ¬ nI j ≤ nI n from c_2) ((pn_le (by omega) (by omega)).mpr h)
      refine lv_iconst (v := (nI 0)) hx hb dX0_firstYear_12 (by decide) ?_
      refine lv_goto (tgt := 24) hx hb dX0_firstYear_13 (by decide) ?_
      exact W.iret hx hb hr (fun t ht hW => ⟨⟨_, (), rfl, (by unfold pn_fy; (repeat' split) <;> first | rfl | contradiction | omega | grind), trivial⟩, hS.F ht⟩) hS.2.2 dX0_firstYear_24 hlocks

theorem ih_X0_lastYear_X0 : ∀ w ∈ wsX00, w ∈ wsX0_lastYear := by decide +kernel
set_option maxHeartbeats 4000000 in
set_option maxRecDepth 100000 in
theorem c_X0_lastYear (l : Launch) (D : va_G) (cI cL cZ cO : ClassId) (h0 q1 q2 q3 q4 q5 q6 : Nat) (K Y P S O : Nat → Int32) (N : Nat → Int64) (n F : Nat) (j : Nat) (hn : n ≤ 30) (hj : j ≤ 31) : Met l yX0_lastYear wsX0_lastYear ({ frames := 0, cells := 0, slots := 0, locals := 0 }) (va_Pc [.ref h0, .int (nI j)] (pn_Pr D cI cL cZ cO [(h0, .inr (0, [.ref q1, .ref q2, .ref q3, .ref q4, .ref q5, .ref q6, .int (nI n), .int (nI F)])), (q1, .inl (cI, 30, .inl K)), (q2, .inl (cI, 30, .inl Y)), (q3, .inl (cI, 30, .inl P)), (q4, .inl (cI, 30, .inl S)), (q5, .inl (cI, 30, .inl O)), (q6, .inl (cL, 30, .inr (.inl N)))])) (va_Qi (fun r (_ : Unit) => r = (pn_ly Y n j)) (fun _ _ => True) pn_No) 0 0 pn_No := by
  refine pn_mk (by decide) rfl (Nat.le_of_ble_eq_true rfl) ?_
  intro p e s m below meth c ls hx hb hr hml hown hts hlocks hK hP hl
  have hown : s.vm.findClass RX0 = some m.cls := hown
  have hS : va_S pn_No s.heap s.heap [] := va_S.rf
  have hl : lv_has ls 2 [(0, .ref h0), (1, .int (nI j))] := hl
  refine lv_iload_n hx hb dX0_lastYear_0 rfl (lv_at hl 1 rfl) ?_
  refine lv_if_lt (tgt := 12) hx hb dX0_lastYear_1 (by decide) (fun c_1 => ?_) (fun c_1 => ?_)
  · have c_1 : j < 0 := (pn_lt (by omega) (by omega)).mp (show nI j < nI 0 from c_1)
    refine lv_sipush (v := (nI 999)) hx hb dX0_lastYear_12 (by decide) ?_
    refine lv_goto (tgt := 26) hx hb dX0_lastYear_15 (by decide) ?_
    exact W.iret hx hb hr (fun t ht hW => ⟨⟨_, (), rfl, (by unfold pn_ly; (repeat' split) <;> first | rfl | contradiction | omega | grind), trivial⟩, hS.F ht⟩) hS.2.2 dX0_lastYear_26 hlocks
  · have c_1 : ¬ j < 0 := fun h => (show ¬ nI j < nI 0 from c_1) ((pn_lt (by omega) (by omega)).mpr h)
    refine lv_iload_n hx hb dX0_lastYear_4 rfl (lv_at hl 1 rfl) ?_
    refine lv_aload_n hx hb dX0_lastYear_5 rfl (lv_at hl 0 rfl) ?_
    refine va_get (D := D) (ci := 0) (v := .int (nI n)) (C := RX0) (T := TX0) (N := 8) hx hb hts ih_X0_lastYear_X0 hown hK.1 hP 0 rfl rfl 6 (by decide) (hts (.fieldLink RX0 31 "ParishNames$Chronicle" "told" "I") (by decide +kernel)) (fun _ h9 => h9) rfl dX0_lastYear_6 ?_
    refine lv_icmp_lt (tgt := 18) hx hb dX0_lastYear_9 (by decide) (fun c_2 => ?_) (fun c_2 => ?_)
    · have c_2 : j < n := (pn_lt (by omega) (by omega)).mp (show nI j < nI n from c_2)
      refine lv_aload_n hx hb dX0_lastYear_18 rfl (lv_at hl 0 rfl) ?_
      refine va_get (D := D) (ci := 0) (v := .ref q2) (C := RX0) (T := TX0) (N := 8) hx hb hts ih_X0_lastYear_X0 hown hK.1 hP 0 rfl rfl 1 (by decide) (hts (.fieldLink RX0 15 "ParishNames$Chronicle" "years" "[I") (by decide +kernel)) (fun _ h9 => h9) rfl dX0_lastYear_19 ?_
      refine lv_iload_n hx hb dX0_lastYear_22 rfl (lv_at hl 1 rfl) ?_
      refine pn_iald hx hb hK.1 hP 2 0 rfl rfl (i := j) (by omega) (Nat.le_of_ble_eq_true rfl) dX0_lastYear_23 ?_
      refine lv_iconst (v := (nI 1)) hx hb dX0_lastYear_24 (by decide) ?_
      refine lv_isub hx hb dX0_lastYear_25 ?_
      exact W.iret hx hb hr (fun t ht hW => ⟨⟨_, (), rfl, (by unfold pn_ly; (repeat' split) <;> first | rfl | contradiction | omega | grind), trivial⟩, hS.F ht⟩) hS.2.2 dX0_lastYear_26 hlocks
    · have c_2 : ¬ j < n := fun h => (show ¬ nI j < nI n from c_2) ((pn_lt (by omega) (by omega)).mpr h)
      refine lv_sipush (v := (nI 999)) hx hb dX0_lastYear_12 (by decide) ?_
      refine lv_goto (tgt := 26) hx hb dX0_lastYear_15 (by decide) ?_
      exact W.iret hx hb hr (fun t ht hW => ⟨⟨_, (), rfl, (by unfold pn_ly; (repeat' split) <;> first | rfl | contradiction | omega | grind), trivial⟩, hS.F ht⟩) hS.2.2 dX0_lastYear_26 hlocks

set_option maxHeartbeats 4000000 in
set_option maxRecDepth 100000 in
theorem c_X0_holdsInAYear (l : Launch) (D : va_G) (cI cL cZ cO : ClassId) (h0 q1 q2 q3 q4 q5 q6 : Nat) (K Y P S O : Nat → Int32) (N : Nat → Int64) (n F : Nat) (j : Nat) (hn : n ≤ 30) (hj : j ≤ 31) : Met l yX0_holdsInAYear wsX0_holdsInAYear ({ frames := 1, cells := 0, slots := 0, locals := 21 }) (va_Pc [.ref h0, .int (nI j)] (pn_Pr D cI cL cZ cO [(h0, .inr (0, [.ref q1, .ref q2, .ref q3, .ref q4, .ref q5, .ref q6, .int (nI n), .int (nI F)])), (q1, .inl (cI, 30, .inl K)), (q2, .inl (cI, 30, .inl Y)), (q3, .inl (cI, 30, .inl P)), (q4, .inl (cI, 30, .inl S)), (q5, .inl (cI, 30, .inl O)), (q6, .inl (cL, 30, .inr (.inl N)))])) (va_Qi (fun r (_ : Unit) => r = (pn_b (pn_fy Y n j ≤ pn_ly Y n j))) (fun _ _ => True) pn_No) 0 0 pn_No := by
  refine pn_mk (by decide) rfl (Nat.le_of_ble_eq_true rfl) ?_
  intro p e s m below meth c ls hx hb hr hml hown hts hlocks hK hP hl
  have hown : s.vm.findClass RX0 = some m.cls := hown
  have hS : va_S pn_No s.heap s.heap [] := va_S.rf
  have hl : lv_has ls 2 [(0, .ref h0), (1, .int (nI j))] := hl
  refine lv_aload_n hx hb dX0_holdsInAYear_0 rfl (lv_at hl 0 rfl) ?_
  refine lv_iload_n hx hb dX0_holdsInAYear_1 rfl (lv_at hl 1 rfl) ?_
  refine pn_roi (w := [(h0, .inr (0, [.ref q1, .ref q2, .ref q3, .ref q4, .ref q5, .ref q6, .int (nI n), .int (nI F)])), (q1, .inl (cI, 30, .inl K)), (q2, .inl (cI, 30, .inl Y)), (q3, .inl (cI, 30, .inl P)), (q4, .inl (cI, 30, .inl S)), (q5, .inl (cI, 30, .inl O)), (q6, .inl (cL, 30, .inr (.inl N)))]) hP hS (va_runV (As := [.int (nI j)]) (rest := []) ⟨hx, hb, hml, hown, hts⟩ (c_X0_firstYear l D cI cL cZ cO h0 q1 q2 q3 q4 q5 q6 K Y P S O N n F j (by first | assumption | omega | grind | simp_all) (by first | assumption | omega | grind | simp_all)) (cwV 1 hts gX0_holdsInAYear_X0_firstYear rfl rfl rfl (by decide +kernel) ⟨Nat.le_of_ble_eq_true rfl, Nat.le_of_ble_eq_true rfl⟩) (pn_pv hP hK (q0 := 0) rfl rfl) rfl rfl hl.1 rfl (lv_room (Nat.le_of_ble_eq_true rfl)) dX0_holdsInAYear_2 ⟨Nat.le_of_ble_eq_true rfl, Nat.le_of_ble_eq_true rfl⟩) (fun H locs hP hS => ?_)
  refine lv_aload_n hx hb dX0_holdsInAYear_5 rfl (lv_at hl 0 rfl) ?_
  refine lv_iload_n hx hb dX0_holdsInAYear_6 rfl (lv_at hl 1 rfl) ?_
  refine pn_roi (w := [(h0, .inr (0, [.ref q1, .ref q2, .ref q3, .ref q4, .ref q5, .ref q6, .int (nI n), .int (nI F)])), (q1, .inl (cI, 30, .inl K)), (q2, .inl (cI, 30, .inl Y)), (q3, .inl (cI, 30, .inl P)), (q4, .inl (cI, 30, .inl S)), (q5, .inl (cI, 30, .inl O)), (q6, .inl (cL, 30, .inr (.inl N)))]) hP hS (va_runV (As := [.int (nI j)]) (rest := [.int (pn_fy Y n j)]) ⟨hx, hb, hml, hown, hts⟩ (c_X0_lastYear l D cI cL cZ cO h0 q1 q2 q3 q4 q5 q6 K Y P S O N n F j (by first | assumption | omega | grind | simp_all) (by first | assumption | omega | grind | simp_all)) (cwV 1 hts gX0_holdsInAYear_X0_lastYear rfl rfl rfl (by decide +kernel) ⟨Nat.le_of_ble_eq_true rfl, Nat.le_of_ble_eq_true rfl⟩) (pn_pv hP hK (q0 := 0) rfl rfl) rfl rfl hl.1 rfl (lv_room (Nat.le_of_ble_eq_true rfl)) dX0_holdsInAYear_7 ⟨Nat.le_of_ble_eq_true rfl, Nat.le_of_ble_eq_true rfl⟩) (fun H locs hP hS => ?_)
  refine lv_icmp_gt (tgt := 17) hx hb dX0_holdsInAYear_10 (by decide) (fun c_1 => ?_) (fun c_1 => ?_)
  · refine lv_iconst (v := (nI 0)) hx hb dX0_holdsInAYear_17 (by decide) ?_
    exact W.zret hx hb hr (by decide) (fun t ht hW => ⟨⟨_, (), rfl, (by first | exact pn_bt (by first | assumption | (exact Int32.not_lt.mp (by assumption)) | (simp_all)) | exact pn_bf (by first | assumption | exact Int32.not_le.mpr (by assumption))), trivial⟩, hS.F ht⟩) hS.2.2 dX0_holdsInAYear_18 hlocks
  · refine lv_iconst (v := (nI 1)) hx hb dX0_holdsInAYear_13 (by decide) ?_
    refine lv_goto (tgt := 18) hx hb dX0_holdsInAYear_14 (by decide) ?_
    exact W.zret hx hb hr (by decide) (fun t ht hW => ⟨⟨_, (), rfl, (by first | exact pn_bt (by first | assumption | (exact Int32.not_lt.mp (by assumption)) | (simp_all)) | exact pn_bf (by first | assumption | exact Int32.not_le.mpr (by assumption))), trivial⟩, hS.F ht⟩) hS.2.2 dX0_holdsInAYear_18 hlocks

theorem ih_X0_stageIn_X0 : ∀ w ∈ wsX00, w ∈ wsX0_stageIn := by decide +kernel
set_option maxHeartbeats 4000000 in
set_option maxRecDepth 100000 in
theorem c_X0_stageIn (l : Launch) (D : va_G) (cI cL cZ cO : ClassId) (h0 q1 q2 q3 q4 q5 q6 : Nat) (K Y P S O : Nat → Int32) (N : Nat → Int64) (n F : Nat) (yr : Int32) (hn : n ≤ 30) : Met l yX0_stageIn wsX0_stageIn ({ frames := 0, cells := 0, slots := 0, locals := 0 }) (va_Pc [.ref h0, .int yr] (pn_Pr D cI cL cZ cO [(h0, .inr (0, [.ref q1, .ref q2, .ref q3, .ref q4, .ref q5, .ref q6, .int (nI n), .int (nI F)])), (q1, .inl (cI, 30, .inl K)), (q2, .inl (cI, 30, .inl Y)), (q3, .inl (cI, 30, .inl P)), (q4, .inl (cI, 30, .inl S)), (q5, .inl (cI, 30, .inl O)), (q6, .inl (cL, 30, .inr (.inl N)))])) (va_Qi (fun r (_ : Unit) => r = (nI (pn_st Y yr n))) (fun _ _ => True) pn_No) 0 0 pn_No := by
  refine pn_mk (by decide) rfl (Nat.le_of_ble_eq_true rfl) ?_
  intro p e s m below meth c ls hx hb hr hml hown hts hlocks hK hP hl
  have hown : s.vm.findClass RX0 = some m.cls := hown
  have hS : va_S pn_No s.heap s.heap [] := va_S.rf
  have hl : lv_has ls 3 [(0, .ref h0), (1, .int yr)] := hl
  refine lv_iconst (v := (nI 0)) hx hb dX0_stageIn_0 (by decide) ?_
  refine lv_istore_n (lv' := [(2, .int (nI 0)), (0, .ref h0), (1, .int yr)]) hx hb dX0_stageIn_1 rfl hl (by decide) rfl (fun ls hl => ?_)
  have lp2_1 : ∀ (fu : Nat) (k : Nat), n - k < fu → (k ≤ n) → (∀ i, i < k → Y i ≤ yr) → ∀ (H : Heap) (locs : List Loc) (ls : Array Slot), va_P D vwCl [(h0, .inr (0, [.ref q1, .ref q2, .ref q3, .ref q4, .ref q5, .ref q6, .int (nI n), .int (nI F)])), (q1, .inl (cI, 30, .inl K)), (q2, .inl (cI, 30, .inl Y)), (q3, .inl (cI, 30, .inl P)), (q4, .inl (cI, 30, .inl S)), (q5, .inl (cI, 30, .inl O)), (q6, .inl (cL, 30, .inr (.inl N)))] H → va_S pn_No s.heap H locs → lv_has ls 3 [(0, .ref h0), (1, .int yr), (2, .int (nI k))] → W p l e ({ frames := 0, cells := 0, slots := 0, locals := 0 }) s m (List.toArray [.ref h0, .int yr]) below meth c H locs 0 0 (MQ below (va_Qi (fun r (_ : Unit) => r = (nI (pn_st Y yr n))) (fun _ _ => True) pn_No) (List.toArray [.ref h0, .int yr]) s 0 0 pn_No) (F0 m 2 ls []) := by
    intro fu
    induction fu with
    | zero => intro k hfu; exact absurd hfu (Nat.not_lt_zero _)
    | succ fu ih2_1 =>
      intro k hfu hk hp H locs ls hP hS hl
      refine lv_iload_n hx hb dX0_stageIn_2 rfl (lv_at hl 2 rfl) ?_
      refine lv_aload_n hx hb dX0_stageIn_3 rfl (lv_at hl 0 rfl) ?_
      refine va_get (D := D) (ci := 0) (v := .int (nI n)) (C := RX0) (T := TX0) (N := 8) hx hb hts ih_X0_stageIn_X0 hown hK.1 hP 0 rfl rfl 6 (by decide) (hts (.fieldLink RX0 31 "ParishNames$Chronicle" "told" "I") (by decide +kernel)) (fun _ h9 => h9) rfl dX0_stageIn_4 ?_
      refine lv_icmp_ge (tgt := 26) hx hb dX0_stageIn_7 (by decide) (fun c_2 => ?_) (fun c_2 => ?_)
      · have c_2 : n ≤ k := (pn_le (by omega) (by omega)).mp (show nI n ≤ nI k from c_2)
        refine lv_iload_n hx hb dX0_stageIn_26 rfl (lv_at hl 2 rfl) ?_
        exact W.iret hx hb hr (fun t ht hW => ⟨⟨_, (), rfl, (congrArg nI (pn_cw_eq (fun i h => decide_eq_true (hp i h)) (by omega) (by first | exact Or.inl (by omega) | exact Or.inr (by rw [decide_eq_true_iff]; exact Int32.not_le.mpr (by assumption)))).symm), trivial⟩, hS.F ht⟩) hS.2.2 dX0_stageIn_27 hlocks
      · have c_2 : ¬ n ≤ k := fun h => (show ¬ nI n ≤ nI k from c_2) ((pn_le (by omega) (by omega)).mpr h)
        refine lv_aload_n hx hb dX0_stageIn_10 rfl (lv_at hl 0 rfl) ?_
        refine va_get (D := D) (ci := 0) (v := .ref q2) (C := RX0) (T := TX0) (N := 8) hx hb hts ih_X0_stageIn_X0 hown hK.1 hP 0 rfl rfl 1 (by decide) (hts (.fieldLink RX0 15 "ParishNames$Chronicle" "years" "[I") (by decide +kernel)) (fun _ h9 => h9) rfl dX0_stageIn_11 ?_
        refine lv_iload_n hx hb dX0_stageIn_14 rfl (lv_at hl 2 rfl) ?_
        refine pn_iald hx hb hK.1 hP 2 0 rfl rfl (i := k) (by omega) (Nat.le_of_ble_eq_true rfl) dX0_stageIn_15 ?_
        refine lv_iload_n hx hb dX0_stageIn_16 rfl (lv_at hl 1 rfl) ?_
        refine lv_icmp_gt (tgt := 26) hx hb dX0_stageIn_17 (by decide) (fun c_3 => ?_) (fun c_3 => ?_)
        · refine lv_iload_n hx hb dX0_stageIn_26 rfl (lv_at hl 2 rfl) ?_
          exact W.iret hx hb hr (fun t ht hW => ⟨⟨_, (), rfl, (congrArg nI (pn_cw_eq (fun i h => decide_eq_true (hp i h)) (by omega) (by first | exact Or.inl (by omega) | exact Or.inr (by rw [decide_eq_true_iff]; exact Int32.not_le.mpr (by assumption)))).symm), trivial⟩, hS.F ht⟩) hS.2.2 dX0_stageIn_27 hlocks
        · refine lv_iinc (v := (nI (k + 1))) (lv' := [(2, .int (nI (k + 1))), (0, .ref h0), (1, .int yr)]) hx hb dX0_stageIn_20 hl (k := 2) rfl (nI_add k 1) (by decide) rfl (fun ls hl => ?_)
          refine lv_goto (tgt := 2) hx hb dX0_stageIn_23 (by decide) ?_
          exact ih2_1 (k + 1) (by omega) (by first | assumption | omega | grind | simp_all) (lt_s hp (Int32.not_lt.mp (by assumption))) _ _ _ hP hS (lv_sub hl [1, 2, 0] rfl)
  exact lp2_1 ((n - 0) + 1) 0 (Nat.lt_succ_self _) (by first | assumption | omega | grind | simp_all) (fun i h => absurd h (Nat.not_lt_zero _)) _ _ _ hP hS (lv_sub hl [1, 2, 0] rfl)

set_option maxHeartbeats 4000000 in
set_option maxRecDepth 100000 in
theorem c_X0_sitesAtFirst (l : Launch) (D : va_G) (cI cL cZ cO : ClassId)  (pa : Int32) : Met l yX0_sitesAtFirst wsX0_sitesAtFirst ({ frames := 0, cells := 0, slots := 0, locals := 0 }) (va_Pc [.int pa] (pn_Pr D cI cL cZ cO [])) (va_Qi (fun r (_ : Unit) => r = (pn_sit0 pa)) (fun _ _ => True) pn_No) 0 0 pn_No := by
  refine pn_mk (by decide) rfl (Nat.le_of_ble_eq_true rfl) ?_
  intro p e s m below meth c ls hx hb hr hml hown hts hlocks hK hP hl
  have hown : s.vm.findClass RX0 = some m.cls := hown
  have hS : va_S pn_No s.heap s.heap [] := va_S.rf
  have hl : lv_has ls 1 [(0, .int pa)] := hl
  refine lv_iload_n hx hb dX0_sitesAtFirst_0 rfl (lv_at hl 0 rfl) ?_
  refine lv_if_ne (tgt := 10) hx hb dX0_sitesAtFirst_1 (by decide) (fun c_1 => ?_) (fun c_1 => ?_)
  · refine lv_iconst (v := (nI 0)) hx hb dX0_sitesAtFirst_10 (by decide) ?_
    exact W.iret hx hb hr (fun t ht hW => ⟨⟨_, (), rfl, (by unfold pn_sit0; (repeat' split) <;> first | rfl | contradiction | omega | grind), trivial⟩, hS.F ht⟩) hS.2.2 dX0_sitesAtFirst_11 hlocks
  · refine lv_sipush (v := (nI 4095)) hx hb dX0_sitesAtFirst_4 (by decide) ?_
    refine lv_goto (tgt := 11) hx hb dX0_sitesAtFirst_7 (by decide) ?_
    exact W.iret hx hb hr (fun t ht hW => ⟨⟨_, (), rfl, (by unfold pn_sit0; (repeat' split) <;> first | rfl | contradiction | omega | grind), trivial⟩, hS.F ht⟩) hS.2.2 dX0_sitesAtFirst_11 hlocks

set_option maxHeartbeats 4000000 in
set_option maxRecDepth 100000 in
theorem c_X0_nameAtFirst (l : Launch) (D : va_G) (cI cL cZ cO : ClassId)  (pa : Int32) : Met l yX0_nameAtFirst wsX0_nameAtFirst ({ frames := 1, cells := 0, slots := 0, locals := 23 }) (va_Pc [.int pa] (pn_Pr D cI cL cZ cO [])) (va_Ql (fun r (_ : Unit) => r = (pn_nam0 pa)) (fun _ _ => True) pn_No) 0 0 pn_No := by
  refine pn_mk (by decide) rfl (Nat.le_of_ble_eq_true rfl) ?_
  intro p e s m below meth c ls hx hb hr hml hown hts hlocks hK hP hl
  have hown : s.vm.findClass RX0 = some m.cls := hown
  have hS : va_S pn_No s.heap s.heap [] := va_S.rf
  have hl : lv_has ls 1 [(0, .int pa)] := hl
  refine lv_iload_n hx hb dX0_nameAtFirst_0 rfl (lv_at hl 0 rfl) ?_
  refine lv_if_ne (tgt := 14) hx hb dX0_nameAtFirst_1 (by decide) (fun c_1 => ?_) (fun c_1 => ?_)
  · refine lv_lconst (v := 0) hx hb dX0_nameAtFirst_14 (by decide) ?_
    exact W.lret hx hb hr (fun t ht hW => ⟨⟨_, (), rfl, (by unfold pn_nam0; (repeat' split) <;> first | rfl | contradiction | omega | grind), trivial⟩, hS.F ht⟩) hS.2.2 dX0_nameAtFirst_15 hlocks
  · refine lv_lconst (v := 0) hx hb dX0_nameAtFirst_4 (by decide) ?_
    refine lv_iconst (v := (nI 0)) hx hb dX0_nameAtFirst_5 (by decide) ?_
    refine lv_bipush (v := (nI 97)) hx hb dX0_nameAtFirst_6 (by decide) ?_
    refine pn_rol (w := []) hP hS (va_runS (As := [.long 0, .int (nI 0), .int (nI 97)]) (rest := []) ⟨hx, hb, hml, hown, hts⟩ (c_X1_withLetter l D cI cL cZ cO 0 0 (nI 97)) (va_cwS 3 hts gX0_nameAtFirst_X1_withLetter rfl rfl rfl (by decide +kernel) ⟨Nat.le_of_ble_eq_true rfl, Nat.le_of_ble_eq_true rfl⟩) (pn_ps (WS := []) (fun k q h => by simp at h) hK) rfl rfl hl.1 rfl (lv_room (Nat.le_of_ble_eq_true rfl)) dX0_nameAtFirst_8 ⟨Nat.le_of_ble_eq_true rfl, Nat.le_of_ble_eq_true rfl⟩) (fun H locs hP hS => ?_)
    refine lv_goto (tgt := 15) hx hb dX0_nameAtFirst_11 (by decide) ?_
    exact W.lret hx hb hr (fun t ht hW => ⟨⟨_, (), rfl, (by unfold pn_nam0; (repeat' split) <;> first | rfl | contradiction | omega | grind), trivial⟩, hS.F ht⟩) hS.2.2 dX0_nameAtFirst_15 hlocks

theorem ih_X0_sitesThrough_X0 : ∀ w ∈ wsX00, w ∈ wsX0_sitesThrough := by decide +kernel
set_option maxHeartbeats 4000000 in
set_option maxRecDepth 100000 in
theorem c_X0_sitesThrough (l : Launch) (D : va_G) (cI cL cZ cO : ClassId) (h0 q1 q2 q3 q4 q5 q6 : Nat) (K Y P S O : Nat → Int32) (N : Nat → Int64) (n F : Nat) (i : Nat) (pa : Int32) (hd : Int32) (hn : n ≤ 30) (hi : i < n) : Met l yX0_sitesThrough wsX0_sitesThrough ({ frames := 0, cells := 0, slots := 0, locals := 0 }) (va_Pc [.ref h0, .int (nI i), .int pa, .int hd] (pn_Pr D cI cL cZ cO [(h0, .inr (0, [.ref q1, .ref q2, .ref q3, .ref q4, .ref q5, .ref q6, .int (nI n), .int (nI F)])), (q1, .inl (cI, 30, .inl K)), (q2, .inl (cI, 30, .inl Y)), (q3, .inl (cI, 30, .inl P)), (q4, .inl (cI, 30, .inl S)), (q5, .inl (cI, 30, .inl O)), (q6, .inl (cL, 30, .inr (.inl N)))])) (va_Qi (fun r (_ : Unit) => r = (pn_sitT P S O i pa hd)) (fun _ _ => True) pn_No) 0 0 pn_No := by
  refine pn_mk (by decide) rfl (Nat.le_of_ble_eq_true rfl) ?_
  intro p e s m below meth c ls hx hb hr hml hown hts hlocks hK hP hl
  have hown : s.vm.findClass RX0 = some m.cls := hown
  have hS : va_S pn_No s.heap s.heap [] := va_S.rf
  have hl : lv_has ls 4 [(0, .ref h0), (1, .int (nI i)), (2, .int pa), (3, .int hd)] := hl
  refine lv_iload_n hx hb dX0_sitesThrough_0 rfl (lv_at hl 1 rfl) ?_
  refine lv_if_lt (tgt := 12) hx hb dX0_sitesThrough_1 (by decide) (fun c_1 => ?_) (fun c_1 => ?_)
  · have c_1 : i < 0 := (pn_lt (by omega) (by omega)).mp (show nI i < nI 0 from c_1)
    omega
  · have c_1 : ¬ i < 0 := fun h => (show ¬ nI i < nI 0 from c_1) ((pn_lt (by omega) (by omega)).mpr h)
    refine lv_iload_n hx hb dX0_sitesThrough_4 rfl (lv_at hl 1 rfl) ?_
    refine lv_aload_n hx hb dX0_sitesThrough_5 rfl (lv_at hl 0 rfl) ?_
    refine va_get (D := D) (ci := 0) (v := .int (nI n)) (C := RX0) (T := TX0) (N := 8) hx hb hts ih_X0_sitesThrough_X0 hown hK.1 hP 0 rfl rfl 6 (by decide) (hts (.fieldLink RX0 31 "ParishNames$Chronicle" "told" "I") (by decide +kernel)) (fun _ h9 => h9) rfl dX0_sitesThrough_6 ?_
    refine lv_icmp_lt (tgt := 14) hx hb dX0_sitesThrough_9 (by decide) (fun c_2 => ?_) (fun c_2 => ?_)
    · have c_2 : i < n := (pn_lt (by omega) (by omega)).mp (show nI i < nI n from c_2)
      refine lv_aload_n hx hb dX0_sitesThrough_14 rfl (lv_at hl 0 rfl) ?_
      refine va_get (D := D) (ci := 0) (v := .ref q3) (C := RX0) (T := TX0) (N := 8) hx hb hts ih_X0_sitesThrough_X0 hown hK.1 hP 0 rfl rfl 2 (by decide) (hts (.fieldLink RX0 18 "ParishNames$Chronicle" "parishes" "[I") (by decide +kernel)) (fun _ h9 => h9) rfl dX0_sitesThrough_15 ?_
      refine lv_iload_n hx hb dX0_sitesThrough_18 rfl (lv_at hl 1 rfl) ?_
      refine pn_iald hx hb hK.1 hP 3 0 rfl rfl (i := i) (by omega) (Nat.le_of_ble_eq_true rfl) dX0_sitesThrough_19 ?_
      refine lv_iload_n hx hb dX0_sitesThrough_20 rfl (lv_at hl 2 rfl) ?_
      refine lv_icmp_ne (tgt := 35) hx hb dX0_sitesThrough_21 (by decide) (fun c_3 => ?_) (fun c_3 => ?_)
      · refine lv_aload_n hx hb dX0_sitesThrough_35 rfl (lv_at hl 0 rfl) ?_
        refine va_get (D := D) (ci := 0) (v := .ref q5) (C := RX0) (T := TX0) (N := 8) hx hb hts ih_X0_sitesThrough_X0 hown hK.1 hP 0 rfl rfl 4 (by decide) (hts (.fieldLink RX0 24 "ParishNames$Chronicle" "owners" "[I") (by decide +kernel)) (fun _ h9 => h9) rfl dX0_sitesThrough_36 ?_
        refine lv_iload_n hx hb dX0_sitesThrough_39 rfl (lv_at hl 1 rfl) ?_
        refine pn_iald hx hb hK.1 hP 5 0 rfl rfl (i := i) (by omega) (Nat.le_of_ble_eq_true rfl) dX0_sitesThrough_40 ?_
        refine lv_iload_n hx hb dX0_sitesThrough_41 rfl (lv_at hl 2 rfl) ?_
        refine lv_icmp_ne (tgt := 56) hx hb dX0_sitesThrough_42 (by decide) (fun c_4 => ?_) (fun c_4 => ?_)
        · refine lv_iload_n hx hb dX0_sitesThrough_56 rfl (lv_at hl 3 rfl) ?_
          exact W.iret hx hb hr (fun t ht hW => ⟨⟨_, (), rfl, (by unfold pn_sitT; (repeat' split) <;> first | rfl | contradiction | omega | grind), trivial⟩, hS.F ht⟩) hS.2.2 dX0_sitesThrough_57 hlocks
        · refine lv_iload_n hx hb dX0_sitesThrough_45 rfl (lv_at hl 3 rfl) ?_
          refine lv_aload_n hx hb dX0_sitesThrough_46 rfl (lv_at hl 0 rfl) ?_
          refine va_get (D := D) (ci := 0) (v := .ref q4) (C := RX0) (T := TX0) (N := 8) hx hb hts ih_X0_sitesThrough_X0 hown hK.1 hP 0 rfl rfl 3 (by decide) (hts (.fieldLink RX0 21 "ParishNames$Chronicle" "sets" "[I") (by decide +kernel)) (fun _ h9 => h9) rfl dX0_sitesThrough_47 ?_
          refine lv_iload_n hx hb dX0_sitesThrough_50 rfl (lv_at hl 1 rfl) ?_
          refine pn_iald hx hb hK.1 hP 4 0 rfl rfl (i := i) (by omega) (Nat.le_of_ble_eq_true rfl) dX0_sitesThrough_51 ?_
          refine lv_ior hx hb dX0_sitesThrough_52 ?_
          refine lv_goto (tgt := 57) hx hb dX0_sitesThrough_53 (by decide) ?_
          exact W.iret hx hb hr (fun t ht hW => ⟨⟨_, (), rfl, (by unfold pn_sitT; (repeat' split) <;> first | rfl | contradiction | omega | grind), trivial⟩, hS.F ht⟩) hS.2.2 dX0_sitesThrough_57 hlocks
      · refine lv_iload_n hx hb dX0_sitesThrough_24 rfl (lv_at hl 3 rfl) ?_
        refine lv_aload_n hx hb dX0_sitesThrough_25 rfl (lv_at hl 0 rfl) ?_
        refine va_get (D := D) (ci := 0) (v := .ref q4) (C := RX0) (T := TX0) (N := 8) hx hb hts ih_X0_sitesThrough_X0 hown hK.1 hP 0 rfl rfl 3 (by decide) (hts (.fieldLink RX0 21 "ParishNames$Chronicle" "sets" "[I") (by decide +kernel)) (fun _ h9 => h9) rfl dX0_sitesThrough_26 ?_
        refine lv_iload_n hx hb dX0_sitesThrough_29 rfl (lv_at hl 1 rfl) ?_
        refine pn_iald hx hb hK.1 hP 4 0 rfl rfl (i := i) (by omega) (Nat.le_of_ble_eq_true rfl) dX0_sitesThrough_30 ?_
        refine lv_iconst (v := (-1)) hx hb dX0_sitesThrough_31 (by decide) ?_
        refine lv_ixor hx hb dX0_sitesThrough_32 ?_
        refine lv_iand hx hb dX0_sitesThrough_33 ?_
        exact W.iret hx hb hr (fun t ht hW => ⟨⟨_, (), rfl, (by unfold pn_sitT; (repeat' split) <;> first | rfl | contradiction | omega | grind), trivial⟩, hS.F ht⟩) hS.2.2 dX0_sitesThrough_34 hlocks
    · have c_2 : ¬ i < n := fun h => (show ¬ nI i < nI n from c_2) ((pn_lt (by omega) (by omega)).mpr h)
      omega

theorem ih_X0_nameThrough_X0 : ∀ w ∈ wsX00, w ∈ wsX0_nameThrough := by decide +kernel
set_option maxHeartbeats 4000000 in
set_option maxRecDepth 100000 in
theorem c_X0_nameThrough (l : Launch) (D : va_G) (cI cL cZ cO : ClassId) (h0 q1 q2 q3 q4 q5 q6 : Nat) (K Y P S O : Nat → Int32) (N : Nat → Int64) (n F : Nat) (i : Nat) (pa : Int32) (nm : Int64) (hn : n ≤ 30) (hi : i < n) : Met l yX0_nameThrough wsX0_nameThrough ({ frames := 0, cells := 0, slots := 0, locals := 0 }) (va_Pc [.ref h0, .int (nI i), .int pa, .long nm] (pn_Pr D cI cL cZ cO [(h0, .inr (0, [.ref q1, .ref q2, .ref q3, .ref q4, .ref q5, .ref q6, .int (nI n), .int (nI F)])), (q1, .inl (cI, 30, .inl K)), (q2, .inl (cI, 30, .inl Y)), (q3, .inl (cI, 30, .inl P)), (q4, .inl (cI, 30, .inl S)), (q5, .inl (cI, 30, .inl O)), (q6, .inl (cL, 30, .inr (.inl N)))])) (va_Ql (fun r (_ : Unit) => r = (pn_namT K P O N i pa nm)) (fun _ _ => True) pn_No) 0 0 pn_No := by
  refine pn_mk (by decide) rfl (Nat.le_of_ble_eq_true rfl) ?_
  intro p e s m below meth c ls hx hb hr hml hown hts hlocks hK hP hl
  have hown : s.vm.findClass RX0 = some m.cls := hown
  have hS : va_S pn_No s.heap s.heap [] := va_S.rf
  have hl : lv_has ls 5 [(0, .ref h0), (1, .int (nI i)), (2, .int pa), (3, .long nm)] := hl
  refine lv_iload_n hx hb dX0_nameThrough_0 rfl (lv_at hl 1 rfl) ?_
  refine lv_if_lt (tgt := 12) hx hb dX0_nameThrough_1 (by decide) (fun c_1 => ?_) (fun c_1 => ?_)
  · have c_1 : i < 0 := (pn_lt (by omega) (by omega)).mp (show nI i < nI 0 from c_1)
    omega
  · have c_1 : ¬ i < 0 := fun h => (show ¬ nI i < nI 0 from c_1) ((pn_lt (by omega) (by omega)).mpr h)
    refine lv_iload_n hx hb dX0_nameThrough_4 rfl (lv_at hl 1 rfl) ?_
    refine lv_aload_n hx hb dX0_nameThrough_5 rfl (lv_at hl 0 rfl) ?_
    refine va_get (D := D) (ci := 0) (v := .int (nI n)) (C := RX0) (T := TX0) (N := 8) hx hb hts ih_X0_nameThrough_X0 hown hK.1 hP 0 rfl rfl 6 (by decide) (hts (.fieldLink RX0 31 "ParishNames$Chronicle" "told" "I") (by decide +kernel)) (fun _ h9 => h9) rfl dX0_nameThrough_6 ?_
    refine lv_icmp_lt (tgt := 14) hx hb dX0_nameThrough_9 (by decide) (fun c_2 => ?_) (fun c_2 => ?_)
    · have c_2 : i < n := (pn_lt (by omega) (by omega)).mp (show nI i < nI n from c_2)
      refine lv_aload_n hx hb dX0_nameThrough_14 rfl (lv_at hl 0 rfl) ?_
      refine va_get (D := D) (ci := 0) (v := .ref q1) (C := RX0) (T := TX0) (N := 8) hx hb hts ih_X0_nameThrough_X0 hown hK.1 hP 0 rfl rfl 0 (by decide) (hts (.fieldLink RX0 9 "ParishNames$Chronicle" "kinds" "[I") (by decide +kernel)) (fun _ h9 => h9) rfl dX0_nameThrough_15 ?_
      refine lv_iload_n hx hb dX0_nameThrough_18 rfl (lv_at hl 1 rfl) ?_
      refine pn_iald hx hb hK.1 hP 1 0 rfl rfl (i := i) (by omega) (Nat.le_of_ble_eq_true rfl) dX0_nameThrough_19 ?_
      refine lv_if_ne (tgt := 40) hx hb dX0_nameThrough_20 (by decide) (fun c_3 => ?_) (fun c_3 => ?_)
      · refine lv_aload_n hx hb dX0_nameThrough_40 rfl (lv_at hl 0 rfl) ?_
        refine va_get (D := D) (ci := 0) (v := .ref q1) (C := RX0) (T := TX0) (N := 8) hx hb hts ih_X0_nameThrough_X0 hown hK.1 hP 0 rfl rfl 0 (by decide) (hts (.fieldLink RX0 9 "ParishNames$Chronicle" "kinds" "[I") (by decide +kernel)) (fun _ h9 => h9) rfl dX0_nameThrough_41 ?_
        refine lv_iload_n hx hb dX0_nameThrough_44 rfl (lv_at hl 1 rfl) ?_
        refine pn_iald hx hb hK.1 hP 1 0 rfl rfl (i := i) (by omega) (Nat.le_of_ble_eq_true rfl) dX0_nameThrough_45 ?_
        refine lv_iconst (v := (nI 1)) hx hb dX0_nameThrough_46 (by decide) ?_
        refine lv_icmp_ne (tgt := 69) hx hb dX0_nameThrough_47 (by decide) (fun c_4 => ?_) (fun c_4 => ?_)
        · refine lv_lload_n hx hb dX0_nameThrough_69 rfl (lv_at hl 3 rfl) ?_
          exact W.lret hx hb hr (fun t ht hW => ⟨⟨_, (), rfl, (by unfold pn_namT; (repeat' split) <;> first | rfl | contradiction | omega | grind), trivial⟩, hS.F ht⟩) hS.2.2 dX0_nameThrough_70 hlocks
        · refine lv_aload_n hx hb dX0_nameThrough_50 rfl (lv_at hl 0 rfl) ?_
          refine va_get (D := D) (ci := 0) (v := .ref q5) (C := RX0) (T := TX0) (N := 8) hx hb hts ih_X0_nameThrough_X0 hown hK.1 hP 0 rfl rfl 4 (by decide) (hts (.fieldLink RX0 24 "ParishNames$Chronicle" "owners" "[I") (by decide +kernel)) (fun _ h9 => h9) rfl dX0_nameThrough_51 ?_
          refine lv_iload_n hx hb dX0_nameThrough_54 rfl (lv_at hl 1 rfl) ?_
          refine pn_iald hx hb hK.1 hP 5 0 rfl rfl (i := i) (by omega) (Nat.le_of_ble_eq_true rfl) dX0_nameThrough_55 ?_
          refine lv_iload_n hx hb dX0_nameThrough_56 rfl (lv_at hl 2 rfl) ?_
          refine lv_icmp_ne (tgt := 69) hx hb dX0_nameThrough_57 (by decide) (fun c_5 => ?_) (fun c_5 => ?_)
          · refine lv_lload_n hx hb dX0_nameThrough_69 rfl (lv_at hl 3 rfl) ?_
            exact W.lret hx hb hr (fun t ht hW => ⟨⟨_, (), rfl, (by unfold pn_namT; (repeat' split) <;> first | rfl | contradiction | omega | grind), trivial⟩, hS.F ht⟩) hS.2.2 dX0_nameThrough_70 hlocks
          · refine lv_aload_n hx hb dX0_nameThrough_60 rfl (lv_at hl 0 rfl) ?_
            refine va_get (D := D) (ci := 0) (v := .ref q6) (C := RX0) (T := TX0) (N := 8) hx hb hts ih_X0_nameThrough_X0 hown hK.1 hP 0 rfl rfl 5 (by decide) (hts (.fieldLink RX0 27 "ParishNames$Chronicle" "names" "[J") (by decide +kernel)) (fun _ h9 => h9) rfl dX0_nameThrough_61 ?_
            refine lv_iload_n hx hb dX0_nameThrough_64 rfl (lv_at hl 1 rfl) ?_
            refine pn_lald hx hb hK.1 hP 6 1 rfl rfl (i := i) (by omega) (Nat.le_of_ble_eq_true rfl) dX0_nameThrough_65 ?_
            refine lv_goto (tgt := 70) hx hb dX0_nameThrough_66 (by decide) ?_
            exact W.lret hx hb hr (fun t ht hW => ⟨⟨_, (), rfl, (by unfold pn_namT; (repeat' split) <;> first | rfl | contradiction | omega | grind), trivial⟩, hS.F ht⟩) hS.2.2 dX0_nameThrough_70 hlocks
      · refine lv_aload_n hx hb dX0_nameThrough_23 rfl (lv_at hl 0 rfl) ?_
        refine va_get (D := D) (ci := 0) (v := .ref q3) (C := RX0) (T := TX0) (N := 8) hx hb hts ih_X0_nameThrough_X0 hown hK.1 hP 0 rfl rfl 2 (by decide) (hts (.fieldLink RX0 18 "ParishNames$Chronicle" "parishes" "[I") (by decide +kernel)) (fun _ h9 => h9) rfl dX0_nameThrough_24 ?_
        refine lv_iload_n hx hb dX0_nameThrough_27 rfl (lv_at hl 1 rfl) ?_
        refine pn_iald hx hb hK.1 hP 3 0 rfl rfl (i := i) (by omega) (Nat.le_of_ble_eq_true rfl) dX0_nameThrough_28 ?_
        refine lv_iload_n hx hb dX0_nameThrough_29 rfl (lv_at hl 2 rfl) ?_
        refine lv_icmp_ne (tgt := 40) hx hb dX0_nameThrough_30 (by decide) (fun c_6 => ?_) (fun c_6 => ?_)
        · refine lv_aload_n hx hb dX0_nameThrough_40 rfl (lv_at hl 0 rfl) ?_
          refine va_get (D := D) (ci := 0) (v := .ref q1) (C := RX0) (T := TX0) (N := 8) hx hb hts ih_X0_nameThrough_X0 hown hK.1 hP 0 rfl rfl 0 (by decide) (hts (.fieldLink RX0 9 "ParishNames$Chronicle" "kinds" "[I") (by decide +kernel)) (fun _ h9 => h9) rfl dX0_nameThrough_41 ?_
          refine lv_iload_n hx hb dX0_nameThrough_44 rfl (lv_at hl 1 rfl) ?_
          refine pn_iald hx hb hK.1 hP 1 0 rfl rfl (i := i) (by omega) (Nat.le_of_ble_eq_true rfl) dX0_nameThrough_45 ?_
          refine lv_iconst (v := (nI 1)) hx hb dX0_nameThrough_46 (by decide) ?_
          refine lv_icmp_ne (tgt := 69) hx hb dX0_nameThrough_47 (by decide) (fun c_7 => ?_) (fun c_7 => ?_)
          · refine lv_lload_n hx hb dX0_nameThrough_69 rfl (lv_at hl 3 rfl) ?_
            exact W.lret hx hb hr (fun t ht hW => ⟨⟨_, (), rfl, (by unfold pn_namT; (repeat' split) <;> first | rfl | contradiction | omega | grind), trivial⟩, hS.F ht⟩) hS.2.2 dX0_nameThrough_70 hlocks
          · refine lv_aload_n hx hb dX0_nameThrough_50 rfl (lv_at hl 0 rfl) ?_
            refine va_get (D := D) (ci := 0) (v := .ref q5) (C := RX0) (T := TX0) (N := 8) hx hb hts ih_X0_nameThrough_X0 hown hK.1 hP 0 rfl rfl 4 (by decide) (hts (.fieldLink RX0 24 "ParishNames$Chronicle" "owners" "[I") (by decide +kernel)) (fun _ h9 => h9) rfl dX0_nameThrough_51 ?_
            refine lv_iload_n hx hb dX0_nameThrough_54 rfl (lv_at hl 1 rfl) ?_
            refine pn_iald hx hb hK.1 hP 5 0 rfl rfl (i := i) (by omega) (Nat.le_of_ble_eq_true rfl) dX0_nameThrough_55 ?_
            refine lv_iload_n hx hb dX0_nameThrough_56 rfl (lv_at hl 2 rfl) ?_
            refine lv_icmp_ne (tgt := 69) hx hb dX0_nameThrough_57 (by decide) (fun c_8 => ?_) (fun c_8 => ?_)
            · refine lv_lload_n hx hb dX0_nameThrough_69 rfl (lv_at hl 3 rfl) ?_
              exact W.lret hx hb hr (fun t ht hW => ⟨⟨_, (), rfl, (by unfold pn_namT; (repeat' split) <;> first | rfl | contradiction | omega | grind), trivial⟩, hS.F ht⟩) hS.2.2 dX0_nameThrough_70 hlocks
            · refine lv_aload_n hx hb dX0_nameThrough_60 rfl (lv_at hl 0 rfl) ?_
              refine va_get (D := D) (ci := 0) (v := .ref q6) (C := RX0) (T := TX0) (N := 8) hx hb hts ih_X0_nameThrough_X0 hown hK.1 hP 0 rfl rfl 5 (by decide) (hts (.fieldLink RX0 27 "ParishNames$Chronicle" "names" "[J") (by decide +kernel)) (fun _ h9 => h9) rfl dX0_nameThrough_61 ?_
              refine lv_iload_n hx hb dX0_nameThrough_64 rfl (lv_at hl 1 rfl) ?_
              refine pn_lald hx hb hK.1 hP 6 1 rfl rfl (i := i) (by omega) (Nat.le_of_ble_eq_true rfl) dX0_nameThrough_65 ?_
              refine lv_goto (tgt := 70) hx hb dX0_nameThrough_66 (by decide) ?_
              exact W.lret hx hb hr (fun t ht hW => ⟨⟨_, (), rfl, (by unfold pn_namT; (repeat' split) <;> first | rfl | contradiction | omega | grind), trivial⟩, hS.F ht⟩) hS.2.2 dX0_nameThrough_70 hlocks
        · refine lv_aload_n hx hb dX0_nameThrough_33 rfl (lv_at hl 0 rfl) ?_
          refine va_get (D := D) (ci := 0) (v := .ref q6) (C := RX0) (T := TX0) (N := 8) hx hb hts ih_X0_nameThrough_X0 hown hK.1 hP 0 rfl rfl 5 (by decide) (hts (.fieldLink RX0 27 "ParishNames$Chronicle" "names" "[J") (by decide +kernel)) (fun _ h9 => h9) rfl dX0_nameThrough_34 ?_
          refine lv_iload_n hx hb dX0_nameThrough_37 rfl (lv_at hl 1 rfl) ?_
          refine pn_lald hx hb hK.1 hP 6 1 rfl rfl (i := i) (by omega) (Nat.le_of_ble_eq_true rfl) dX0_nameThrough_38 ?_
          exact W.lret hx hb hr (fun t ht hW => ⟨⟨_, (), rfl, (by unfold pn_namT; (repeat' split) <;> first | rfl | contradiction | omega | grind), trivial⟩, hS.F ht⟩) hS.2.2 dX0_nameThrough_39 hlocks
    · have c_2 : ¬ i < n := fun h => (show ¬ nI i < nI n from c_2) ((pn_lt (by omega) (by omega)).mpr h)
      omega

theorem ih_X0_sitesBehind_X0 : ∀ w ∈ wsX00, w ∈ wsX0_sitesBehind := by decide +kernel
set_option maxHeartbeats 4000000 in
set_option maxRecDepth 100000 in
theorem c_X0_sitesBehind (l : Launch) (D : va_G) (cI cL cZ cO : ClassId) (h0 q1 q2 q3 q4 q5 q6 : Nat) (K Y P S O : Nat → Int32) (N : Nat → Int64) (n F : Nat) (pa : Int32) (g : Nat) (hn : n ≤ 30) (hg : g ≤ n) : Met l yX0_sitesBehind wsX0_sitesBehind ({ frames := 1, cells := 0, slots := 0, locals := 23 }) (va_Pc [.ref h0, .int pa, .int (nI g)] (pn_Pr D cI cL cZ cO [(h0, .inr (0, [.ref q1, .ref q2, .ref q3, .ref q4, .ref q5, .ref q6, .int (nI n), .int (nI F)])), (q1, .inl (cI, 30, .inl K)), (q2, .inl (cI, 30, .inl Y)), (q3, .inl (cI, 30, .inl P)), (q4, .inl (cI, 30, .inl S)), (q5, .inl (cI, 30, .inl O)), (q6, .inl (cL, 30, .inr (.inl N)))])) (va_Qi (fun r (_ : Unit) => r = (pn_sit P S O pa g)) (fun _ _ => True) pn_No) 0 0 pn_No := by
  refine pn_mk (by decide) rfl (Nat.le_of_ble_eq_true rfl) ?_
  intro p e s m below meth c ls hx hb hr hml hown hts hlocks hK hP hl
  have hown : s.vm.findClass RX0 = some m.cls := hown
  have hS : va_S pn_No s.heap s.heap [] := va_S.rf
  have hl : lv_has ls 5 [(0, .ref h0), (1, .int pa), (2, .int (nI g))] := hl
  refine lv_iload_n hx hb dX0_sitesBehind_0 rfl (lv_at hl 1 rfl) ?_
  refine pn_roi (w := [(h0, .inr (0, [.ref q1, .ref q2, .ref q3, .ref q4, .ref q5, .ref q6, .int (nI n), .int (nI F)])), (q1, .inl (cI, 30, .inl K)), (q2, .inl (cI, 30, .inl Y)), (q3, .inl (cI, 30, .inl P)), (q4, .inl (cI, 30, .inl S)), (q5, .inl (cI, 30, .inl O)), (q6, .inl (cL, 30, .inr (.inl N)))]) hP hS (va_runS (As := [.int pa]) (rest := []) ⟨hx, hb, hml, hown, hts⟩ (c_X0_sitesAtFirst l D cI cL cZ cO pa) (va_cwS 1 hts gX0_sitesBehind_X0_sitesAtFirst rfl rfl rfl (by decide +kernel) ⟨Nat.le_of_ble_eq_true rfl, Nat.le_of_ble_eq_true rfl⟩) (pn_ps (WS := []) (fun k q h => by simp at h) hK) rfl rfl hl.1 rfl (lv_room (Nat.le_of_ble_eq_true rfl)) dX0_sitesBehind_1 ⟨Nat.le_of_ble_eq_true rfl, Nat.le_of_ble_eq_true rfl⟩) (fun H locs hP hS => ?_)
  refine lv_istore_n (lv' := [(3, .int (pn_sit0 pa)), (0, .ref h0), (1, .int pa), (2, .int (nI g))]) hx hb dX0_sitesBehind_4 rfl hl (by decide) rfl (fun ls hl => ?_)
  refine lv_iconst (v := (nI 0)) hx hb dX0_sitesBehind_5 (by decide) ?_
  refine lv_istore (lv' := [(4, .int (nI 0)), (3, .int (pn_sit0 pa)), (0, .ref h0), (1, .int pa), (2, .int (nI g))]) hx hb dX0_sitesBehind_6 hl (by decide) rfl (fun ls hl => ?_)
  have lp8_1 : ∀ (fu : Nat) (k : Nat) (hd : Int32), g - k < fu → (k ≤ g) → (hd = pn_sit P S O pa k) → ∀ (H : Heap) (locs : List Loc) (ls : Array Slot), va_P D vwCl [(h0, .inr (0, [.ref q1, .ref q2, .ref q3, .ref q4, .ref q5, .ref q6, .int (nI n), .int (nI F)])), (q1, .inl (cI, 30, .inl K)), (q2, .inl (cI, 30, .inl Y)), (q3, .inl (cI, 30, .inl P)), (q4, .inl (cI, 30, .inl S)), (q5, .inl (cI, 30, .inl O)), (q6, .inl (cL, 30, .inr (.inl N)))] H → va_S pn_No s.heap H locs → lv_has ls 5 [(0, .ref h0), (1, .int pa), (2, .int (nI g)), (3, .int hd), (4, .int (nI k))] → W p l e ({ frames := 1, cells := 0, slots := 0, locals := 23 }) s m (List.toArray [.ref h0, .int pa, .int (nI g)]) below meth c H locs 0 0 (MQ below (va_Qi (fun r (_ : Unit) => r = (pn_sit P S O pa g)) (fun _ _ => True) pn_No) (List.toArray [.ref h0, .int pa, .int (nI g)]) s 0 0 pn_No) (F0 m 8 ls []) := by
    intro fu
    induction fu with
    | zero => intro k hd hfu; exact absurd hfu (Nat.not_lt_zero _)
    | succ fu ih8_1 =>
      intro k hd hfu hk e1 H locs ls hP hS hl
      refine lv_iload hx hb dX0_sitesBehind_8 (lv_at hl 4 rfl) ?_
      refine lv_iload_n hx hb dX0_sitesBehind_10 rfl (lv_at hl 2 rfl) ?_
      refine lv_icmp_ge (tgt := 38) hx hb dX0_sitesBehind_11 (by decide) (fun c_2 => ?_) (fun c_2 => ?_)
      · have c_2 : g ≤ k := (pn_le (by omega) (by omega)).mp (show nI g ≤ nI k from c_2)
        refine lv_iload_n hx hb dX0_sitesBehind_38 rfl (lv_at hl 3 rfl) ?_
        exact W.iret hx hb hr (fun t ht hW => ⟨⟨_, (), rfl, (by rw [e1, show k = g by omega]), trivial⟩, hS.F ht⟩) hS.2.2 dX0_sitesBehind_39 hlocks
      · have c_2 : ¬ g ≤ k := fun h => (show ¬ nI g ≤ nI k from c_2) ((pn_le (by omega) (by omega)).mpr h)
        refine lv_iload hx hb dX0_sitesBehind_14 (lv_at hl 4 rfl) ?_
        refine lv_aload_n hx hb dX0_sitesBehind_16 rfl (lv_at hl 0 rfl) ?_
        refine va_get (D := D) (ci := 0) (v := .int (nI n)) (C := RX0) (T := TX0) (N := 8) hx hb hts ih_X0_sitesBehind_X0 hown hK.1 hP 0 rfl rfl 6 (by decide) (hts (.fieldLink RX0 31 "ParishNames$Chronicle" "told" "I") (by decide +kernel)) (fun _ h9 => h9) rfl dX0_sitesBehind_17 ?_
        refine lv_icmp_ge (tgt := 38) hx hb dX0_sitesBehind_20 (by decide) (fun c_3 => ?_) (fun c_3 => ?_)
        · have c_3 : n ≤ k := (pn_le (by omega) (by omega)).mp (show nI n ≤ nI k from c_3)
          omega
        · have c_3 : ¬ n ≤ k := fun h => (show ¬ nI n ≤ nI k from c_3) ((pn_le (by omega) (by omega)).mpr h)
          refine lv_aload_n hx hb dX0_sitesBehind_23 rfl (lv_at hl 0 rfl) ?_
          refine lv_iload hx hb dX0_sitesBehind_24 (lv_at hl 4 rfl) ?_
          refine lv_iload_n hx hb dX0_sitesBehind_26 rfl (lv_at hl 1 rfl) ?_
          refine lv_iload_n hx hb dX0_sitesBehind_27 rfl (lv_at hl 3 rfl) ?_
          refine pn_roi (w := [(h0, .inr (0, [.ref q1, .ref q2, .ref q3, .ref q4, .ref q5, .ref q6, .int (nI n), .int (nI F)])), (q1, .inl (cI, 30, .inl K)), (q2, .inl (cI, 30, .inl Y)), (q3, .inl (cI, 30, .inl P)), (q4, .inl (cI, 30, .inl S)), (q5, .inl (cI, 30, .inl O)), (q6, .inl (cL, 30, .inr (.inl N)))]) hP hS (va_runV (As := [.int (nI k), .int pa, .int hd]) (rest := []) ⟨hx, hb, hml, hown, hts⟩ (c_X0_sitesThrough l D cI cL cZ cO h0 q1 q2 q3 q4 q5 q6 K Y P S O N n F k pa hd (by first | assumption | omega | grind | simp_all) (by first | assumption | omega | grind | simp_all)) (cwV 3 hts gX0_sitesBehind_X0_sitesThrough rfl rfl rfl (by decide +kernel) ⟨Nat.le_of_ble_eq_true rfl, Nat.le_of_ble_eq_true rfl⟩) (pn_pv hP hK (q0 := 0) rfl rfl) rfl rfl hl.1 rfl (lv_room (Nat.le_of_ble_eq_true rfl)) dX0_sitesBehind_28 ⟨Nat.le_of_ble_eq_true rfl, Nat.le_of_ble_eq_true rfl⟩) (fun H locs hP hS => ?_)
          refine lv_istore_n (lv' := [(3, .int (pn_sitT P S O k pa hd)), (0, .ref h0), (1, .int pa), (2, .int (nI g)), (4, .int (nI k))]) hx hb dX0_sitesBehind_31 rfl hl (by decide) rfl (fun ls hl => ?_)
          refine lv_iinc (v := (nI (k + 1))) (lv' := [(4, .int (nI (k + 1))), (3, .int (pn_sitT P S O k pa hd)), (0, .ref h0), (1, .int pa), (2, .int (nI g))]) hx hb dX0_sitesBehind_32 hl (k := 4) rfl (nI_add k 1) (by decide) rfl (fun ls hl => ?_)
          refine lv_goto (tgt := 8) hx hb dX0_sitesBehind_35 (by decide) ?_
          exact ih8_1 (k + 1) (pn_sitT P S O k pa hd) (by omega) (by first | assumption | omega | grind | simp_all) (by rw [e1]; rfl) _ _ _ hP hS (lv_sub hl [2, 3, 4, 1, 0] rfl)
  exact lp8_1 ((g - 0) + 1) 0 (pn_sit0 pa) (Nat.lt_succ_self _) (by first | assumption | omega | grind | simp_all) rfl _ _ _ hP hS (lv_sub hl [2, 3, 4, 1, 0] rfl)

theorem ih_X0_nameBehind_X0 : ∀ w ∈ wsX00, w ∈ wsX0_nameBehind := by decide +kernel
set_option maxHeartbeats 4000000 in
set_option maxRecDepth 100000 in
theorem c_X0_nameBehind (l : Launch) (D : va_G) (cI cL cZ cO : ClassId) (h0 q1 q2 q3 q4 q5 q6 : Nat) (K Y P S O : Nat → Int32) (N : Nat → Int64) (n F : Nat) (pa : Int32) (g : Nat) (hn : n ≤ 30) (hg : g ≤ n) : Met l yX0_nameBehind wsX0_nameBehind ({ frames := 2, cells := 0, slots := 0, locals := 43 }) (va_Pc [.ref h0, .int pa, .int (nI g)] (pn_Pr D cI cL cZ cO [(h0, .inr (0, [.ref q1, .ref q2, .ref q3, .ref q4, .ref q5, .ref q6, .int (nI n), .int (nI F)])), (q1, .inl (cI, 30, .inl K)), (q2, .inl (cI, 30, .inl Y)), (q3, .inl (cI, 30, .inl P)), (q4, .inl (cI, 30, .inl S)), (q5, .inl (cI, 30, .inl O)), (q6, .inl (cL, 30, .inr (.inl N)))])) (va_Ql (fun r (_ : Unit) => r = (pn_nam K P O N pa g)) (fun _ _ => True) pn_No) 0 0 pn_No := by
  refine pn_mk (by decide) rfl (Nat.le_of_ble_eq_true rfl) ?_
  intro p e s m below meth c ls hx hb hr hml hown hts hlocks hK hP hl
  have hown : s.vm.findClass RX0 = some m.cls := hown
  have hS : va_S pn_No s.heap s.heap [] := va_S.rf
  have hl : lv_has ls 6 [(0, .ref h0), (1, .int pa), (2, .int (nI g))] := hl
  refine lv_iload_n hx hb dX0_nameBehind_0 rfl (lv_at hl 1 rfl) ?_
  refine pn_rol (w := [(h0, .inr (0, [.ref q1, .ref q2, .ref q3, .ref q4, .ref q5, .ref q6, .int (nI n), .int (nI F)])), (q1, .inl (cI, 30, .inl K)), (q2, .inl (cI, 30, .inl Y)), (q3, .inl (cI, 30, .inl P)), (q4, .inl (cI, 30, .inl S)), (q5, .inl (cI, 30, .inl O)), (q6, .inl (cL, 30, .inr (.inl N)))]) hP hS (va_runS (As := [.int pa]) (rest := []) ⟨hx, hb, hml, hown, hts⟩ (c_X0_nameAtFirst l D cI cL cZ cO pa) (va_cwS 1 hts gX0_nameBehind_X0_nameAtFirst rfl rfl rfl (by decide +kernel) ⟨Nat.le_of_ble_eq_true rfl, Nat.le_of_ble_eq_true rfl⟩) (pn_ps (WS := []) (fun k q h => by simp at h) hK) rfl rfl hl.1 rfl (lv_room (Nat.le_of_ble_eq_true rfl)) dX0_nameBehind_1 ⟨Nat.le_of_ble_eq_true rfl, Nat.le_of_ble_eq_true rfl⟩) (fun H locs hP hS => ?_)
  refine lv_lstore_n (lv' := [(3, .long (pn_nam0 pa)), (0, .ref h0), (1, .int pa), (2, .int (nI g))]) hx hb dX0_nameBehind_4 rfl hl (by decide) rfl (fun ls hl => ?_)
  refine lv_iconst (v := (nI 0)) hx hb dX0_nameBehind_5 (by decide) ?_
  refine lv_istore (lv' := [(5, .int (nI 0)), (3, .long (pn_nam0 pa)), (0, .ref h0), (1, .int pa), (2, .int (nI g))]) hx hb dX0_nameBehind_6 hl (by decide) rfl (fun ls hl => ?_)
  have lp8_1 : ∀ (fu : Nat) (k : Nat) (hd : Int64), g - k < fu → (k ≤ g) → (hd = pn_nam K P O N pa k) → ∀ (H : Heap) (locs : List Loc) (ls : Array Slot), va_P D vwCl [(h0, .inr (0, [.ref q1, .ref q2, .ref q3, .ref q4, .ref q5, .ref q6, .int (nI n), .int (nI F)])), (q1, .inl (cI, 30, .inl K)), (q2, .inl (cI, 30, .inl Y)), (q3, .inl (cI, 30, .inl P)), (q4, .inl (cI, 30, .inl S)), (q5, .inl (cI, 30, .inl O)), (q6, .inl (cL, 30, .inr (.inl N)))] H → va_S pn_No s.heap H locs → lv_has ls 6 [(0, .ref h0), (1, .int pa), (2, .int (nI g)), (3, .long hd), (5, .int (nI k))] → W p l e ({ frames := 2, cells := 0, slots := 0, locals := 43 }) s m (List.toArray [.ref h0, .int pa, .int (nI g)]) below meth c H locs 0 0 (MQ below (va_Ql (fun r (_ : Unit) => r = (pn_nam K P O N pa g)) (fun _ _ => True) pn_No) (List.toArray [.ref h0, .int pa, .int (nI g)]) s 0 0 pn_No) (F0 m 8 ls []) := by
    intro fu
    induction fu with
    | zero => intro k hd hfu; exact absurd hfu (Nat.not_lt_zero _)
    | succ fu ih8_1 =>
      intro k hd hfu hk e1 H locs ls hP hS hl
      refine lv_iload hx hb dX0_nameBehind_8 (lv_at hl 4 rfl) ?_
      refine lv_iload_n hx hb dX0_nameBehind_10 rfl (lv_at hl 2 rfl) ?_
      refine lv_icmp_ge (tgt := 38) hx hb dX0_nameBehind_11 (by decide) (fun c_2 => ?_) (fun c_2 => ?_)
      · have c_2 : g ≤ k := (pn_le (by omega) (by omega)).mp (show nI g ≤ nI k from c_2)
        refine lv_lload_n hx hb dX0_nameBehind_38 rfl (lv_at hl 3 rfl) ?_
        exact W.lret hx hb hr (fun t ht hW => ⟨⟨_, (), rfl, (by rw [e1, show k = g by omega]), trivial⟩, hS.F ht⟩) hS.2.2 dX0_nameBehind_39 hlocks
      · have c_2 : ¬ g ≤ k := fun h => (show ¬ nI g ≤ nI k from c_2) ((pn_le (by omega) (by omega)).mpr h)
        refine lv_iload hx hb dX0_nameBehind_14 (lv_at hl 4 rfl) ?_
        refine lv_aload_n hx hb dX0_nameBehind_16 rfl (lv_at hl 0 rfl) ?_
        refine va_get (D := D) (ci := 0) (v := .int (nI n)) (C := RX0) (T := TX0) (N := 8) hx hb hts ih_X0_nameBehind_X0 hown hK.1 hP 0 rfl rfl 6 (by decide) (hts (.fieldLink RX0 31 "ParishNames$Chronicle" "told" "I") (by decide +kernel)) (fun _ h9 => h9) rfl dX0_nameBehind_17 ?_
        refine lv_icmp_ge (tgt := 38) hx hb dX0_nameBehind_20 (by decide) (fun c_3 => ?_) (fun c_3 => ?_)
        · have c_3 : n ≤ k := (pn_le (by omega) (by omega)).mp (show nI n ≤ nI k from c_3)
          omega
        · have c_3 : ¬ n ≤ k := fun h => (show ¬ nI n ≤ nI k from c_3) ((pn_le (by omega) (by omega)).mpr h)
          refine lv_aload_n hx hb dX0_nameBehind_23 rfl (lv_at hl 0 rfl) ?_
          refine lv_iload hx hb dX0_nameBehind_24 (lv_at hl 4 rfl) ?_
          refine lv_iload_n hx hb dX0_nameBehind_26 rfl (lv_at hl 1 rfl) ?_
          refine lv_lload_n hx hb dX0_nameBehind_27 rfl (lv_at hl 3 rfl) ?_
          refine pn_rol (w := [(h0, .inr (0, [.ref q1, .ref q2, .ref q3, .ref q4, .ref q5, .ref q6, .int (nI n), .int (nI F)])), (q1, .inl (cI, 30, .inl K)), (q2, .inl (cI, 30, .inl Y)), (q3, .inl (cI, 30, .inl P)), (q4, .inl (cI, 30, .inl S)), (q5, .inl (cI, 30, .inl O)), (q6, .inl (cL, 30, .inr (.inl N)))]) hP hS (va_runV (As := [.int (nI k), .int pa, .long hd]) (rest := []) ⟨hx, hb, hml, hown, hts⟩ (c_X0_nameThrough l D cI cL cZ cO h0 q1 q2 q3 q4 q5 q6 K Y P S O N n F k pa hd (by first | assumption | omega | grind | simp_all) (by first | assumption | omega | grind | simp_all)) (cwV 3 hts gX0_nameBehind_X0_nameThrough rfl rfl rfl (by decide +kernel) ⟨Nat.le_of_ble_eq_true rfl, Nat.le_of_ble_eq_true rfl⟩) (pn_pv hP hK (q0 := 0) rfl rfl) rfl rfl hl.1 rfl (lv_room (Nat.le_of_ble_eq_true rfl)) dX0_nameBehind_28 ⟨Nat.le_of_ble_eq_true rfl, Nat.le_of_ble_eq_true rfl⟩) (fun H locs hP hS => ?_)
          refine lv_lstore_n (lv' := [(3, .long (pn_namT K P O N k pa hd)), (0, .ref h0), (1, .int pa), (2, .int (nI g)), (5, .int (nI k))]) hx hb dX0_nameBehind_31 rfl hl (by decide) rfl (fun ls hl => ?_)
          refine lv_iinc (v := (nI (k + 1))) (lv' := [(5, .int (nI (k + 1))), (3, .long (pn_namT K P O N k pa hd)), (0, .ref h0), (1, .int pa), (2, .int (nI g))]) hx hb dX0_nameBehind_32 hl (k := 4) rfl (nI_add k 1) (by decide) rfl (fun ls hl => ?_)
          refine lv_goto (tgt := 8) hx hb dX0_nameBehind_35 (by decide) ?_
          exact ih8_1 (k + 1) (pn_namT K P O N k pa hd) (by omega) (by first | assumption | omega | grind | simp_all) (by rw [e1]; rfl) _ _ _ hP hS (lv_sub hl [2, 3, 4, 1, 0] rfl)
  exact lp8_1 ((g - 0) + 1) 0 (pn_nam0 pa) (Nat.lt_succ_self _) (by first | assumption | omega | grind | simp_all) rfl _ _ _ hP hS (lv_sub hl [2, 3, 4, 1, 0] rfl)

set_option maxHeartbeats 4000000 in
set_option maxRecDepth 100000 in
theorem c_X2_has (l : Launch) (D : va_G) (cI cL cZ cO : ClassId)  (x : Int32) (k : Nat) : Met l yX2_has wsX2_has ({ frames := 0, cells := 0, slots := 0, locals := 0 }) (va_Pc [.int x, .int (nI k)] (pn_Pr D cI cL cZ cO [])) (va_Qi (fun r (_ : Unit) => r = (pn_b (¬ pn_bit x k = 0))) (fun _ _ => True) pn_No) 0 0 pn_No := by
  refine pn_mk (by decide) rfl (Nat.le_of_ble_eq_true rfl) ?_
  intro p e s m below meth c ls hx hb hr hml hown hts hlocks hK hP hl
  have hown : s.vm.findClass RX2 = some m.cls := hown
  have hS : va_S pn_No s.heap s.heap [] := va_S.rf
  have hl : lv_has ls 2 [(0, .int x), (1, .int (nI k))] := hl
  refine lv_iload_n hx hb dX2_has_0 rfl (lv_at hl 0 rfl) ?_
  refine lv_iload_n hx hb dX2_has_1 rfl (lv_at hl 1 rfl) ?_
  refine lv_iushr hx hb dX2_has_2 rfl ?_
  refine lv_iconst (v := (nI 1)) hx hb dX2_has_3 (by decide) ?_
  refine lv_iand hx hb dX2_has_4 ?_
  refine lv_if_eq (tgt := 12) hx hb dX2_has_5 (by decide) (fun c_1 => ?_) (fun c_1 => ?_)
  · refine lv_iconst (v := (nI 0)) hx hb dX2_has_12 (by decide) ?_
    exact W.zret hx hb hr (by decide) (fun t ht hW => ⟨⟨_, (), rfl, (by first | exact pn_bt (by assumption) | exact pn_bf (by simpa using (by assumption)) | exact pn_bf (fun h => h (by assumption))), trivial⟩, hS.F ht⟩) hS.2.2 dX2_has_13 hlocks
  · refine lv_iconst (v := (nI 1)) hx hb dX2_has_8 (by decide) ?_
    refine lv_goto (tgt := 13) hx hb dX2_has_9 (by decide) ?_
    exact W.zret hx hb hr (by decide) (fun t ht hW => ⟨⟨_, (), rfl, (by first | exact pn_bt (by assumption) | exact pn_bf (by simpa using (by assumption)) | exact pn_bf (fun h => h (by assumption))), trivial⟩, hS.F ht⟩) hS.2.2 dX2_has_13 hlocks

theorem ih_X0_ownerBehind_X0 : ∀ w ∈ wsX00, w ∈ wsX0_ownerBehind := by decide +kernel
set_option maxHeartbeats 4000000 in
set_option maxRecDepth 100000 in
theorem c_X0_ownerBehind (l : Launch) (D : va_G) (cI cL cZ cO : ClassId) (h0 q1 q2 q3 q4 q5 q6 : Nat) (K Y P S O : Nat → Int32) (N : Nat → Int64) (n F : Nat) (t : Nat) (g : Nat) (hn : n ≤ 30) (hg : g ≤ n) : Met l yX0_ownerBehind wsX0_ownerBehind ({ frames := 1, cells := 0, slots := 0, locals := 21 }) (va_Pc [.ref h0, .int (nI t), .int (nI g)] (pn_Pr D cI cL cZ cO [(h0, .inr (0, [.ref q1, .ref q2, .ref q3, .ref q4, .ref q5, .ref q6, .int (nI n), .int (nI F)])), (q1, .inl (cI, 30, .inl K)), (q2, .inl (cI, 30, .inl Y)), (q3, .inl (cI, 30, .inl P)), (q4, .inl (cI, 30, .inl S)), (q5, .inl (cI, 30, .inl O)), (q6, .inl (cL, 30, .inr (.inl N)))])) (va_Qi (fun r (_ : Unit) => r = (pn_own S O t g)) (fun _ _ => True) pn_No) 0 0 pn_No := by
  refine pn_mk (by decide) rfl (Nat.le_of_ble_eq_true rfl) ?_
  intro p e s m below meth c ls hx hb hr hml hown hts hlocks hK hP hl
  have hown : s.vm.findClass RX0 = some m.cls := hown
  have hS : va_S pn_No s.heap s.heap [] := va_S.rf
  have hl : lv_has ls 5 [(0, .ref h0), (1, .int (nI t)), (2, .int (nI g))] := hl
  refine lv_iconst (v := (nI 0)) hx hb dX0_ownerBehind_0 (by decide) ?_
  refine lv_istore_n (lv' := [(3, .int (nI 0)), (0, .ref h0), (1, .int (nI t)), (2, .int (nI g))]) hx hb dX0_ownerBehind_1 rfl hl (by decide) rfl (fun ls hl => ?_)
  refine lv_iconst (v := (nI 0)) hx hb dX0_ownerBehind_2 (by decide) ?_
  refine lv_istore (lv' := [(4, .int (nI 0)), (3, .int (nI 0)), (0, .ref h0), (1, .int (nI t)), (2, .int (nI g))]) hx hb dX0_ownerBehind_3 hl (by decide) rfl (fun ls hl => ?_)
  have lp5_1 : ∀ (fu : Nat) (k : Nat) (hd : Int32), g - k < fu → (k ≤ g) → (hd = pn_own S O t k) → ∀ (H : Heap) (locs : List Loc) (ls : Array Slot), va_P D vwCl [(h0, .inr (0, [.ref q1, .ref q2, .ref q3, .ref q4, .ref q5, .ref q6, .int (nI n), .int (nI F)])), (q1, .inl (cI, 30, .inl K)), (q2, .inl (cI, 30, .inl Y)), (q3, .inl (cI, 30, .inl P)), (q4, .inl (cI, 30, .inl S)), (q5, .inl (cI, 30, .inl O)), (q6, .inl (cL, 30, .inr (.inl N)))] H → va_S pn_No s.heap H locs → lv_has ls 5 [(0, .ref h0), (1, .int (nI t)), (2, .int (nI g)), (3, .int hd), (4, .int (nI k))] → W p l e ({ frames := 1, cells := 0, slots := 0, locals := 21 }) s m (List.toArray [.ref h0, .int (nI t), .int (nI g)]) below meth c H locs 0 0 (MQ below (va_Qi (fun r (_ : Unit) => r = (pn_own S O t g)) (fun _ _ => True) pn_No) (List.toArray [.ref h0, .int (nI t), .int (nI g)]) s 0 0 pn_No) (F0 m 5 ls []) := by
    intro fu
    induction fu with
    | zero => intro k hd hfu; exact absurd hfu (Nat.not_lt_zero _)
    | succ fu ih5_1 =>
      intro k hd hfu hk e1 H locs ls hP hS hl
      refine lv_iload hx hb dX0_ownerBehind_5 (lv_at hl 4 rfl) ?_
      refine lv_iload_n hx hb dX0_ownerBehind_7 rfl (lv_at hl 2 rfl) ?_
      refine lv_icmp_ge (tgt := 48) hx hb dX0_ownerBehind_8 (by decide) (fun c_2 => ?_) (fun c_2 => ?_)
      · have c_2 : g ≤ k := (pn_le (by omega) (by omega)).mp (show nI g ≤ nI k from c_2)
        refine lv_iload_n hx hb dX0_ownerBehind_48 rfl (lv_at hl 3 rfl) ?_
        exact W.iret hx hb hr (fun t ht hW => ⟨⟨_, (), rfl, (by rw [e1, show k = g by omega]), trivial⟩, hS.F ht⟩) hS.2.2 dX0_ownerBehind_49 hlocks
      · have c_2 : ¬ g ≤ k := fun h => (show ¬ nI g ≤ nI k from c_2) ((pn_le (by omega) (by omega)).mpr h)
        refine lv_iload hx hb dX0_ownerBehind_11 (lv_at hl 4 rfl) ?_
        refine lv_aload_n hx hb dX0_ownerBehind_13 rfl (lv_at hl 0 rfl) ?_
        refine va_get (D := D) (ci := 0) (v := .int (nI n)) (C := RX0) (T := TX0) (N := 8) hx hb hts ih_X0_ownerBehind_X0 hown hK.1 hP 0 rfl rfl 6 (by decide) (hts (.fieldLink RX0 31 "ParishNames$Chronicle" "told" "I") (by decide +kernel)) (fun _ h9 => h9) rfl dX0_ownerBehind_14 ?_
        refine lv_icmp_ge (tgt := 48) hx hb dX0_ownerBehind_17 (by decide) (fun c_3 => ?_) (fun c_3 => ?_)
        · have c_3 : n ≤ k := (pn_le (by omega) (by omega)).mp (show nI n ≤ nI k from c_3)
          omega
        · have c_3 : ¬ n ≤ k := fun h => (show ¬ nI n ≤ nI k from c_3) ((pn_le (by omega) (by omega)).mpr h)
          refine lv_aload_n hx hb dX0_ownerBehind_20 rfl (lv_at hl 0 rfl) ?_
          refine va_get (D := D) (ci := 0) (v := .ref q4) (C := RX0) (T := TX0) (N := 8) hx hb hts ih_X0_ownerBehind_X0 hown hK.1 hP 0 rfl rfl 3 (by decide) (hts (.fieldLink RX0 21 "ParishNames$Chronicle" "sets" "[I") (by decide +kernel)) (fun _ h9 => h9) rfl dX0_ownerBehind_21 ?_
          refine lv_iload hx hb dX0_ownerBehind_24 (lv_at hl 4 rfl) ?_
          refine pn_iald hx hb hK.1 hP 4 0 rfl rfl (i := k) (by omega) (Nat.le_of_ble_eq_true rfl) dX0_ownerBehind_26 ?_
          refine lv_iload_n hx hb dX0_ownerBehind_27 rfl (lv_at hl 1 rfl) ?_
          refine pn_roi (w := [(h0, .inr (0, [.ref q1, .ref q2, .ref q3, .ref q4, .ref q5, .ref q6, .int (nI n), .int (nI F)])), (q1, .inl (cI, 30, .inl K)), (q2, .inl (cI, 30, .inl Y)), (q3, .inl (cI, 30, .inl P)), (q4, .inl (cI, 30, .inl S)), (q5, .inl (cI, 30, .inl O)), (q6, .inl (cL, 30, .inr (.inl N)))]) hP hS (va_runSN (As := [.int (S k), .int (nI t)]) (rest := []) ⟨hx, hb, hml, hown, hts⟩ (c_X2_has l D cI cL cZ cO (S k) t) ⟨va_cnB 2 hts gX0_ownerBehind_X2_has_n76 rfl rfl rfl hK.2 (hts (.initialized RX2) (by decide +kernel)) (by decide +kernel) ⟨Nat.le_of_ble_eq_true rfl, Nat.le_of_ble_eq_true rfl⟩, hts (.static yX2_has) (by decide +kernel), trivial⟩ (pn_ps (WS := []) (fun k q h => by simp at h) hK) rfl rfl hl.1 rfl (lv_room (Nat.le_of_ble_eq_true rfl)) dX0_ownerBehind_28 ⟨Nat.le_of_ble_eq_true rfl, Nat.le_of_ble_eq_true rfl⟩) (fun H locs hP hS => ?_)
          refine lv_if_eq (tgt := 42) hx hb dX0_ownerBehind_31 (by decide) (fun c_4 => ?_) (fun c_4 => ?_)
          · have c_4 : ¬ (¬ pn_bit (S k) t = 0) := pn_b0.mp c_4
            refine lv_iinc (v := (nI (k + 1))) (lv' := [(4, .int (nI (k + 1))), (0, .ref h0), (1, .int (nI t)), (2, .int (nI g)), (3, .int hd)]) hx hb dX0_ownerBehind_42 hl (k := 4) rfl (nI_add k 1) (by decide) rfl (fun ls hl => ?_)
            refine lv_goto (tgt := 5) hx hb dX0_ownerBehind_45 (by decide) ?_
            exact ih5_1 (k + 1) hd (by omega) (by first | assumption | omega | grind | simp_all) (by rw [pn_own]; split <;> first | rfl | exact e1 | contradiction) _ _ _ hP hS (lv_sub hl [1, 2, 3, 4, 0] rfl)
          · have c_4 : ¬ pn_bit (S k) t = 0 := pn_b1.mp c_4
            refine lv_aload_n hx hb dX0_ownerBehind_34 rfl (lv_at hl 0 rfl) ?_
            refine va_get (D := D) (ci := 0) (v := .ref q5) (C := RX0) (T := TX0) (N := 8) hx hb hts ih_X0_ownerBehind_X0 hown hK.1 hP 0 rfl rfl 4 (by decide) (hts (.fieldLink RX0 24 "ParishNames$Chronicle" "owners" "[I") (by decide +kernel)) (fun _ h9 => h9) rfl dX0_ownerBehind_35 ?_
            refine lv_iload hx hb dX0_ownerBehind_38 (lv_at hl 4 rfl) ?_
            refine pn_iald hx hb hK.1 hP 5 0 rfl rfl (i := k) (by omega) (Nat.le_of_ble_eq_true rfl) dX0_ownerBehind_40 ?_
            refine lv_istore_n (lv' := [(3, .int (O k)), (0, .ref h0), (1, .int (nI t)), (2, .int (nI g)), (4, .int (nI k))]) hx hb dX0_ownerBehind_41 rfl hl (by decide) rfl (fun ls hl => ?_)
            refine lv_iinc (v := (nI (k + 1))) (lv' := [(4, .int (nI (k + 1))), (3, .int (O k)), (0, .ref h0), (1, .int (nI t)), (2, .int (nI g))]) hx hb dX0_ownerBehind_42 hl (k := 4) rfl (nI_add k 1) (by decide) rfl (fun ls hl => ?_)
            refine lv_goto (tgt := 5) hx hb dX0_ownerBehind_45 (by decide) ?_
            exact ih5_1 (k + 1) (O k) (by omega) (by first | assumption | omega | grind | simp_all) (by rw [pn_own]; split <;> first | rfl | exact e1 | contradiction) _ _ _ hP hS (lv_sub hl [2, 3, 4, 1, 0] rfl)
  exact lp5_1 ((g - 0) + 1) 0 (nI 0) (Nat.lt_succ_self _) (by first | assumption | omega | grind | simp_all) rfl _ _ _ hP hS (lv_sub hl [2, 3, 4, 1, 0] rfl)

theorem ih_X0_sitesNow_X0 : ∀ w ∈ wsX00, w ∈ wsX0_sitesNow := by decide +kernel
set_option maxHeartbeats 4000000 in
set_option maxRecDepth 100000 in
theorem c_X0_sitesNow (l : Launch) (D : va_G) (cI cL cZ cO : ClassId) (h0 q1 q2 q3 q4 q5 q6 : Nat) (K Y P S O : Nat → Int32) (N : Nat → Int64) (n F : Nat) (pa : Int32) (hn : n ≤ 30) : Met l yX0_sitesNow wsX0_sitesNow ({ frames := 2, cells := 0, slots := 0, locals := 47 }) (va_Pc [.ref h0, .int pa] (pn_Pr D cI cL cZ cO [(h0, .inr (0, [.ref q1, .ref q2, .ref q3, .ref q4, .ref q5, .ref q6, .int (nI n), .int (nI F)])), (q1, .inl (cI, 30, .inl K)), (q2, .inl (cI, 30, .inl Y)), (q3, .inl (cI, 30, .inl P)), (q4, .inl (cI, 30, .inl S)), (q5, .inl (cI, 30, .inl O)), (q6, .inl (cL, 30, .inr (.inl N)))])) (va_Qi (fun r (_ : Unit) => r = (pn_sit P S O pa n)) (fun _ _ => True) pn_No) 0 0 pn_No := by
  refine pn_mk (by decide) rfl (Nat.le_of_ble_eq_true rfl) ?_
  intro p e s m below meth c ls hx hb hr hml hown hts hlocks hK hP hl
  have hown : s.vm.findClass RX0 = some m.cls := hown
  have hS : va_S pn_No s.heap s.heap [] := va_S.rf
  have hl : lv_has ls 2 [(0, .ref h0), (1, .int pa)] := hl
  refine lv_aload_n hx hb dX0_sitesNow_0 rfl (lv_at hl 0 rfl) ?_
  refine lv_iload_n hx hb dX0_sitesNow_1 rfl (lv_at hl 1 rfl) ?_
  refine lv_aload_n hx hb dX0_sitesNow_2 rfl (lv_at hl 0 rfl) ?_
  refine va_get (D := D) (ci := 0) (v := .int (nI n)) (C := RX0) (T := TX0) (N := 8) hx hb hts ih_X0_sitesNow_X0 hown hK.1 hP 0 rfl rfl 6 (by decide) (hts (.fieldLink RX0 31 "ParishNames$Chronicle" "told" "I") (by decide +kernel)) (fun _ h9 => h9) rfl dX0_sitesNow_3 ?_
  refine pn_roi (w := [(h0, .inr (0, [.ref q1, .ref q2, .ref q3, .ref q4, .ref q5, .ref q6, .int (nI n), .int (nI F)])), (q1, .inl (cI, 30, .inl K)), (q2, .inl (cI, 30, .inl Y)), (q3, .inl (cI, 30, .inl P)), (q4, .inl (cI, 30, .inl S)), (q5, .inl (cI, 30, .inl O)), (q6, .inl (cL, 30, .inr (.inl N)))]) hP hS (va_runV (As := [.int pa, .int (nI n)]) (rest := []) ⟨hx, hb, hml, hown, hts⟩ (c_X0_sitesBehind l D cI cL cZ cO h0 q1 q2 q3 q4 q5 q6 K Y P S O N n F pa n (by first | assumption | omega | grind | simp_all) (by first | assumption | omega | grind | simp_all)) (cwV 2 hts gX0_sitesNow_X0_sitesBehind rfl rfl rfl (by decide +kernel) ⟨Nat.le_of_ble_eq_true rfl, Nat.le_of_ble_eq_true rfl⟩) (pn_pv hP hK (q0 := 0) rfl rfl) rfl rfl hl.1 rfl (lv_room (Nat.le_of_ble_eq_true rfl)) dX0_sitesNow_6 ⟨Nat.le_of_ble_eq_true rfl, Nat.le_of_ble_eq_true rfl⟩) (fun H locs hP hS => ?_)
  exact W.iret hx hb hr (fun t ht hW => ⟨⟨_, (), rfl, rfl, trivial⟩, hS.F ht⟩) hS.2.2 dX0_sitesNow_9 hlocks

set_option maxHeartbeats 4000000 in
set_option maxRecDepth 100000 in
theorem c_X0_nameIn (l : Launch) (D : va_G) (cI cL cZ cO : ClassId) (h0 q1 q2 q3 q4 q5 q6 : Nat) (K Y P S O : Nat → Int32) (N : Nat → Int64) (n F : Nat) (pa : Int32) (yr : Int32) (hn : n ≤ 30) : Met l yX0_nameIn wsX0_nameIn ({ frames := 3, cells := 0, slots := 0, locals := 68 }) (va_Pc [.ref h0, .int pa, .int yr] (pn_Pr D cI cL cZ cO [(h0, .inr (0, [.ref q1, .ref q2, .ref q3, .ref q4, .ref q5, .ref q6, .int (nI n), .int (nI F)])), (q1, .inl (cI, 30, .inl K)), (q2, .inl (cI, 30, .inl Y)), (q3, .inl (cI, 30, .inl P)), (q4, .inl (cI, 30, .inl S)), (q5, .inl (cI, 30, .inl O)), (q6, .inl (cL, 30, .inr (.inl N)))])) (va_Ql (fun r (_ : Unit) => r = (pn_nin K Y P S O N n pa yr)) (fun _ _ => True) pn_No) 0 0 pn_No := by
  refine pn_mk (by decide) rfl (Nat.le_of_ble_eq_true rfl) ?_
  intro p e s m below meth c ls hx hb hr hml hown hts hlocks hK hP hl
  have hown : s.vm.findClass RX0 = some m.cls := hown
  have hS : va_S pn_No s.heap s.heap [] := va_S.rf
  have hl : lv_has ls 4 [(0, .ref h0), (1, .int pa), (2, .int yr)] := hl
  have hst := pn_st_le Y yr n
  refine lv_aload_n hx hb dX0_nameIn_0 rfl (lv_at hl 0 rfl) ?_
  refine lv_iload_n hx hb dX0_nameIn_1 rfl (lv_at hl 2 rfl) ?_
  refine pn_roi (w := [(h0, .inr (0, [.ref q1, .ref q2, .ref q3, .ref q4, .ref q5, .ref q6, .int (nI n), .int (nI F)])), (q1, .inl (cI, 30, .inl K)), (q2, .inl (cI, 30, .inl Y)), (q3, .inl (cI, 30, .inl P)), (q4, .inl (cI, 30, .inl S)), (q5, .inl (cI, 30, .inl O)), (q6, .inl (cL, 30, .inr (.inl N)))]) hP hS (va_runV (As := [.int yr]) (rest := []) ⟨hx, hb, hml, hown, hts⟩ (c_X0_stageIn l D cI cL cZ cO h0 q1 q2 q3 q4 q5 q6 K Y P S O N n F yr (by first | assumption | omega | grind | simp_all)) (cwV 1 hts gX0_nameIn_X0_stageIn rfl rfl rfl (by decide +kernel) ⟨Nat.le_of_ble_eq_true rfl, Nat.le_of_ble_eq_true rfl⟩) (pn_pv hP hK (q0 := 0) rfl rfl) rfl rfl hl.1 rfl (lv_room (Nat.le_of_ble_eq_true rfl)) dX0_nameIn_2 ⟨Nat.le_of_ble_eq_true rfl, Nat.le_of_ble_eq_true rfl⟩) (fun H locs hP hS => ?_)
  refine lv_istore_n (lv' := [(3, .int (nI (pn_st Y yr n))), (0, .ref h0), (1, .int pa), (2, .int yr)]) hx hb dX0_nameIn_5 rfl hl (by decide) rfl (fun ls hl => ?_)
  refine lv_aload_n hx hb dX0_nameIn_6 rfl (lv_at hl 1 rfl) ?_
  refine lv_iload_n hx hb dX0_nameIn_7 rfl (lv_at hl 2 rfl) ?_
  refine lv_iload_n hx hb dX0_nameIn_8 rfl (lv_at hl 0 rfl) ?_
  refine pn_roi (w := [(h0, .inr (0, [.ref q1, .ref q2, .ref q3, .ref q4, .ref q5, .ref q6, .int (nI n), .int (nI F)])), (q1, .inl (cI, 30, .inl K)), (q2, .inl (cI, 30, .inl Y)), (q3, .inl (cI, 30, .inl P)), (q4, .inl (cI, 30, .inl S)), (q5, .inl (cI, 30, .inl O)), (q6, .inl (cL, 30, .inr (.inl N)))]) hP hS (va_runV (As := [.int pa, .int (nI (pn_st Y yr n))]) (rest := []) ⟨hx, hb, hml, hown, hts⟩ (c_X0_sitesBehind l D cI cL cZ cO h0 q1 q2 q3 q4 q5 q6 K Y P S O N n F pa (pn_st Y yr n) (by first | assumption | omega | grind | simp_all) (by first | assumption | omega | grind | simp_all)) (cwV 2 hts gX0_nameIn_X0_sitesBehind rfl rfl rfl (by decide +kernel) ⟨Nat.le_of_ble_eq_true rfl, Nat.le_of_ble_eq_true rfl⟩) (pn_pv hP hK (q0 := 0) rfl rfl) rfl rfl hl.1 rfl (lv_room (Nat.le_of_ble_eq_true rfl)) dX0_nameIn_9 ⟨Nat.le_of_ble_eq_true rfl, Nat.le_of_ble_eq_true rfl⟩) (fun H locs hP hS => ?_)
  refine lv_if_ne (tgt := 19) hx hb dX0_nameIn_12 (by decide) (fun c_1 => ?_) (fun c_1 => ?_)
  · refine lv_aload_n hx hb dX0_nameIn_19 rfl (lv_at hl 1 rfl) ?_
    refine lv_iload_n hx hb dX0_nameIn_20 rfl (lv_at hl 2 rfl) ?_
    refine lv_iload_n hx hb dX0_nameIn_21 rfl (lv_at hl 0 rfl) ?_
    refine pn_rol (w := [(h0, .inr (0, [.ref q1, .ref q2, .ref q3, .ref q4, .ref q5, .ref q6, .int (nI n), .int (nI F)])), (q1, .inl (cI, 30, .inl K)), (q2, .inl (cI, 30, .inl Y)), (q3, .inl (cI, 30, .inl P)), (q4, .inl (cI, 30, .inl S)), (q5, .inl (cI, 30, .inl O)), (q6, .inl (cL, 30, .inr (.inl N)))]) hP hS (va_runV (As := [.int pa, .int (nI (pn_st Y yr n))]) (rest := []) ⟨hx, hb, hml, hown, hts⟩ (c_X0_nameBehind l D cI cL cZ cO h0 q1 q2 q3 q4 q5 q6 K Y P S O N n F pa (pn_st Y yr n) (by first | assumption | omega | grind | simp_all) (by first | assumption | omega | grind | simp_all)) (cwV 2 hts gX0_nameIn_X0_nameBehind rfl rfl rfl (by decide +kernel) ⟨Nat.le_of_ble_eq_true rfl, Nat.le_of_ble_eq_true rfl⟩) (pn_pv hP hK (q0 := 0) rfl rfl) rfl rfl hl.1 rfl (lv_room (Nat.le_of_ble_eq_true rfl)) dX0_nameIn_22 ⟨Nat.le_of_ble_eq_true rfl, Nat.le_of_ble_eq_true rfl⟩) (fun H locs hP hS => ?_)
    exact W.lret hx hb hr (fun t ht hW => ⟨⟨_, (), rfl, (by unfold pn_nin; (repeat' split) <;> first | rfl | contradiction | omega | grind), trivial⟩, hS.F ht⟩) hS.2.2 dX0_nameIn_25 hlocks
  · refine lv_lconst (v := 0) hx hb dX0_nameIn_15 (by decide) ?_
    refine lv_goto (tgt := 25) hx hb dX0_nameIn_16 (by decide) ?_
    exact W.lret hx hb hr (fun t ht hW => ⟨⟨_, (), rfl, (by unfold pn_nin; (repeat' split) <;> first | rfl | contradiction | omega | grind), trivial⟩, hS.F ht⟩) hS.2.2 dX0_nameIn_25 hlocks

set_option maxHeartbeats 4000000 in
set_option maxRecDepth 100000 in
theorem c_X0_nameAt (l : Launch) (D : va_G) (cI cL cZ cO : ClassId) (h0 q1 q2 q3 q4 q5 q6 : Nat) (K Y P S O : Nat → Int32) (N : Nat → Int64) (n F : Nat) (t : Nat) (g : Nat) (hn : n ≤ 30) (hg : g ≤ n) : Met l yX0_nameAt wsX0_nameAt ({ frames := 3, cells := 0, slots := 0, locals := 68 }) (va_Pc [.ref h0, .int (nI t), .int (nI g)] (pn_Pr D cI cL cZ cO [(h0, .inr (0, [.ref q1, .ref q2, .ref q3, .ref q4, .ref q5, .ref q6, .int (nI n), .int (nI F)])), (q1, .inl (cI, 30, .inl K)), (q2, .inl (cI, 30, .inl Y)), (q3, .inl (cI, 30, .inl P)), (q4, .inl (cI, 30, .inl S)), (q5, .inl (cI, 30, .inl O)), (q6, .inl (cL, 30, .inr (.inl N)))])) (va_Ql (fun r (_ : Unit) => r = (pn_nam K P O N (pn_own S O t g) g)) (fun _ _ => True) pn_No) 0 0 pn_No := by
  refine pn_mk (by decide) rfl (Nat.le_of_ble_eq_true rfl) ?_
  intro p e s m below meth c ls hx hb hr hml hown hts hlocks hK hP hl
  have hown : s.vm.findClass RX0 = some m.cls := hown
  have hS : va_S pn_No s.heap s.heap [] := va_S.rf
  have hl : lv_has ls 3 [(0, .ref h0), (1, .int (nI t)), (2, .int (nI g))] := hl
  refine lv_aload_n hx hb dX0_nameAt_0 rfl (lv_at hl 0 rfl) ?_
  refine lv_aload_n hx hb dX0_nameAt_1 rfl (lv_at hl 0 rfl) ?_
  refine lv_iload_n hx hb dX0_nameAt_2 rfl (lv_at hl 1 rfl) ?_
  refine lv_iload_n hx hb dX0_nameAt_3 rfl (lv_at hl 2 rfl) ?_
  refine pn_roi (w := [(h0, .inr (0, [.ref q1, .ref q2, .ref q3, .ref q4, .ref q5, .ref q6, .int (nI n), .int (nI F)])), (q1, .inl (cI, 30, .inl K)), (q2, .inl (cI, 30, .inl Y)), (q3, .inl (cI, 30, .inl P)), (q4, .inl (cI, 30, .inl S)), (q5, .inl (cI, 30, .inl O)), (q6, .inl (cL, 30, .inr (.inl N)))]) hP hS (va_runV (As := [.int (nI t), .int (nI g)]) (rest := [.ref h0]) ⟨hx, hb, hml, hown, hts⟩ (c_X0_ownerBehind l D cI cL cZ cO h0 q1 q2 q3 q4 q5 q6 K Y P S O N n F t g (by first | assumption | omega | grind | simp_all) (by first | assumption | omega | grind | simp_all)) (cwV 2 hts gX0_nameAt_X0_ownerBehind rfl rfl rfl (by decide +kernel) ⟨Nat.le_of_ble_eq_true rfl, Nat.le_of_ble_eq_true rfl⟩) (pn_pv hP hK (q0 := 0) rfl rfl) rfl rfl hl.1 rfl (lv_room (Nat.le_of_ble_eq_true rfl)) dX0_nameAt_4 ⟨Nat.le_of_ble_eq_true rfl, Nat.le_of_ble_eq_true rfl⟩) (fun H locs hP hS => ?_)
  refine lv_iload_n hx hb dX0_nameAt_7 rfl (lv_at hl 2 rfl) ?_
  refine pn_rol (w := [(h0, .inr (0, [.ref q1, .ref q2, .ref q3, .ref q4, .ref q5, .ref q6, .int (nI n), .int (nI F)])), (q1, .inl (cI, 30, .inl K)), (q2, .inl (cI, 30, .inl Y)), (q3, .inl (cI, 30, .inl P)), (q4, .inl (cI, 30, .inl S)), (q5, .inl (cI, 30, .inl O)), (q6, .inl (cL, 30, .inr (.inl N)))]) hP hS (va_runV (As := [.int (pn_own S O t g), .int (nI g)]) (rest := []) ⟨hx, hb, hml, hown, hts⟩ (c_X0_nameBehind l D cI cL cZ cO h0 q1 q2 q3 q4 q5 q6 K Y P S O N n F (pn_own S O t g) g (by first | assumption | omega | grind | simp_all) (by first | assumption | omega | grind | simp_all)) (cwV 2 hts gX0_nameAt_X0_nameBehind rfl rfl rfl (by decide +kernel) ⟨Nat.le_of_ble_eq_true rfl, Nat.le_of_ble_eq_true rfl⟩) (pn_pv hP hK (q0 := 0) rfl rfl) rfl rfl hl.1 rfl (lv_room (Nat.le_of_ble_eq_true rfl)) dX0_nameAt_8 ⟨Nat.le_of_ble_eq_true rfl, Nat.le_of_ble_eq_true rfl⟩) (fun H locs hP hS => ?_)
  exact W.lret hx hb hr (fun t ht hW => ⟨⟨_, (), rfl, rfl, trivial⟩, hS.F ht⟩) hS.2.2 dX0_nameAt_11 hlocks

theorem ih_X0_eventsOf_X0 : ∀ w ∈ wsX00, w ∈ wsX0_eventsOf := by decide +kernel
set_option maxHeartbeats 4000000 in
set_option maxRecDepth 100000 in
theorem c_X0_eventsOf (l : Launch) (D : va_G) (cI cL cZ cO : ClassId) (h0 q1 q2 q3 q4 q5 q6 : Nat) (K Y P S O : Nat → Int32) (N : Nat → Int64) (n F : Nat) (pa : Int32) (hn : n ≤ 30) : Met l yX0_eventsOf wsX0_eventsOf ({ frames := 0, cells := 0, slots := 0, locals := 0 }) (va_Pc [.ref h0, .int pa] (pn_Pr D cI cL cZ cO [(h0, .inr (0, [.ref q1, .ref q2, .ref q3, .ref q4, .ref q5, .ref q6, .int (nI n), .int (nI F)])), (q1, .inl (cI, 30, .inl K)), (q2, .inl (cI, 30, .inl Y)), (q3, .inl (cI, 30, .inl P)), (q4, .inl (cI, 30, .inl S)), (q5, .inl (cI, 30, .inl O)), (q6, .inl (cL, 30, .inr (.inl N)))])) (va_Qi (fun r (_ : Unit) => r = (nI (pn_cnt (fun i => P i = pa ∨ O i = pa) n))) (fun _ _ => True) pn_No) 0 0 pn_No := by
  refine pn_mk (by decide) rfl (Nat.le_of_ble_eq_true rfl) ?_
  intro p e s m below meth c ls hx hb hr hml hown hts hlocks hK hP hl
  have hown : s.vm.findClass RX0 = some m.cls := hown
  have hS : va_S pn_No s.heap s.heap [] := va_S.rf
  have hl : lv_has ls 4 [(0, .ref h0), (1, .int pa)] := hl
  refine lv_iconst (v := (nI 0)) hx hb dX0_eventsOf_0 (by decide) ?_
  refine lv_istore_n (lv' := [(2, .int (nI 0)), (0, .ref h0), (1, .int pa)]) hx hb dX0_eventsOf_1 rfl hl (by decide) rfl (fun ls hl => ?_)
  refine lv_iconst (v := (nI 0)) hx hb dX0_eventsOf_2 (by decide) ?_
  refine lv_istore_n (lv' := [(3, .int (nI 0)), (2, .int (nI 0)), (0, .ref h0), (1, .int pa)]) hx hb dX0_eventsOf_3 rfl hl (by decide) rfl (fun ls hl => ?_)
  have lp4_1 : ∀ (fu : Nat) (k : Nat) (f : Nat), n - k < fu → (k ≤ n) → (f = pn_cnt (fun i => P i = pa ∨ O i = pa) k) → ∀ (H : Heap) (locs : List Loc) (ls : Array Slot), va_P D vwCl [(h0, .inr (0, [.ref q1, .ref q2, .ref q3, .ref q4, .ref q5, .ref q6, .int (nI n), .int (nI F)])), (q1, .inl (cI, 30, .inl K)), (q2, .inl (cI, 30, .inl Y)), (q3, .inl (cI, 30, .inl P)), (q4, .inl (cI, 30, .inl S)), (q5, .inl (cI, 30, .inl O)), (q6, .inl (cL, 30, .inr (.inl N)))] H → va_S pn_No s.heap H locs → lv_has ls 4 [(0, .ref h0), (1, .int pa), (2, .int (nI f)), (3, .int (nI k))] → W p l e ({ frames := 0, cells := 0, slots := 0, locals := 0 }) s m (List.toArray [.ref h0, .int pa]) below meth c H locs 0 0 (MQ below (va_Qi (fun r (_ : Unit) => r = (nI (pn_cnt (fun i => P i = pa ∨ O i = pa) n))) (fun _ _ => True) pn_No) (List.toArray [.ref h0, .int pa]) s 0 0 pn_No) (F0 m 4 ls []) := by
    intro fu
    induction fu with
    | zero => intro k f hfu; exact absurd hfu (Nat.not_lt_zero _)
    | succ fu ih4_1 =>
      intro k f hfu hk e1 H locs ls hP hS hl
      refine lv_iload_n hx hb dX0_eventsOf_4 rfl (lv_at hl 3 rfl) ?_
      refine lv_aload_n hx hb dX0_eventsOf_5 rfl (lv_at hl 0 rfl) ?_
      refine va_get (D := D) (ci := 0) (v := .int (nI n)) (C := RX0) (T := TX0) (N := 8) hx hb hts ih_X0_eventsOf_X0 hown hK.1 hP 0 rfl rfl 6 (by decide) (hts (.fieldLink RX0 31 "ParishNames$Chronicle" "told" "I") (by decide +kernel)) (fun _ h9 => h9) rfl dX0_eventsOf_6 ?_
      refine lv_icmp_ge (tgt := 41) hx hb dX0_eventsOf_9 (by decide) (fun c_2 => ?_) (fun c_2 => ?_)
      · have c_2 : n ≤ k := (pn_le (by omega) (by omega)).mp (show nI n ≤ nI k from c_2)
        refine lv_iload_n hx hb dX0_eventsOf_41 rfl (lv_at hl 2 rfl) ?_
        exact W.iret hx hb hr (fun t ht hW => ⟨⟨_, (), rfl, (by rw [e1, show k = n by omega]), trivial⟩, hS.F ht⟩) hS.2.2 dX0_eventsOf_42 hlocks
      · have c_2 : ¬ n ≤ k := fun h => (show ¬ nI n ≤ nI k from c_2) ((pn_le (by omega) (by omega)).mpr h)
        refine lv_aload_n hx hb dX0_eventsOf_12 rfl (lv_at hl 0 rfl) ?_
        refine va_get (D := D) (ci := 0) (v := .ref q3) (C := RX0) (T := TX0) (N := 8) hx hb hts ih_X0_eventsOf_X0 hown hK.1 hP 0 rfl rfl 2 (by decide) (hts (.fieldLink RX0 18 "ParishNames$Chronicle" "parishes" "[I") (by decide +kernel)) (fun _ h9 => h9) rfl dX0_eventsOf_13 ?_
        refine lv_iload_n hx hb dX0_eventsOf_16 rfl (lv_at hl 3 rfl) ?_
        refine pn_iald hx hb hK.1 hP 3 0 rfl rfl (i := k) (by omega) (Nat.le_of_ble_eq_true rfl) dX0_eventsOf_17 ?_
        refine lv_iload_n hx hb dX0_eventsOf_18 rfl (lv_at hl 1 rfl) ?_
        refine lv_icmp_eq (tgt := 32) hx hb dX0_eventsOf_19 (by decide) (fun c_3 => ?_) (fun c_3 => ?_)
        · refine lv_iinc (v := (nI (f + 1))) (lv' := [(2, .int (nI (f + 1))), (0, .ref h0), (1, .int pa), (3, .int (nI k))]) hx hb dX0_eventsOf_32 hl (k := 2) rfl (nI_add f 1) (by decide) rfl (fun ls hl => ?_)
          refine lv_iinc (v := (nI (k + 1))) (lv' := [(3, .int (nI (k + 1))), (2, .int (nI (f + 1))), (0, .ref h0), (1, .int pa)]) hx hb dX0_eventsOf_35 hl (k := 3) rfl (nI_add k 1) (by decide) rfl (fun ls hl => ?_)
          refine lv_goto (tgt := 4) hx hb dX0_eventsOf_38 (by decide) ?_
          exact ih4_1 (k + 1) (f + 1) (by omega) (by first | assumption | omega | grind | simp_all) (by rw [pn_cnt]; split <;> first | (rw [e1]; done) | exact e1 | (exfalso; grind)) _ _ _ hP hS (lv_sub hl [2, 3, 1, 0] rfl)
        · refine lv_aload_n hx hb dX0_eventsOf_22 rfl (lv_at hl 0 rfl) ?_
          refine va_get (D := D) (ci := 0) (v := .ref q5) (C := RX0) (T := TX0) (N := 8) hx hb hts ih_X0_eventsOf_X0 hown hK.1 hP 0 rfl rfl 4 (by decide) (hts (.fieldLink RX0 24 "ParishNames$Chronicle" "owners" "[I") (by decide +kernel)) (fun _ h9 => h9) rfl dX0_eventsOf_23 ?_
          refine lv_iload_n hx hb dX0_eventsOf_26 rfl (lv_at hl 3 rfl) ?_
          refine pn_iald hx hb hK.1 hP 5 0 rfl rfl (i := k) (by omega) (Nat.le_of_ble_eq_true rfl) dX0_eventsOf_27 ?_
          refine lv_iload_n hx hb dX0_eventsOf_28 rfl (lv_at hl 1 rfl) ?_
          refine lv_icmp_ne (tgt := 35) hx hb dX0_eventsOf_29 (by decide) (fun c_4 => ?_) (fun c_4 => ?_)
          · refine lv_iinc (v := (nI (k + 1))) (lv' := [(3, .int (nI (k + 1))), (0, .ref h0), (1, .int pa), (2, .int (nI f))]) hx hb dX0_eventsOf_35 hl (k := 3) rfl (nI_add k 1) (by decide) rfl (fun ls hl => ?_)
            refine lv_goto (tgt := 4) hx hb dX0_eventsOf_38 (by decide) ?_
            exact ih4_1 (k + 1) f (by omega) (by first | assumption | omega | grind | simp_all) (by rw [pn_cnt]; split <;> first | (rw [e1]; done) | exact e1 | (exfalso; grind)) _ _ _ hP hS (lv_sub hl [1, 2, 3, 0] rfl)
          · refine lv_iinc (v := (nI (f + 1))) (lv' := [(2, .int (nI (f + 1))), (0, .ref h0), (1, .int pa), (3, .int (nI k))]) hx hb dX0_eventsOf_32 hl (k := 2) rfl (nI_add f 1) (by decide) rfl (fun ls hl => ?_)
            refine lv_iinc (v := (nI (k + 1))) (lv' := [(3, .int (nI (k + 1))), (2, .int (nI (f + 1))), (0, .ref h0), (1, .int pa)]) hx hb dX0_eventsOf_35 hl (k := 3) rfl (nI_add k 1) (by decide) rfl (fun ls hl => ?_)
            refine lv_goto (tgt := 4) hx hb dX0_eventsOf_38 (by decide) ?_
            exact ih4_1 (k + 1) (f + 1) (by omega) (by first | assumption | omega | grind | simp_all) (by rw [pn_cnt]; split <;> first | (rw [e1]; done) | exact e1 | (exfalso; grind)) _ _ _ hP hS (lv_sub hl [2, 3, 1, 0] rfl)
  exact lp4_1 ((n - 0) + 1) 0 0 (Nat.lt_succ_self _) (by first | assumption | omega | grind | simp_all) rfl _ _ _ hP hS (lv_sub hl [2, 3, 1, 0] rfl)

theorem ih_X0_eventsOfKind_X0 : ∀ w ∈ wsX00, w ∈ wsX0_eventsOfKind := by decide +kernel
set_option maxHeartbeats 4000000 in
set_option maxRecDepth 100000 in
theorem c_X0_eventsOfKind (l : Launch) (D : va_G) (cI cL cZ cO : ClassId) (h0 q1 q2 q3 q4 q5 q6 : Nat) (K Y P S O : Nat → Int32) (N : Nat → Int64) (n F : Nat) (kd : Int32) (hn : n ≤ 30) : Met l yX0_eventsOfKind wsX0_eventsOfKind ({ frames := 0, cells := 0, slots := 0, locals := 0 }) (va_Pc [.ref h0, .int kd] (pn_Pr D cI cL cZ cO [(h0, .inr (0, [.ref q1, .ref q2, .ref q3, .ref q4, .ref q5, .ref q6, .int (nI n), .int (nI F)])), (q1, .inl (cI, 30, .inl K)), (q2, .inl (cI, 30, .inl Y)), (q3, .inl (cI, 30, .inl P)), (q4, .inl (cI, 30, .inl S)), (q5, .inl (cI, 30, .inl O)), (q6, .inl (cL, 30, .inr (.inl N)))])) (va_Qi (fun r (_ : Unit) => r = (nI (pn_cnt (fun i => K i = kd) n))) (fun _ _ => True) pn_No) 0 0 pn_No := by
  refine pn_mk (by decide) rfl (Nat.le_of_ble_eq_true rfl) ?_
  intro p e s m below meth c ls hx hb hr hml hown hts hlocks hK hP hl
  have hown : s.vm.findClass RX0 = some m.cls := hown
  have hS : va_S pn_No s.heap s.heap [] := va_S.rf
  have hl : lv_has ls 4 [(0, .ref h0), (1, .int kd)] := hl
  refine lv_iconst (v := (nI 0)) hx hb dX0_eventsOfKind_0 (by decide) ?_
  refine lv_istore_n (lv' := [(2, .int (nI 0)), (0, .ref h0), (1, .int kd)]) hx hb dX0_eventsOfKind_1 rfl hl (by decide) rfl (fun ls hl => ?_)
  refine lv_iconst (v := (nI 0)) hx hb dX0_eventsOfKind_2 (by decide) ?_
  refine lv_istore_n (lv' := [(3, .int (nI 0)), (2, .int (nI 0)), (0, .ref h0), (1, .int kd)]) hx hb dX0_eventsOfKind_3 rfl hl (by decide) rfl (fun ls hl => ?_)
  have lp4_1 : ∀ (fu : Nat) (k : Nat) (f : Nat), n - k < fu → (k ≤ n) → (f = pn_cnt (fun i => K i = kd) k) → ∀ (H : Heap) (locs : List Loc) (ls : Array Slot), va_P D vwCl [(h0, .inr (0, [.ref q1, .ref q2, .ref q3, .ref q4, .ref q5, .ref q6, .int (nI n), .int (nI F)])), (q1, .inl (cI, 30, .inl K)), (q2, .inl (cI, 30, .inl Y)), (q3, .inl (cI, 30, .inl P)), (q4, .inl (cI, 30, .inl S)), (q5, .inl (cI, 30, .inl O)), (q6, .inl (cL, 30, .inr (.inl N)))] H → va_S pn_No s.heap H locs → lv_has ls 4 [(0, .ref h0), (1, .int kd), (2, .int (nI f)), (3, .int (nI k))] → W p l e ({ frames := 0, cells := 0, slots := 0, locals := 0 }) s m (List.toArray [.ref h0, .int kd]) below meth c H locs 0 0 (MQ below (va_Qi (fun r (_ : Unit) => r = (nI (pn_cnt (fun i => K i = kd) n))) (fun _ _ => True) pn_No) (List.toArray [.ref h0, .int kd]) s 0 0 pn_No) (F0 m 4 ls []) := by
    intro fu
    induction fu with
    | zero => intro k f hfu; exact absurd hfu (Nat.not_lt_zero _)
    | succ fu ih4_1 =>
      intro k f hfu hk e1 H locs ls hP hS hl
      refine lv_iload_n hx hb dX0_eventsOfKind_4 rfl (lv_at hl 3 rfl) ?_
      refine lv_aload_n hx hb dX0_eventsOfKind_5 rfl (lv_at hl 0 rfl) ?_
      refine va_get (D := D) (ci := 0) (v := .int (nI n)) (C := RX0) (T := TX0) (N := 8) hx hb hts ih_X0_eventsOfKind_X0 hown hK.1 hP 0 rfl rfl 6 (by decide) (hts (.fieldLink RX0 31 "ParishNames$Chronicle" "told" "I") (by decide +kernel)) (fun _ h9 => h9) rfl dX0_eventsOfKind_6 ?_
      refine lv_icmp_ge (tgt := 31) hx hb dX0_eventsOfKind_9 (by decide) (fun c_2 => ?_) (fun c_2 => ?_)
      · have c_2 : n ≤ k := (pn_le (by omega) (by omega)).mp (show nI n ≤ nI k from c_2)
        refine lv_iload_n hx hb dX0_eventsOfKind_31 rfl (lv_at hl 2 rfl) ?_
        exact W.iret hx hb hr (fun t ht hW => ⟨⟨_, (), rfl, (by rw [e1, show k = n by omega]), trivial⟩, hS.F ht⟩) hS.2.2 dX0_eventsOfKind_32 hlocks
      · have c_2 : ¬ n ≤ k := fun h => (show ¬ nI n ≤ nI k from c_2) ((pn_le (by omega) (by omega)).mpr h)
        refine lv_aload_n hx hb dX0_eventsOfKind_12 rfl (lv_at hl 0 rfl) ?_
        refine va_get (D := D) (ci := 0) (v := .ref q1) (C := RX0) (T := TX0) (N := 8) hx hb hts ih_X0_eventsOfKind_X0 hown hK.1 hP 0 rfl rfl 0 (by decide) (hts (.fieldLink RX0 9 "ParishNames$Chronicle" "kinds" "[I") (by decide +kernel)) (fun _ h9 => h9) rfl dX0_eventsOfKind_13 ?_
        refine lv_iload_n hx hb dX0_eventsOfKind_16 rfl (lv_at hl 3 rfl) ?_
        refine pn_iald hx hb hK.1 hP 1 0 rfl rfl (i := k) (by omega) (Nat.le_of_ble_eq_true rfl) dX0_eventsOfKind_17 ?_
        refine lv_iload_n hx hb dX0_eventsOfKind_18 rfl (lv_at hl 1 rfl) ?_
        refine lv_icmp_ne (tgt := 25) hx hb dX0_eventsOfKind_19 (by decide) (fun c_3 => ?_) (fun c_3 => ?_)
        · refine lv_iinc (v := (nI (k + 1))) (lv' := [(3, .int (nI (k + 1))), (0, .ref h0), (1, .int kd), (2, .int (nI f))]) hx hb dX0_eventsOfKind_25 hl (k := 3) rfl (nI_add k 1) (by decide) rfl (fun ls hl => ?_)
          refine lv_goto (tgt := 4) hx hb dX0_eventsOfKind_28 (by decide) ?_
          exact ih4_1 (k + 1) f (by omega) (by first | assumption | omega | grind | simp_all) (by rw [pn_cnt]; split <;> first | (rw [e1]; done) | exact e1 | (exfalso; grind)) _ _ _ hP hS (lv_sub hl [1, 2, 3, 0] rfl)
        · refine lv_iinc (v := (nI (f + 1))) (lv' := [(2, .int (nI (f + 1))), (0, .ref h0), (1, .int kd), (3, .int (nI k))]) hx hb dX0_eventsOfKind_22 hl (k := 2) rfl (nI_add f 1) (by decide) rfl (fun ls hl => ?_)
          refine lv_iinc (v := (nI (k + 1))) (lv' := [(3, .int (nI (k + 1))), (2, .int (nI (f + 1))), (0, .ref h0), (1, .int kd)]) hx hb dX0_eventsOfKind_25 hl (k := 3) rfl (nI_add k 1) (by decide) rfl (fun ls hl => ?_)
          refine lv_goto (tgt := 4) hx hb dX0_eventsOfKind_28 (by decide) ?_
          exact ih4_1 (k + 1) (f + 1) (by omega) (by first | assumption | omega | grind | simp_all) (by rw [pn_cnt]; split <;> first | (rw [e1]; done) | exact e1 | (exfalso; grind)) _ _ _ hP hS (lv_sub hl [2, 3, 1, 0] rfl)
  exact lp4_1 ((n - 0) + 1) 0 0 (Nat.lt_succ_self _) (by first | assumption | omega | grind | simp_all) rfl _ _ _ hP hS (lv_sub hl [2, 3, 1, 0] rfl)

theorem ih_X0_parishesNow_X0 : ∀ w ∈ wsX00, w ∈ wsX0_parishesNow := by decide +kernel
set_option maxHeartbeats 4000000 in
set_option maxRecDepth 100000 in
theorem c_X0_parishesNow (l : Launch) (D : va_G) (cI cL cZ cO : ClassId) (h0 q1 q2 q3 q4 q5 q6 : Nat) (K Y P S O : Nat → Int32) (N : Nat → Int64) (n F : Nat) (hn : n ≤ 30) (hF : F ≤ 16) : Met l yX0_parishesNow wsX0_parishesNow ({ frames := 3, cells := 0, slots := 0, locals := 68 }) (va_Pc [.ref h0] (pn_Pr D cI cL cZ cO [(h0, .inr (0, [.ref q1, .ref q2, .ref q3, .ref q4, .ref q5, .ref q6, .int (nI n), .int (nI F)])), (q1, .inl (cI, 30, .inl K)), (q2, .inl (cI, 30, .inl Y)), (q3, .inl (cI, 30, .inl P)), (q4, .inl (cI, 30, .inl S)), (q5, .inl (cI, 30, .inl O)), (q6, .inl (cL, 30, .inr (.inl N)))])) (va_Qi (fun r (_ : Unit) => r = (nI (pn_cnt (fun i => ¬ pn_sit P S O (nI i) n = 0) F))) (fun _ _ => True) pn_No) 0 0 pn_No := by
  refine pn_mk (by decide) rfl (Nat.le_of_ble_eq_true rfl) ?_
  intro p e s m below meth c ls hx hb hr hml hown hts hlocks hK hP hl
  have hown : s.vm.findClass RX0 = some m.cls := hown
  have hS : va_S pn_No s.heap s.heap [] := va_S.rf
  have hl : lv_has ls 3 [(0, .ref h0)] := hl
  refine lv_iconst (v := (nI 0)) hx hb dX0_parishesNow_0 (by decide) ?_
  refine lv_istore_n (lv' := [(1, .int (nI 0)), (0, .ref h0)]) hx hb dX0_parishesNow_1 rfl hl (by decide) rfl (fun ls hl => ?_)
  refine lv_iconst (v := (nI 0)) hx hb dX0_parishesNow_2 (by decide) ?_
  refine lv_istore_n (lv' := [(2, .int (nI 0)), (1, .int (nI 0)), (0, .ref h0)]) hx hb dX0_parishesNow_3 rfl hl (by decide) rfl (fun ls hl => ?_)
  have lp4_1 : ∀ (fu : Nat) (k : Nat) (f : Nat), F - k < fu → (k ≤ F) → (f = pn_cnt (fun i => ¬ pn_sit P S O (nI i) n = 0) k) → ∀ (H : Heap) (locs : List Loc) (ls : Array Slot), va_P D vwCl [(h0, .inr (0, [.ref q1, .ref q2, .ref q3, .ref q4, .ref q5, .ref q6, .int (nI n), .int (nI F)])), (q1, .inl (cI, 30, .inl K)), (q2, .inl (cI, 30, .inl Y)), (q3, .inl (cI, 30, .inl P)), (q4, .inl (cI, 30, .inl S)), (q5, .inl (cI, 30, .inl O)), (q6, .inl (cL, 30, .inr (.inl N)))] H → va_S pn_No s.heap H locs → lv_has ls 3 [(0, .ref h0), (1, .int (nI f)), (2, .int (nI k))] → W p l e ({ frames := 3, cells := 0, slots := 0, locals := 68 }) s m (List.toArray [.ref h0]) below meth c H locs 0 0 (MQ below (va_Qi (fun r (_ : Unit) => r = (nI (pn_cnt (fun i => ¬ pn_sit P S O (nI i) n = 0) F))) (fun _ _ => True) pn_No) (List.toArray [.ref h0]) s 0 0 pn_No) (F0 m 4 ls []) := by
    intro fu
    induction fu with
    | zero => intro k f hfu; exact absurd hfu (Nat.not_lt_zero _)
    | succ fu ih4_1 =>
      intro k f hfu hk e1 H locs ls hP hS hl
      refine lv_iload_n hx hb dX0_parishesNow_4 rfl (lv_at hl 2 rfl) ?_
      refine lv_aload_n hx hb dX0_parishesNow_5 rfl (lv_at hl 0 rfl) ?_
      refine va_get (D := D) (ci := 0) (v := .int (nI F)) (C := RX0) (T := TX0) (N := 8) hx hb hts ih_X0_parishesNow_X0 hown hK.1 hP 0 rfl rfl 7 (by decide) (hts (.fieldLink RX0 35 "ParishNames$Chronicle" "founded" "I") (by decide +kernel)) (fun _ h9 => h9) rfl dX0_parishesNow_6 ?_
      refine lv_icmp_ge (tgt := 29) hx hb dX0_parishesNow_9 (by decide) (fun c_2 => ?_) (fun c_2 => ?_)
      · have c_2 : F ≤ k := (pn_le (by omega) (by omega)).mp (show nI F ≤ nI k from c_2)
        refine lv_iload_n hx hb dX0_parishesNow_29 rfl (lv_at hl 1 rfl) ?_
        exact W.iret hx hb hr (fun t ht hW => ⟨⟨_, (), rfl, (by rw [e1, show k = F by omega]), trivial⟩, hS.F ht⟩) hS.2.2 dX0_parishesNow_30 hlocks
      · have c_2 : ¬ F ≤ k := fun h => (show ¬ nI F ≤ nI k from c_2) ((pn_le (by omega) (by omega)).mpr h)
        refine lv_aload_n hx hb dX0_parishesNow_12 rfl (lv_at hl 0 rfl) ?_
        refine lv_iload_n hx hb dX0_parishesNow_13 rfl (lv_at hl 2 rfl) ?_
        refine pn_roi (w := [(h0, .inr (0, [.ref q1, .ref q2, .ref q3, .ref q4, .ref q5, .ref q6, .int (nI n), .int (nI F)])), (q1, .inl (cI, 30, .inl K)), (q2, .inl (cI, 30, .inl Y)), (q3, .inl (cI, 30, .inl P)), (q4, .inl (cI, 30, .inl S)), (q5, .inl (cI, 30, .inl O)), (q6, .inl (cL, 30, .inr (.inl N)))]) hP hS (va_runV (As := [.int (nI k)]) (rest := []) ⟨hx, hb, hml, hown, hts⟩ (c_X0_sitesNow l D cI cL cZ cO h0 q1 q2 q3 q4 q5 q6 K Y P S O N n F (nI k) (by first | assumption | omega | grind | simp_all)) (cwV 1 hts gX0_parishesNow_X0_sitesNow rfl rfl rfl (by decide +kernel) ⟨Nat.le_of_ble_eq_true rfl, Nat.le_of_ble_eq_true rfl⟩) (pn_pv hP hK (q0 := 0) rfl rfl) rfl rfl hl.1 rfl (lv_room (Nat.le_of_ble_eq_true rfl)) dX0_parishesNow_14 ⟨Nat.le_of_ble_eq_true rfl, Nat.le_of_ble_eq_true rfl⟩) (fun H locs hP hS => ?_)
        refine lv_if_eq (tgt := 23) hx hb dX0_parishesNow_17 (by decide) (fun c_3 => ?_) (fun c_3 => ?_)
        · refine lv_iinc (v := (nI (k + 1))) (lv' := [(2, .int (nI (k + 1))), (0, .ref h0), (1, .int (nI f))]) hx hb dX0_parishesNow_23 hl (k := 2) rfl (nI_add k 1) (by decide) rfl (fun ls hl => ?_)
          refine lv_goto (tgt := 4) hx hb dX0_parishesNow_26 (by decide) ?_
          exact ih4_1 (k + 1) f (by omega) (by first | assumption | omega | grind | simp_all) (by rw [pn_cnt]; split <;> first | (rw [e1]; done) | exact e1 | (exfalso; grind)) _ _ _ hP hS (lv_sub hl [1, 2, 0] rfl)
        · refine lv_iinc (v := (nI (f + 1))) (lv' := [(1, .int (nI (f + 1))), (0, .ref h0), (2, .int (nI k))]) hx hb dX0_parishesNow_20 hl (k := 1) rfl (nI_add f 1) (by decide) rfl (fun ls hl => ?_)
          refine lv_iinc (v := (nI (k + 1))) (lv' := [(2, .int (nI (k + 1))), (1, .int (nI (f + 1))), (0, .ref h0)]) hx hb dX0_parishesNow_23 hl (k := 2) rfl (nI_add k 1) (by decide) rfl (fun ls hl => ?_)
          refine lv_goto (tgt := 4) hx hb dX0_parishesNow_26 (by decide) ?_
          exact ih4_1 (k + 1) (f + 1) (by omega) (by first | assumption | omega | grind | simp_all) (by rw [pn_cnt]; split <;> first | (rw [e1]; done) | exact e1 | (exfalso; grind)) _ _ _ hP hS (lv_sub hl [2, 1, 0] rfl)
  exact lp4_1 ((F - 0) + 1) 0 0 (Nat.lt_succ_self _) (by first | assumption | omega | grind | simp_all) rfl _ _ _ hP hS (lv_sub hl [2, 1, 0] rfl)

theorem ih_X0_isNameOfLesser_X0 : ∀ w ∈ wsX00, w ∈ wsX0_isNameOfLesser := by decide +kernel
set_option maxHeartbeats 4000000 in
set_option maxRecDepth 100000 in
theorem c_X0_isNameOfLesser (l : Launch) (D : va_G) (cI cL cZ cO : ClassId) (h0 q1 q2 q3 q4 q5 q6 : Nat) (K Y P S O : Nat → Int32) (N : Nat → Int64) (n F : Nat) (b : Nat) (hn : n ≤ 30) (hb16 : b ≤ 16) : Met l yX0_isNameOfLesser wsX0_isNameOfLesser ({ frames := 3, cells := 0, slots := 0, locals := 68 }) (va_Pc [.ref h0, .int (nI b)] (pn_Pr D cI cL cZ cO [(h0, .inr (0, [.ref q1, .ref q2, .ref q3, .ref q4, .ref q5, .ref q6, .int (nI n), .int (nI F)])), (q1, .inl (cI, 30, .inl K)), (q2, .inl (cI, 30, .inl Y)), (q3, .inl (cI, 30, .inl P)), (q4, .inl (cI, 30, .inl S)), (q5, .inl (cI, 30, .inl O)), (q6, .inl (cL, 30, .inr (.inl N)))])) (va_Qi (fun r (_ : Unit) => r = (pn_b (pn_nol K P S O N n b))) (fun _ _ => True) pn_No) 0 0 pn_No := by
  refine pn_mk (by decide) rfl (Nat.le_of_ble_eq_true rfl) ?_
  intro p e s m below meth c ls hx hb hr hml hown hts hlocks hK hP hl
  have hown : s.vm.findClass RX0 = some m.cls := hown
  have hS : va_S pn_No s.heap s.heap [] := va_S.rf
  have hl : lv_has ls 5 [(0, .ref h0), (1, .int (nI b))] := hl
  refine lv_aload_n hx hb dX0_isNameOfLesser_0 rfl (lv_at hl 0 rfl) ?_
  refine lv_iload_n hx hb dX0_isNameOfLesser_1 rfl (lv_at hl 1 rfl) ?_
  refine lv_aload_n hx hb dX0_isNameOfLesser_2 rfl (lv_at hl 0 rfl) ?_
  refine va_get (D := D) (ci := 0) (v := .int (nI n)) (C := RX0) (T := TX0) (N := 8) hx hb hts ih_X0_isNameOfLesser_X0 hown hK.1 hP 0 rfl rfl 6 (by decide) (hts (.fieldLink RX0 31 "ParishNames$Chronicle" "told" "I") (by decide +kernel)) (fun _ h9 => h9) rfl dX0_isNameOfLesser_3 ?_
  refine pn_rol (w := [(h0, .inr (0, [.ref q1, .ref q2, .ref q3, .ref q4, .ref q5, .ref q6, .int (nI n), .int (nI F)])), (q1, .inl (cI, 30, .inl K)), (q2, .inl (cI, 30, .inl Y)), (q3, .inl (cI, 30, .inl P)), (q4, .inl (cI, 30, .inl S)), (q5, .inl (cI, 30, .inl O)), (q6, .inl (cL, 30, .inr (.inl N)))]) hP hS (va_runV (As := [.int (nI b), .int (nI n)]) (rest := []) ⟨hx, hb, hml, hown, hts⟩ (c_X0_nameBehind l D cI cL cZ cO h0 q1 q2 q3 q4 q5 q6 K Y P S O N n F (nI b) n (by first | assumption | omega | grind | simp_all) (by first | assumption | omega | grind | simp_all)) (cwV 2 hts gX0_isNameOfLesser_X0_nameBehind rfl rfl rfl (by decide +kernel) ⟨Nat.le_of_ble_eq_true rfl, Nat.le_of_ble_eq_true rfl⟩) (pn_pv hP hK (q0 := 0) rfl rfl) rfl rfl hl.1 rfl (lv_room (Nat.le_of_ble_eq_true rfl)) dX0_isNameOfLesser_6 ⟨Nat.le_of_ble_eq_true rfl, Nat.le_of_ble_eq_true rfl⟩) (fun H locs hP hS => ?_)
  refine lv_lstore_n (lv' := [(2, .long (pn_nam K P O N (nI b) n)), (0, .ref h0), (1, .int (nI b))]) hx hb dX0_isNameOfLesser_9 rfl hl (by decide) rfl (fun ls hl => ?_)
  refine lv_iconst (v := (nI 0)) hx hb dX0_isNameOfLesser_10 (by decide) ?_
  refine lv_istore (lv' := [(4, .int (nI 0)), (2, .long (pn_nam K P O N (nI b) n)), (0, .ref h0), (1, .int (nI b))]) hx hb dX0_isNameOfLesser_11 hl (by decide) rfl (fun ls hl => ?_)
  have lp13_1 : ∀ (fu : Nat) (k : Nat), b - k < fu → (k ≤ b) → (∀ i, i < k → ¬ (¬ pn_sit P S O (nI i) n = 0 ∧ pn_nam K P O N (nI i) n = pn_nam K P O N (nI b) n)) → ∀ (H : Heap) (locs : List Loc) (ls : Array Slot), va_P D vwCl [(h0, .inr (0, [.ref q1, .ref q2, .ref q3, .ref q4, .ref q5, .ref q6, .int (nI n), .int (nI F)])), (q1, .inl (cI, 30, .inl K)), (q2, .inl (cI, 30, .inl Y)), (q3, .inl (cI, 30, .inl P)), (q4, .inl (cI, 30, .inl S)), (q5, .inl (cI, 30, .inl O)), (q6, .inl (cL, 30, .inr (.inl N)))] H → va_S pn_No s.heap H locs → lv_has ls 5 [(0, .ref h0), (1, .int (nI b)), (2, .long (pn_nam K P O N (nI b) n)), (4, .int (nI k))] → W p l e ({ frames := 3, cells := 0, slots := 0, locals := 68 }) s m (List.toArray [.ref h0, .int (nI b)]) below meth c H locs 0 0 (MQ below (va_Qi (fun r (_ : Unit) => r = (pn_b (pn_nol K P S O N n b))) (fun _ _ => True) pn_No) (List.toArray [.ref h0, .int (nI b)]) s 0 0 pn_No) (F0 m 13 ls []) := by
    intro fu
    induction fu with
    | zero => intro k hfu; exact absurd hfu (Nat.not_lt_zero _)
    | succ fu ih13_1 =>
      intro k hfu hk e1 H locs ls hP hS hl
      refine lv_iload hx hb dX0_isNameOfLesser_13 (lv_at hl 3 rfl) ?_
      refine lv_iload_n hx hb dX0_isNameOfLesser_15 rfl (lv_at hl 1 rfl) ?_
      refine lv_icmp_ge (tgt := 51) hx hb dX0_isNameOfLesser_16 (by decide) (fun c_2 => ?_) (fun c_2 => ?_)
      · have c_2 : b ≤ k := (pn_le (by omega) (by omega)).mp (show nI b ≤ nI k from c_2)
        refine lv_iconst (v := (nI 0)) hx hb dX0_isNameOfLesser_51 (by decide) ?_
        exact W.zret hx hb hr (by decide) (fun t ht hW => ⟨⟨_, (), rfl, (pn_bf (fun ⟨i, h1, h2⟩ => e1 i (by omega) h2)), trivial⟩, hS.F ht⟩) hS.2.2 dX0_isNameOfLesser_52 hlocks
      · have c_2 : ¬ b ≤ k := fun h => (show ¬ nI b ≤ nI k from c_2) ((pn_le (by omega) (by omega)).mpr h)
        refine lv_aload_n hx hb dX0_isNameOfLesser_19 rfl (lv_at hl 0 rfl) ?_
        refine lv_iload hx hb dX0_isNameOfLesser_20 (lv_at hl 3 rfl) ?_
        refine pn_roi (w := [(h0, .inr (0, [.ref q1, .ref q2, .ref q3, .ref q4, .ref q5, .ref q6, .int (nI n), .int (nI F)])), (q1, .inl (cI, 30, .inl K)), (q2, .inl (cI, 30, .inl Y)), (q3, .inl (cI, 30, .inl P)), (q4, .inl (cI, 30, .inl S)), (q5, .inl (cI, 30, .inl O)), (q6, .inl (cL, 30, .inr (.inl N)))]) hP hS (va_runV (As := [.int (nI k)]) (rest := []) ⟨hx, hb, hml, hown, hts⟩ (c_X0_sitesNow l D cI cL cZ cO h0 q1 q2 q3 q4 q5 q6 K Y P S O N n F (nI k) (by first | assumption | omega | grind | simp_all)) (cwV 1 hts gX0_isNameOfLesser_X0_sitesNow rfl rfl rfl (by decide +kernel) ⟨Nat.le_of_ble_eq_true rfl, Nat.le_of_ble_eq_true rfl⟩) (pn_pv hP hK (q0 := 0) rfl rfl) rfl rfl hl.1 rfl (lv_room (Nat.le_of_ble_eq_true rfl)) dX0_isNameOfLesser_22 ⟨Nat.le_of_ble_eq_true rfl, Nat.le_of_ble_eq_true rfl⟩) (fun H locs hP hS => ?_)
        refine lv_if_eq (tgt := 45) hx hb dX0_isNameOfLesser_25 (by decide) (fun c_3 => ?_) (fun c_3 => ?_)
        · refine lv_iinc (v := (nI (k + 1))) (lv' := [(4, .int (nI (k + 1))), (0, .ref h0), (1, .int (nI b)), (2, .long (pn_nam K P O N (nI b) n))]) hx hb dX0_isNameOfLesser_45 hl (k := 3) rfl (nI_add k 1) (by decide) rfl (fun ls hl => ?_)
          refine lv_goto (tgt := 13) hx hb dX0_isNameOfLesser_48 (by decide) ?_
          exact ih13_1 (k + 1) (by omega) (by first | assumption | omega | grind | simp_all) (lt_s e1 (fun h => by first | exact h.1 (by assumption) | exact (by assumption : ¬ _) h.2)) _ _ _ hP hS (lv_sub hl [1, 2, 3, 0] rfl)
        · refine lv_aload_n hx hb dX0_isNameOfLesser_28 rfl (lv_at hl 0 rfl) ?_
          refine lv_iload hx hb dX0_isNameOfLesser_29 (lv_at hl 3 rfl) ?_
          refine lv_aload_n hx hb dX0_isNameOfLesser_31 rfl (lv_at hl 0 rfl) ?_
          refine va_get (D := D) (ci := 0) (v := .int (nI n)) (C := RX0) (T := TX0) (N := 8) hx hb hts ih_X0_isNameOfLesser_X0 hown hK.1 hP 0 rfl rfl 6 (by decide) (hts (.fieldLink RX0 31 "ParishNames$Chronicle" "told" "I") (by decide +kernel)) (fun _ h9 => h9) rfl dX0_isNameOfLesser_32 ?_
          refine pn_rol (w := [(h0, .inr (0, [.ref q1, .ref q2, .ref q3, .ref q4, .ref q5, .ref q6, .int (nI n), .int (nI F)])), (q1, .inl (cI, 30, .inl K)), (q2, .inl (cI, 30, .inl Y)), (q3, .inl (cI, 30, .inl P)), (q4, .inl (cI, 30, .inl S)), (q5, .inl (cI, 30, .inl O)), (q6, .inl (cL, 30, .inr (.inl N)))]) hP hS (va_runV (As := [.int (nI k), .int (nI n)]) (rest := []) ⟨hx, hb, hml, hown, hts⟩ (c_X0_nameBehind l D cI cL cZ cO h0 q1 q2 q3 q4 q5 q6 K Y P S O N n F (nI k) n (by first | assumption | omega | grind | simp_all) (by first | assumption | omega | grind | simp_all)) (cwV 2 hts gX0_isNameOfLesser_X0_nameBehind rfl rfl rfl (by decide +kernel) ⟨Nat.le_of_ble_eq_true rfl, Nat.le_of_ble_eq_true rfl⟩) (pn_pv hP hK (q0 := 0) rfl rfl) rfl rfl hl.1 rfl (lv_room (Nat.le_of_ble_eq_true rfl)) dX0_isNameOfLesser_35 ⟨Nat.le_of_ble_eq_true rfl, Nat.le_of_ble_eq_true rfl⟩) (fun H locs hP hS => ?_)
          refine lv_lload_n hx hb dX0_isNameOfLesser_38 rfl (lv_at hl 2 rfl) ?_
          refine W.lcmp hx hb dX0_isNameOfLesser_39 ?_
          refine lv_if_ne (tgt := 45) hx hb dX0_isNameOfLesser_40 (by decide) (fun c_4 => ?_) (fun c_4 => ?_)
          · have c_4 : ¬ (pn_nam K P O N (nI k) n) = (pn_nam K P O N (nI b) n) := fun h => c_4 (pn_cmp0.mpr h)
            refine lv_iinc (v := (nI (k + 1))) (lv' := [(4, .int (nI (k + 1))), (0, .ref h0), (1, .int (nI b)), (2, .long (pn_nam K P O N (nI b) n))]) hx hb dX0_isNameOfLesser_45 hl (k := 3) rfl (nI_add k 1) (by decide) rfl (fun ls hl => ?_)
            refine lv_goto (tgt := 13) hx hb dX0_isNameOfLesser_48 (by decide) ?_
            exact ih13_1 (k + 1) (by omega) (by first | assumption | omega | grind | simp_all) (lt_s e1 (fun h => by first | exact h.1 (by assumption) | exact (by assumption : ¬ _) h.2)) _ _ _ hP hS (lv_sub hl [1, 2, 3, 0] rfl)
          · have c_4 : (pn_nam K P O N (nI k) n) = (pn_nam K P O N (nI b) n) := pn_cmp0.mp c_4
            refine lv_iconst (v := (nI 1)) hx hb dX0_isNameOfLesser_43 (by decide) ?_
            exact W.zret hx hb hr (by decide) (fun t ht hW => ⟨⟨_, (), rfl, (pn_bt ⟨k, by omega, by assumption, by assumption⟩), trivial⟩, hS.F ht⟩) hS.2.2 dX0_isNameOfLesser_44 hlocks
  exact lp13_1 ((b - 0) + 1) 0 (Nat.lt_succ_self _) (by first | assumption | omega | grind | simp_all) (fun i h => absurd h (Nat.not_lt_zero _)) _ _ _ hP hS (lv_sub hl [2, 3, 1, 0] rfl)

theorem ih_X0_unlikeNamesNow_X0 : ∀ w ∈ wsX00, w ∈ wsX0_unlikeNamesNow := by decide +kernel
set_option maxHeartbeats 4000000 in
set_option maxRecDepth 100000 in
theorem c_X0_unlikeNamesNow (l : Launch) (D : va_G) (cI cL cZ cO : ClassId) (h0 q1 q2 q3 q4 q5 q6 : Nat) (K Y P S O : Nat → Int32) (N : Nat → Int64) (n F : Nat) (hn : n ≤ 30) (hF : F ≤ 16) : Met l yX0_unlikeNamesNow wsX0_unlikeNamesNow ({ frames := 4, cells := 0, slots := 0, locals := 92 }) (va_Pc [.ref h0] (pn_Pr D cI cL cZ cO [(h0, .inr (0, [.ref q1, .ref q2, .ref q3, .ref q4, .ref q5, .ref q6, .int (nI n), .int (nI F)])), (q1, .inl (cI, 30, .inl K)), (q2, .inl (cI, 30, .inl Y)), (q3, .inl (cI, 30, .inl P)), (q4, .inl (cI, 30, .inl S)), (q5, .inl (cI, 30, .inl O)), (q6, .inl (cL, 30, .inr (.inl N)))])) (va_Qi (fun r (_ : Unit) => r = (nI (pn_cnt (fun i => ¬ pn_sit P S O (nI i) n = 0 ∧ ¬ pn_nol K P S O N n i) F))) (fun _ _ => True) pn_No) 0 0 pn_No := by
  refine pn_mk (by decide) rfl (Nat.le_of_ble_eq_true rfl) ?_
  intro p e s m below meth c ls hx hb hr hml hown hts hlocks hK hP hl
  have hown : s.vm.findClass RX0 = some m.cls := hown
  have hS : va_S pn_No s.heap s.heap [] := va_S.rf
  have hl : lv_has ls 3 [(0, .ref h0)] := hl
  refine lv_iconst (v := (nI 0)) hx hb dX0_unlikeNamesNow_0 (by decide) ?_
  refine lv_istore_n (lv' := [(1, .int (nI 0)), (0, .ref h0)]) hx hb dX0_unlikeNamesNow_1 rfl hl (by decide) rfl (fun ls hl => ?_)
  refine lv_iconst (v := (nI 0)) hx hb dX0_unlikeNamesNow_2 (by decide) ?_
  refine lv_istore_n (lv' := [(2, .int (nI 0)), (1, .int (nI 0)), (0, .ref h0)]) hx hb dX0_unlikeNamesNow_3 rfl hl (by decide) rfl (fun ls hl => ?_)
  have lp4_1 : ∀ (fu : Nat) (k : Nat) (f : Nat), F - k < fu → (k ≤ F) → (f = pn_cnt (fun i => ¬ pn_sit P S O (nI i) n = 0 ∧ ¬ pn_nol K P S O N n i) k) → ∀ (H : Heap) (locs : List Loc) (ls : Array Slot), va_P D vwCl [(h0, .inr (0, [.ref q1, .ref q2, .ref q3, .ref q4, .ref q5, .ref q6, .int (nI n), .int (nI F)])), (q1, .inl (cI, 30, .inl K)), (q2, .inl (cI, 30, .inl Y)), (q3, .inl (cI, 30, .inl P)), (q4, .inl (cI, 30, .inl S)), (q5, .inl (cI, 30, .inl O)), (q6, .inl (cL, 30, .inr (.inl N)))] H → va_S pn_No s.heap H locs → lv_has ls 3 [(0, .ref h0), (1, .int (nI f)), (2, .int (nI k))] → W p l e ({ frames := 4, cells := 0, slots := 0, locals := 92 }) s m (List.toArray [.ref h0]) below meth c H locs 0 0 (MQ below (va_Qi (fun r (_ : Unit) => r = (nI (pn_cnt (fun i => ¬ pn_sit P S O (nI i) n = 0 ∧ ¬ pn_nol K P S O N n i) F))) (fun _ _ => True) pn_No) (List.toArray [.ref h0]) s 0 0 pn_No) (F0 m 4 ls []) := by
    intro fu
    induction fu with
    | zero => intro k f hfu; exact absurd hfu (Nat.not_lt_zero _)
    | succ fu ih4_1 =>
      intro k f hfu hk e1 H locs ls hP hS hl
      refine lv_iload_n hx hb dX0_unlikeNamesNow_4 rfl (lv_at hl 2 rfl) ?_
      refine lv_aload_n hx hb dX0_unlikeNamesNow_5 rfl (lv_at hl 0 rfl) ?_
      refine va_get (D := D) (ci := 0) (v := .int (nI F)) (C := RX0) (T := TX0) (N := 8) hx hb hts ih_X0_unlikeNamesNow_X0 hown hK.1 hP 0 rfl rfl 7 (by decide) (hts (.fieldLink RX0 35 "ParishNames$Chronicle" "founded" "I") (by decide +kernel)) (fun _ h9 => h9) rfl dX0_unlikeNamesNow_6 ?_
      refine lv_icmp_ge (tgt := 37) hx hb dX0_unlikeNamesNow_9 (by decide) (fun c_2 => ?_) (fun c_2 => ?_)
      · have c_2 : F ≤ k := (pn_le (by omega) (by omega)).mp (show nI F ≤ nI k from c_2)
        refine lv_iload_n hx hb dX0_unlikeNamesNow_37 rfl (lv_at hl 1 rfl) ?_
        exact W.iret hx hb hr (fun t ht hW => ⟨⟨_, (), rfl, (by rw [e1, show k = F by omega]), trivial⟩, hS.F ht⟩) hS.2.2 dX0_unlikeNamesNow_38 hlocks
      · have c_2 : ¬ F ≤ k := fun h => (show ¬ nI F ≤ nI k from c_2) ((pn_le (by omega) (by omega)).mpr h)
        refine lv_aload_n hx hb dX0_unlikeNamesNow_12 rfl (lv_at hl 0 rfl) ?_
        refine lv_iload_n hx hb dX0_unlikeNamesNow_13 rfl (lv_at hl 2 rfl) ?_
        refine pn_roi (w := [(h0, .inr (0, [.ref q1, .ref q2, .ref q3, .ref q4, .ref q5, .ref q6, .int (nI n), .int (nI F)])), (q1, .inl (cI, 30, .inl K)), (q2, .inl (cI, 30, .inl Y)), (q3, .inl (cI, 30, .inl P)), (q4, .inl (cI, 30, .inl S)), (q5, .inl (cI, 30, .inl O)), (q6, .inl (cL, 30, .inr (.inl N)))]) hP hS (va_runV (As := [.int (nI k)]) (rest := []) ⟨hx, hb, hml, hown, hts⟩ (c_X0_sitesNow l D cI cL cZ cO h0 q1 q2 q3 q4 q5 q6 K Y P S O N n F (nI k) (by first | assumption | omega | grind | simp_all)) (cwV 1 hts gX0_unlikeNamesNow_X0_sitesNow rfl rfl rfl (by decide +kernel) ⟨Nat.le_of_ble_eq_true rfl, Nat.le_of_ble_eq_true rfl⟩) (pn_pv hP hK (q0 := 0) rfl rfl) rfl rfl hl.1 rfl (lv_room (Nat.le_of_ble_eq_true rfl)) dX0_unlikeNamesNow_14 ⟨Nat.le_of_ble_eq_true rfl, Nat.le_of_ble_eq_true rfl⟩) (fun H locs hP hS => ?_)
        refine lv_if_eq (tgt := 31) hx hb dX0_unlikeNamesNow_17 (by decide) (fun c_3 => ?_) (fun c_3 => ?_)
        · refine lv_iinc (v := (nI (k + 1))) (lv' := [(2, .int (nI (k + 1))), (0, .ref h0), (1, .int (nI f))]) hx hb dX0_unlikeNamesNow_31 hl (k := 2) rfl (nI_add k 1) (by decide) rfl (fun ls hl => ?_)
          refine lv_goto (tgt := 4) hx hb dX0_unlikeNamesNow_34 (by decide) ?_
          exact ih4_1 (k + 1) f (by omega) (by first | assumption | omega | grind | simp_all) (by rw [pn_cnt]; split <;> first | (rw [e1]; done) | exact e1 | (exfalso; grind)) _ _ _ hP hS (lv_sub hl [1, 2, 0] rfl)
        · refine lv_aload_n hx hb dX0_unlikeNamesNow_20 rfl (lv_at hl 0 rfl) ?_
          refine lv_iload_n hx hb dX0_unlikeNamesNow_21 rfl (lv_at hl 2 rfl) ?_
          refine pn_roi (w := [(h0, .inr (0, [.ref q1, .ref q2, .ref q3, .ref q4, .ref q5, .ref q6, .int (nI n), .int (nI F)])), (q1, .inl (cI, 30, .inl K)), (q2, .inl (cI, 30, .inl Y)), (q3, .inl (cI, 30, .inl P)), (q4, .inl (cI, 30, .inl S)), (q5, .inl (cI, 30, .inl O)), (q6, .inl (cL, 30, .inr (.inl N)))]) hP hS (va_runV (As := [.int (nI k)]) (rest := []) ⟨hx, hb, hml, hown, hts⟩ (c_X0_isNameOfLesser l D cI cL cZ cO h0 q1 q2 q3 q4 q5 q6 K Y P S O N n F k (by first | assumption | omega | grind | simp_all) (by first | assumption | omega | grind | simp_all)) (cwV 1 hts gX0_unlikeNamesNow_X0_isNameOfLesser rfl rfl rfl (by decide +kernel) ⟨Nat.le_of_ble_eq_true rfl, Nat.le_of_ble_eq_true rfl⟩) (pn_pv hP hK (q0 := 0) rfl rfl) rfl rfl hl.1 rfl (lv_room (Nat.le_of_ble_eq_true rfl)) dX0_unlikeNamesNow_22 ⟨Nat.le_of_ble_eq_true rfl, Nat.le_of_ble_eq_true rfl⟩) (fun H locs hP hS => ?_)
          refine lv_if_ne (tgt := 31) hx hb dX0_unlikeNamesNow_25 (by decide) (fun c_4 => ?_) (fun c_4 => ?_)
          · have c_4 : pn_nol K P S O N n k := pn_b1.mp c_4
            refine lv_iinc (v := (nI (k + 1))) (lv' := [(2, .int (nI (k + 1))), (0, .ref h0), (1, .int (nI f))]) hx hb dX0_unlikeNamesNow_31 hl (k := 2) rfl (nI_add k 1) (by decide) rfl (fun ls hl => ?_)
            refine lv_goto (tgt := 4) hx hb dX0_unlikeNamesNow_34 (by decide) ?_
            exact ih4_1 (k + 1) f (by omega) (by first | assumption | omega | grind | simp_all) (by rw [pn_cnt]; split <;> first | (rw [e1]; done) | exact e1 | (exfalso; grind)) _ _ _ hP hS (lv_sub hl [1, 2, 0] rfl)
          · have c_4 : ¬ (pn_nol K P S O N n k) := pn_b0.mp c_4
            refine lv_iinc (v := (nI (f + 1))) (lv' := [(1, .int (nI (f + 1))), (0, .ref h0), (2, .int (nI k))]) hx hb dX0_unlikeNamesNow_28 hl (k := 1) rfl (nI_add f 1) (by decide) rfl (fun ls hl => ?_)
            refine lv_iinc (v := (nI (k + 1))) (lv' := [(2, .int (nI (k + 1))), (1, .int (nI (f + 1))), (0, .ref h0)]) hx hb dX0_unlikeNamesNow_31 hl (k := 2) rfl (nI_add k 1) (by decide) rfl (fun ls hl => ?_)
            refine lv_goto (tgt := 4) hx hb dX0_unlikeNamesNow_34 (by decide) ?_
            exact ih4_1 (k + 1) (f + 1) (by omega) (by first | assumption | omega | grind | simp_all) (by rw [pn_cnt]; split <;> first | (rw [e1]; done) | exact e1 | (exfalso; grind)) _ _ _ hP hS (lv_sub hl [2, 1, 0] rfl)
  exact lp4_1 ((F - 0) + 1) 0 0 (Nat.lt_succ_self _) (by first | assumption | omega | grind | simp_all) rfl _ _ _ hP hS (lv_sub hl [2, 1, 0] rfl)
end
