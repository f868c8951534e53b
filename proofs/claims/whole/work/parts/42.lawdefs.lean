/-! the law: what stands between two calls -/
def pn_INV (K Y P S O : Nat → Int32) (N : Nat → Int64) (n F : Nat) (K2 Y2 P2 S2 O2 : Nat → Int32) (N2 : Nat → Int64) (n2 F2 : Nat) (K3 Y3 P3 S3 O3 : Nat → Int32) (N3 : Nat → Int64) (n3 F3 : Nat) (ks : Int32) (pd : Int64) (St Im Kp Pd : Nat → Int32) (sd : Nat) : Prop :=
  pn_rel St K Y P S O N n F ∧ pn_pad Pd sd pd ∧ pn_ksr Kp ks ∧ (¬ Kp 0 = 0 → pn_rel (fun i => Im (422 * 0 + i)) K2 Y2 P2 S2 O2 N2 n2 F2) ∧ (¬ Kp 1 = 0 → pn_rel (fun i => Im (422 * 1 + i)) K3 Y3 P3 S3 O3 N3 n3 F3)
def pn_LW (D : va_G) (cI cL cZ cO : ClassId) (ad : Nat → Nat) (H : Heap) : Prop := ∃ (K Y P S O : Nat → Int32) (N : Nat → Int64) (n F : Nat) (K2 Y2 P2 S2 O2 : Nat → Int32) (N2 : Nat → Int64) (n2 F2 : Nat) (K3 Y3 P3 S3 O3 : Nat → Int32) (N3 : Nat → Int64) (n3 F3 : Nat) (Rw : Nat → Int32) (ks : Int32) (pd : Int64) (St Im Kp Pd : Nat → Int32) (sd : Nat) (Ow Nb Fi : Nat → Int32) (fl : Nat) (Se : Nat → Int32) (sl : Nat) (Fs : Nat → Int32) (fc : Nat) (Ss : Nat → Int32) (sc : Nat) (Co : Nat → Int32), pn_INV K Y P S O N n F K2 Y2 P2 S2 O2 N2 n2 F2 K3 Y3 P3 S3 O3 N3 n3 F3 ks pd St Im Kp Pd sd ∧ va_P D vwCl [((ad 0), .inr (2, [.ref (ad 2), .ref (ad 1), .ref (ad 23), .int ks, .long pd])), ((ad 1), .inl (cO, 2, .inr (.inr (.inr (.inr (fun i => if i = 0 then some (ad 9) else some (ad 16))))))), ((ad 2), .inr (0, [.ref (ad 3), .ref (ad 4), .ref (ad 5), .ref (ad 6), .ref (ad 7), .ref (ad 8), .int (nI n), .int (nI F)])), ((ad 3), .inl (cI, 30, .inl K)), ((ad 4), .inl (cI, 30, .inl Y)), ((ad 5), .inl (cI, 30, .inl P)), ((ad 6), .inl (cI, 30, .inl S)), ((ad 7), .inl (cI, 30, .inl O)), ((ad 8), .inl (cL, 30, .inr (.inl N))), ((ad 9), .inr (0, [.ref (ad 10), .ref (ad 11), .ref (ad 12), .ref (ad 13), .ref (ad 14), .ref (ad 15), .int (nI n2), .int (nI F2)])), ((ad 10), .inl (cI, 30, .inl K2)), ((ad 11), .inl (cI, 30, .inl Y2)), ((ad 12), .inl (cI, 30, .inl P2)), ((ad 13), .inl (cI, 30, .inl S2)), ((ad 14), .inl (cI, 30, .inl O2)), ((ad 15), .inl (cL, 30, .inr (.inl N2))), ((ad 16), .inr (0, [.ref (ad 17), .ref (ad 18), .ref (ad 19), .ref (ad 20), .ref (ad 21), .ref (ad 22), .int (nI n3), .int (nI F3)])), ((ad 17), .inl (cI, 30, .inl K3)), ((ad 18), .inl (cI, 30, .inl Y3)), ((ad 19), .inl (cI, 30, .inl P3)), ((ad 20), .inl (cI, 30, .inl S3)), ((ad 21), .inl (cI, 30, .inl O3)), ((ad 22), .inl (cL, 30, .inr (.inl N3))), ((ad 23), .inr (1, [.ref (ad 24)])), ((ad 24), .inl (cI, 9, .inl Rw)), ((ad 25), .inr (3, [.ref (ad 26), .ref (ad 27), .ref (ad 28), .ref (ad 29), .int (nI sd), .ref (ad 30), .ref (ad 31), .ref (ad 32), .int (nI fl), .ref (ad 33), .int (nI sl), .ref (ad 34), .int (nI fc), .ref (ad 35), .int (nI sc), .ref (ad 36)])), ((ad 26), .inl (cI, 422, .inl St)), ((ad 27), .inl (cI, 844, .inl Im)), ((ad 28), .inl (cZ, 2, .inl Kp)), ((ad 29), .inl (cI, 8, .inl Pd)), ((ad 30), .inl (cI, 12, .inl Ow)), ((ad 31), .inl (cI, 16, .inl Nb)), ((ad 32), .inl (cI, 8, .inl Fi)), ((ad 33), .inl (cI, 8, .inl Se)), ((ad 34), .inl (cI, 4, .inl Fs)), ((ad 35), .inl (cI, 4, .inl Ss)), ((ad 36), .inl (cI, 81, .inl Co))] H
def pn_En (p : Program) (s : State) (m : MethodId) (c : Code) (b L : Nat) (xs : Nat → Int32) (D : va_G) (cI cL cZ cO : ClassId) (ad : Nat → Nat) : Prop :=
  p.tables.exec = Jvm.exec ∧ c.code = cL_law ∧ c.maxLocals = 4 ∧ s.vm.findClass RL = some m.cls ∧ (∀ w ∈ wsL_law, w.before #[Value.ref b] s = true) ∧ pn_KB D cI cL cZ cO s ∧ va_X b L xs s s.heap ∧ b < s.heap.size ∧ L ≤ 3072 ∧ [ad 0, ad 1, ad 2, ad 3, ad 4, ad 5, ad 6, ad 7, ad 8, ad 9, ad 10, ad 11, ad 12, ad 13, ad 14, ad 15, ad 16, ad 17, ad 18, ad 19, ad 20, ad 21, ad 22, ad 23, ad 24, ad 25, ad 26, ad 27, ad 28, ad 29, ad 30, ad 31, ad 32, ad 33, ad 34, ad 35, ad 36].Nodup ∧ (∀ q, pn_In [ad 0, ad 1, ad 2, ad 3, ad 4, ad 5, ad 6, ad 7, ad 8, ad 9, ad 10, ad 11, ad 12, ad 13, ad 14, ad 15, ad 16, ad 17, ad 18, ad 19, ad 20, ad 21, ad 22, ad 23, ad 24, ad 25, ad 26, ad 27, ad 28, ad 29, ad 30, ad 31, ad 32, ad 33, ad 34, ad 35, ad 36] q → s.heap.size ≤ q)
section PNINV
variable {K Y P S O : Nat → Int32} {N : Nat → Int64} {n F : Nat} {K2 Y2 P2 S2 O2 : Nat → Int32} {N2 : Nat → Int64} {n2 F2 : Nat} {K3 Y3 P3 S3 O3 : Nat → Int32} {N3 : Nat → Int64} {n3 F3 : Nat} {ks : Int32} {pd : Int64} {St Im Kp Pd : Nat → Int32} {sd : Nat}
theorem pn_inv_say {x : Int32} (hI : pn_INV K Y P S O N n F K2 Y2 P2 S2 O2 N2 n2 F2 K3 Y3 P3 S3 O3 N3 n3 F3 ks pd St Im Kp Pd sd) (he : (pn_if (x < nI 97 ∨ ¬ x ≤ nI 122) (some (-2)) (pn_if (8 ≤ pn_len pd) (some (-4)) (none : Option Int32))) = none) : pn_INV K Y P S O N n F K2 Y2 P2 S2 O2 N2 n2 F2 K3 Y3 P3 S3 O3 N3 n3 F3 ks (pn_wl pd (pn_len pd) x) St Im Kp (upd Pd sd x) (sd + 1) := by
  obtain ⟨hR, hp, hk, i0, i1⟩ := hI
  obtain ⟨h1, he⟩ := pn_ifn he
  obtain ⟨h2, -⟩ := pn_ifn he
  have a1 : ¬ x < nI 97 := fun q => h1 (Or.inl q)
  have a2 : x ≤ nI 122 := Classical.not_not.mp (fun q => h1 (Or.inr q))
  have a0 : ¬ x < 0 := by
    intro q
    rw [fa_ltP] at q a1
    rw [show ((0 : Int32).toInt) = 0 from by decide] at q
    rw [show ((nI 97).toInt) = 97 from by decide] at a1
    omega
  obtain ⟨c, hc, rfl⟩ := pn_ofLe a0 a2 (by omega)
  have hc1 : 97 ≤ c := Nat.le_of_not_lt (fun q => a1 ((nI_ltI (by omega) (by omega)).mpr q))
  exact ⟨hR, pn_pad_say hp hc1 hc (Nat.lt_of_not_le h2), hk, i0, i1⟩
theorem pn_inv_wipe (hI : pn_INV K Y P S O N n F K2 Y2 P2 S2 O2 N2 n2 F2 K3 Y3 P3 S3 O3 N3 n3 F3 ks pd St Im Kp Pd sd) : pn_INV K Y P S O N n F K2 Y2 P2 S2 O2 N2 n2 F2 K3 Y3 P3 S3 O3 N3 n3 F3 ks 0 St Im Kp Pd 0 := by
  obtain ⟨hR, hp, hk, i0, i1⟩ := hI
  exact ⟨hR, pn_padZ Pd, hk, i0, i1⟩
theorem pn_inv_name {pa yr : Int32} (hI : pn_INV K Y P S O N n F K2 Y2 P2 S2 O2 N2 n2 F2 K3 Y3 P3 S3 O3 N3 n3 F3 ks pd St Im Kp Pd sd) (he : (pn_if (¬ pn_kn F pa) (some (-1)) (pn_if (¬ pn_yr yr) (some (-2)) (pn_if (pd = 0) (some (-7)) (pn_if (¬ pn_lY Y n ≤ yr) (some (-3)) (pn_if (pn_sit P S O pa n = 0) (some (-5)) (pn_if (30 ≤ n) (some (-4)) (none : Option Int32))))))) = none) : pn_INV (upd K n (nI 0)) (upd Y n yr) (upd P n pa) (upd S n (nI 0)) (upd O n (-6)) (vp_updL N n pd) (n + 1) F K2 Y2 P2 S2 O2 N2 n2 F2 K3 Y3 P3 S3 O3 N3 n3 F3 ks 0 (pn_takS (pn_addS St n (nI 0) yr pa (-6) (-6)) Pd n sd) Im Kp Pd 0 := by
  obtain ⟨hR, hp, hk, i0, i1⟩ := hI
  obtain ⟨h1, he⟩ := pn_ifn he
  obtain ⟨h2, he⟩ := pn_ifn he
  obtain ⟨h3, he⟩ := pn_ifn he
  obtain ⟨h4, he⟩ := pn_ifn he
  obtain ⟨h5, he⟩ := pn_ifn he
  obtain ⟨h6, -⟩ := pn_ifn he
  have hn : n < 30 := by omega
  have hs8 := pn_pad8 hp
  have hwn : pn_wn pd := hp.2.1.resolve_left h3
  refine ⟨pn_rel_add hR hn (fun j hj hx => ?_) ?_ ?_ (pn_fc_0 hR (by decide)).symm hR.F16 (Classical.not_not.mp h4) (pn_ev_new hR (sse := (-6)) (sow := (-6)) ?_ ?_ ?_ ?_ ?_ (Classical.not_not.mp h2) (pn_kn_n hR.F16 (Classical.not_not.mp h1)) (Or.inl ⟨rfl, rfl, rfl, rfl, rfl⟩) (fun _ => ⟨hwn, ?_, fun j hj => ?_⟩)), pn_padZ Pd, hk, i0, i1⟩
  · rw [pn_takS_o hs8 (by omega), pn_addS_o (by omega)]
  · rw [pn_takS_o hs8 (by omega), pn_addS_5]
  · rw [pn_takS_o hs8 (by omega), pn_addS_o (by omega)]; exact hR.F0
  · rw [pn_takS_o hs8 (by omega), pn_addS_0 hn]
  · rw [pn_takS_o hs8 (by omega), pn_addS_1 hn]
  · rw [pn_takS_o hs8 (by omega), pn_addS_2 hn]
  · rw [pn_takS_o hs8 (by omega), pn_addS_3 hn]
  · rw [pn_takS_o hs8 (by omega), pn_addS_4 hn]
  · rw [pn_takS_l, hp.1]
  · have hj2 : j < sd := by rw [hp.1]; exact hj
    rw [pn_takS_i hn hs8 hj2]; exact hp.2.2 j hj2
theorem pn_inv_split {pa se yr : Int32} (hI : pn_INV K Y P S O N n F K2 Y2 P2 S2 O2 N2 n2 F2 K3 Y3 P3 S3 O3 N3 n3 F3 ks pd St Im Kp Pd sd) (he : (pn_if (¬ pn_kn F pa) (some (-1)) (pn_if (¬ pn_se se ∨ ¬ pn_yr yr) (some (-2)) (pn_if (pd = 0) (some (-7)) (pn_if (¬ pn_lY Y n ≤ yr) (some (-3)) (pn_if (¬ pn_pp se (pn_sit P S O pa n)) (some (-5)) (pn_if (30 ≤ n ∨ ¬ F < 16) (some (-4)) (none : Option Int32))))))) = none) : pn_INV (upd K n (nI 1)) (upd Y n yr) (upd P n pa) (upd S n se) (upd O n (nI F)) (vp_updL N n pd) (n + 1) (F + 1) K2 Y2 P2 S2 O2 N2 n2 F2 K3 Y3 P3 S3 O3 N3 n3 F3 ks 0 (upd (pn_takS (pn_addS St n (nI 1) yr pa se (nI F)) Pd n sd) 421 (nI (F + 1))) Im Kp Pd 0 := by
  obtain ⟨hR, hp, hk, i0, i1⟩ := hI
  obtain ⟨h1, he⟩ := pn_ifn he
  obtain ⟨h2, he⟩ := pn_ifn he
  obtain ⟨h3, he⟩ := pn_ifn he
  obtain ⟨h4, he⟩ := pn_ifn he
  obtain ⟨h5, he⟩ := pn_ifn he
  obtain ⟨h6, -⟩ := pn_ifn he
  have hn : n < 30 := by omega
  have hF : F < 16 := by omega
  have hs8 := pn_pad8 hp
  have hwn : pn_wn pd := hp.2.1.resolve_left h3
  have hse : pn_se se := Classical.not_not.mp (fun q => h2 (Or.inl q))
  have hyr : pn_yr yr := Classical.not_not.mp (fun q => h2 (Or.inr q))
  obtain ⟨p, hpF, hpa⟩ := pn_kn_n hR.F16 (Classical.not_not.mp h1)
  have hpp := Classical.not_not.mp h5
  have hfc := pn_fc_1 hR (kd := nI 1) rfl
  refine ⟨pn_rel_add hR hn (fun j hj hx => ?_) ?_ ?_ hfc.symm hF (Classical.not_not.mp h4) (pn_ev_new hR (sse := se) (sow := nI F) ?_ ?_ ?_ ?_ ?_ hyr ⟨p, hpF, hpa⟩ (Or.inr ⟨Or.inl rfl, hse, rfl, rfl, ⟨F, by omega, rfl⟩, ?_, fun _ => rfl, pn_sub_own hR hpp.2.1⟩) (fun _ => ⟨hwn, ?_, fun j hj => ?_⟩)), pn_padZ Pd, hk, i0, i1⟩
  · rw [pk_un (by omega), pn_takS_o hs8 (by omega), pn_addS_o (by omega)]
  · rw [pk_un (by omega), pn_takS_o hs8 (by omega), pn_addS_5]
  · exact pk_us
  · rw [pk_un (by omega), pn_takS_o hs8 (by omega), pn_addS_0 hn]
  · rw [pk_un (by omega), pn_takS_o hs8 (by omega), pn_addS_1 hn]
  · rw [pk_un (by omega), pn_takS_o hs8 (by omega), pn_addS_2 hn]
  · rw [pk_un (by omega), pn_takS_o hs8 (by omega), pn_addS_3 hn]
  · rw [pk_un (by omega), pn_takS_o hs8 (by omega), pn_addS_4 hn]
  · rw [hpa]; intro q
    have := (nI_eq (by omega) (by omega)).mp q
    omega
  · rw [pk_un (by omega), pn_takS_l, hp.1]
  · have hj2 : j < sd := by rw [hp.1]; exact hj
    rw [pk_un (by omega), pn_takS_i hn hs8 hj2]; exact hp.2.2 j hj2
theorem pn_inv_merge {pa it yr : Int32} (hI : pn_INV K Y P S O N n F K2 Y2 P2 S2 O2 N2 n2 F2 K3 Y3 P3 S3 O3 N3 n3 F3 ks pd St Im Kp Pd sd) (he : (pn_if (¬ pn_kn F pa ∨ ¬ pn_kn F it) (some (-1)) (pn_if (pa = it ∨ ¬ pn_yr yr) (some (-2)) (pn_if (¬ pn_lY Y n ≤ yr) (some (-3)) (pn_if (pn_sit P S O pa n = 0 ∨ pn_sit P S O it n = 0) (some (-5)) (pn_if (30 ≤ n) (some (-4)) (none : Option Int32)))))) = none) : pn_INV (upd K n (nI 2)) (upd Y n yr) (upd P n pa) (upd S n (pn_sit P S O pa n)) (upd O n it) (vp_updL N n 0) (n + 1) F K2 Y2 P2 S2 O2 N2 n2 F2 K3 Y3 P3 S3 O3 N3 n3 F3 ks pd (pn_addS St n (nI 2) yr pa (pn_sit P S O pa n) it) Im Kp Pd sd := by
  obtain ⟨hR, hp, hk, i0, i1⟩ := hI
  obtain ⟨h1, he⟩ := pn_ifn he
  obtain ⟨h2, he⟩ := pn_ifn he
  obtain ⟨h3, he⟩ := pn_ifn he
  obtain ⟨h4, he⟩ := pn_ifn he
  obtain ⟨h5, -⟩ := pn_ifn he
  have hn : n < 30 := by omega
  have hpa := pn_kn_n hR.F16 (Classical.not_not.mp (fun q => h1 (Or.inl q)))
  obtain ⟨o, hoF, hit⟩ := pn_kn_n hR.F16 (Classical.not_not.mp (fun q => h1 (Or.inr q)))
  have hyr : pn_yr yr := Classical.not_not.mp (fun q => h2 (Or.inr q))
  have hfc := pn_fc_0 hR (kd := nI 2) (by decide)
  refine ⟨pn_rel_add hR hn (fun j hj hx => ?_) ?_ ?_ hfc.symm hR.F16 (Classical.not_not.mp h3) (pn_ev_new hR (sse := pn_sit P S O pa n) (sow := it) ?_ ?_ ?_ ?_ ?_ hyr hpa (Or.inr ⟨Or.inr (Or.inl rfl), pn_sit_se hR pa, rfl, rfl, ⟨o, by omega, hit⟩, fun q => h2 (Or.inl q.symm), fun q => absurd q (by decide), pn_sit_own hR⟩) (fun q => absurd q (by decide))), hp, hk, i0, i1⟩
  · rw [pn_addS_o (by omega)]
  · exact pn_addS_5
  · rw [pn_addS_o (by omega)]; exact hR.F0
  · exact pn_addS_0 hn
  · exact pn_addS_1 hn
  · exact pn_addS_2 hn
  · exact pn_addS_3 hn
  · exact pn_addS_4 hn
theorem pn_inv_shift {pa se it yr : Int32} (hI : pn_INV K Y P S O N n F K2 Y2 P2 S2 O2 N2 n2 F2 K3 Y3 P3 S3 O3 N3 n3 F3 ks pd St Im Kp Pd sd) (he : (pn_if (¬ pn_kn F pa ∨ ¬ pn_kn F it) (some (-1)) (pn_if (pa = it ∨ ¬ pn_se se ∨ ¬ pn_yr yr) (some (-2)) (pn_if (¬ pn_lY Y n ≤ yr) (some (-3)) (pn_if (pn_sit P S O it n = 0 ∨ ¬ pn_pp se (pn_sit P S O pa n)) (some (-5)) (pn_if (30 ≤ n) (some (-4)) (none : Option Int32)))))) = none) : pn_INV (upd K n (nI 3)) (upd Y n yr) (upd P n pa) (upd S n se) (upd O n it) (vp_updL N n 0) (n + 1) F K2 Y2 P2 S2 O2 N2 n2 F2 K3 Y3 P3 S3 O3 N3 n3 F3 ks pd (pn_addS St n (nI 3) yr pa se it) Im Kp Pd sd := by
  obtain ⟨hR, hp, hk, i0, i1⟩ := hI
  obtain ⟨h1, he⟩ := pn_ifn he
  obtain ⟨h2, he⟩ := pn_ifn he
  obtain ⟨h3, he⟩ := pn_ifn he
  obtain ⟨h4, he⟩ := pn_ifn he
  obtain ⟨h5, -⟩ := pn_ifn he
  have hn : n < 30 := by omega
  have hpa := pn_kn_n hR.F16 (Classical.not_not.mp (fun q => h1 (Or.inl q)))
  obtain ⟨o, hoF, hit⟩ := pn_kn_n hR.F16 (Classical.not_not.mp (fun q => h1 (Or.inr q)))
  have hse : pn_se se := Classical.not_not.mp (fun q => h2 (Or.inr (Or.inl q)))
  have hyr : pn_yr yr := Classical.not_not.mp (fun q => h2 (Or.inr (Or.inr q)))
  have hpp : pn_pp se (pn_sit P S O pa n) := Classical.not_not.mp (fun q => h4 (Or.inr q))
  have hfc := pn_fc_0 hR (kd := nI 3) (by decide)
  refine ⟨pn_rel_add hR hn (fun j hj hx => ?_) ?_ ?_ hfc.symm hR.F16 (Classical.not_not.mp h3) (pn_ev_new hR (sse := se) (sow := it) ?_ ?_ ?_ ?_ ?_ hyr hpa (Or.inr ⟨Or.inr (Or.inr rfl), hse, rfl, rfl, ⟨o, by omega, hit⟩, fun q => h2 (Or.inl q.symm), fun q => absurd q (by decide), pn_sub_own hR hpp.2.1⟩) (fun q => absurd q (by decide))), hp, hk, i0, i1⟩
  · rw [pn_addS_o (by omega)]
  · exact pn_addS_5
  · rw [pn_addS_o (by omega)]; exact hR.F0
  · exact pn_addS_0 hn
  · exact pn_addS_1 hn
  · exact pn_addS_2 hn
  · exact pn_addS_3 hn
  · exact pn_addS_4 hn
theorem pn_inv_undo (hI : pn_INV K Y P S O N n F K2 Y2 P2 S2 O2 N2 n2 F2 K3 Y3 P3 S3 O3 N3 n3 F3 ks pd St Im Kp Pd sd) (he : (pn_if (n = 0) (some (-6)) (none : Option Int32)) = none) : pn_INV K Y P S O N (n - 1) (if K (n - 1) = nI 1 then F - 1 else F) K2 Y2 P2 S2 O2 N2 n2 F2 K3 Y3 P3 S3 O3 N3 n3 F3 ks pd (upd (upd St 420 (nI (n - 1))) 421 (nI (if K (n - 1) = nI 1 then F - 1 else F))) Im Kp Pd sd := by
  obtain ⟨hR, hp, hk, i0, i1⟩ := hI
  obtain ⟨h1, -⟩ := pn_ifn he
  obtain ⟨m, rfl⟩ : ∃ m, n = m + 1 := ⟨n - 1, by omega⟩
  rw [Nat.add_sub_cancel]
  have hn := hR.n30
  have hF := hR.2.1
  have hF16 := hR.F16
  have e : (if K m = nI 1 then F - 1 else F) = pn_fc K m := by
    by_cases c : K m = nI 1
    · have : pn_fc K (m + 1) = pn_fc K m + 1 := by unfold pn_fc; rw [pn_cnt, if_pos c]; omega
      rw [if_pos c]; omega
    · have : pn_fc K (m + 1) = pn_fc K m := by unfold pn_fc; rw [pn_cnt, if_neg c]
      rw [if_neg c]; omega
  rw [e]
  have hmono := pn_fc_mono K (show m ≤ m + 1 by omega)
  refine ⟨⟨by omega, rfl, by omega, ?_, pk_us, fun i hi => hR.2.2.2.2.2.1 i (by omega), fun i hi => ?_⟩, hp, hk, i0, i1⟩
  · rw [pk_un (by omega)]; exact pk_us
  · exact pn_ev_cg (hR.ev (by omega)) (fun j hj => by rw [pk_un (by omega), pk_un (by omega)]) (fun j _ => ⟨rfl, rfl, rfl, rfl, rfl, rfl⟩)
theorem pn_inv_image0 (hI : pn_INV K Y P S O N n F K2 Y2 P2 S2 O2 N2 n2 F2 K3 Y3 P3 S3 O3 N3 n3 F3 ks pd St Im Kp Pd sd) : pn_INV K Y P S O N n F K Y P S O N n F K3 Y3 P3 S3 O3 N3 n3 F3 (ks ||| ((nI 1) <<< ((nI 0) &&& 31))) pd St (pn_cpI Im St 0 422) (upd Kp 0 (nI 1)) Pd sd := by
  obtain ⟨hR, hp, hk, i0, i1⟩ := hI
  refine ⟨hR, hp, pn_ks_0 hk, fun _ => pn_rel_cg hR (fun i hi => pn_cpI_in Im St 0 422 i hi), fun h => ?_⟩
  rw [pk_un (by omega)] at h
  exact pn_rel_cg (i1 h) (fun i hi => pn_cpI_out Im St 0 422 (422 * 1 + i) (by omega))
theorem pn_inv_image1 (hI : pn_INV K Y P S O N n F K2 Y2 P2 S2 O2 N2 n2 F2 K3 Y3 P3 S3 O3 N3 n3 F3 ks pd St Im Kp Pd sd) : pn_INV K Y P S O N n F K2 Y2 P2 S2 O2 N2 n2 F2 K Y P S O N n F (ks ||| ((nI 1) <<< ((nI 1) &&& 31))) pd St (pn_cpI Im St 1 422) (upd Kp 1 (nI 1)) Pd sd := by
  obtain ⟨hR, hp, hk, i0, i1⟩ := hI
  refine ⟨hR, hp, pn_ks_1 hk, fun h => ?_, fun _ => pn_rel_cg hR (fun i hi => pn_cpI_in Im St 1 422 i hi)⟩
  rw [pk_un (by omega)] at h
  exact pn_rel_cg (i0 h) (fun i hi => pn_cpI_out Im St 1 422 (422 * 0 + i) (by omega))
theorem pn_inv_restore0 (hI : pn_INV K Y P S O N n F K2 Y2 P2 S2 O2 N2 n2 F2 K3 Y3 P3 S3 O3 N3 n3 F3 ks pd St Im Kp Pd sd) (hb : ¬ Kp 0 = 0) : pn_INV K2 Y2 P2 S2 O2 N2 n2 F2 K2 Y2 P2 S2 O2 N2 n2 F2 K3 Y3 P3 S3 O3 N3 n3 F3 ks pd (pn_cpR St Im 0 422) Im Kp Pd sd := by
  obtain ⟨hR, hp, hk, i0, i1⟩ := hI
  exact ⟨pn_rel_cg (i0 hb) (fun i hi => pn_cpR_in St Im 0 422 i hi), hp, hk, i0, i1⟩
theorem pn_inv_restore1 (hI : pn_INV K Y P S O N n F K2 Y2 P2 S2 O2 N2 n2 F2 K3 Y3 P3 S3 O3 N3 n3 F3 ks pd St Im Kp Pd sd) (hb : ¬ Kp 1 = 0) : pn_INV K3 Y3 P3 S3 O3 N3 n3 F3 K2 Y2 P2 S2 O2 N2 n2 F2 K3 Y3 P3 S3 O3 N3 n3 F3 ks pd (pn_cpR St Im 1 422) Im Kp Pd sd := by
  obtain ⟨hR, hp, hk, i0, i1⟩ := hI
  exact ⟨pn_rel_cg (i1 hb) (fun i hi => pn_cpR_in St Im 1 422 i hi), hp, hk, i0, i1⟩
end PNINV
theorem pn_ksx0 {Kp : Nat → Int32} {ks : Int32} (h : pn_ksr Kp ks) {A B : Prop} (ha : A) (hb : B) (hB : (A = (pn_bit ks 0 = 0) ∧ B = (¬ Kp 0 = 0)) ∨ (A = (¬ pn_bit ks 0 = 0) ∧ B = (Kp 0 = 0)) := by first | exact Or.inl ⟨rfl, rfl⟩ | exact Or.inr ⟨rfl, rfl⟩) : False := by
  unfold pn_ksr at h
  subst h
  rcases hB with ⟨rfl, rfl⟩ | ⟨rfl, rfl⟩ <;> by_cases h0 : Kp 0 = 0 <;> by_cases h1 : Kp 1 = 0 <;> simp only [h0, h1, if_true, if_false] at ha hb <;> first | exact hb rfl | exact hb trivial | exact hb | (revert ha; decide)
theorem pn_ksx1 {Kp : Nat → Int32} {ks : Int32} (h : pn_ksr Kp ks) {A B : Prop} (ha : A) (hb : B) (hB : (A = (pn_bit ks 1 = 0) ∧ B = (¬ Kp 1 = 0)) ∨ (A = (¬ pn_bit ks 1 = 0) ∧ B = (Kp 1 = 0)) := by first | exact Or.inl ⟨rfl, rfl⟩ | exact Or.inr ⟨rfl, rfl⟩) : False := by
  unfold pn_ksr at h
  subst h
  rcases hB with ⟨rfl, rfl⟩ | ⟨rfl, rfl⟩ <;> by_cases h0 : Kp 0 = 0 <;> by_cases h1 : Kp 1 = 0 <;> simp only [h0, h1, if_true, if_false] at ha hb <;> first | exact hb rfl | exact hb trivial | exact hb | (revert ha; decide)
theorem pn_nz' {St K Y P S O : Nat → Int32} {N : Nat → Int64} {n F : Nat} (hR : pn_rel St K Y P S O N n F) : ∀ b, b < F → ∀ j, j ≤ n → ¬ pn_sit P S O (nI b) j = 0 → ¬ pn_nam K P O N (nI b) j = 0 := by
  intro b hb j hj h
  rw [pn_mn_eq hR hj (by have := hR.F16; omega) h]
  exact pn_wn_0 (pn_mn_wn hR b hj)
theorem pn_cnt_mono {Q : Nat → Prop} {a : Nat} : ∀ {b : Nat}, a ≤ b → pn_cnt Q a ≤ pn_cnt Q b := by
  intro b h
  induction b with
  | zero => obtain rfl : a = 0 := by omega
            exact Nat.le_refl _
  | succ b ih =>
    by_cases e : a = b + 1
    · subst e; exact Nat.le_refl _
    · have := ih (by omega)
      have q : pn_cnt Q b ≤ pn_cnt Q (b + 1) := by rw [pn_cnt]; split <;> omega
      omega
theorem pn_cnt_lt {Q : Nat → Prop} {a b : Nat} (h : a < b) (hq : Q a) : pn_cnt Q a < pn_cnt Q b := by
  have h1 : pn_cnt Q (a + 1) ≤ pn_cnt Q b := pn_cnt_mono h
  rw [pn_cnt, if_pos hq] at h1
  omega
theorem pn_fnd_u {Q : Nat → Prop} {F : Nat} {i r1 r2 : Int32} (hF : F ≤ 16) (h1 : pn_fnd Q F i r1) (h2 : pn_fnd Q F i r2) : r1 = r2 := by
  rcases h1 with ⟨j, hj, hq, he, hr⟩ | ⟨ha, hr⟩ <;> rcases h2 with ⟨j2, hj2, hq2, he2, hr2⟩ | ⟨ha2, hr2⟩
  · have c1 := pn_cnt_le Q j
    have c2 := pn_cnt_le Q j2
    have e := (nI_eq (by omega) (by omega)).mp (he.trans he2.symm)
    rcases Nat.lt_trichotomy j j2 with q | q | q
    · have := pn_cnt_lt q hq; omega
    · rw [hr, hr2, q]
    · have := pn_cnt_lt q hq2; omega
  · exact absurd he (ha2 j hj hq)
  · exact absurd he2 (ha j2 hj2 hq2)
  · rw [hr, hr2]
theorem pn_sameF {E : Option Int32} {Q : Nat → Prop} {F : Nat} {i r1 r2 : Int32} (hF : F ≤ 16) (h1 : E = some r1 ∨ (E = none ∧ pn_fnd Q F i r1)) (h2 : E = some r2 ∨ (E = none ∧ pn_fnd Q F i r2)) : r1 = r2 := by
  rcases h1 with h1 | ⟨h1, q1⟩ <;> rcases h2 with h2 | ⟨h2, q2⟩
  · exact Option.some.inj (h1.symm.trans h2)
  · rw [h1] at h2; cases h2
  · rw [h1] at h2; cases h2
  · exact pn_fnd_u hF q1 q2
theorem pn_sameC {E : Option Int32} {v r1 r2 : Int32} (h1 : E = some r1 ∨ (E = none ∧ r1 = v)) (h2 : E = some r2 ∨ (E = none ∧ r2 = v)) : r1 = r2 := by
  rcases h1 with h1 | ⟨h1, q1⟩ <;> rcases h2 with h2 | ⟨h2, q2⟩
  · exact Option.some.inj (h1.symm.trans h2)
  · rw [h1] at h2; cases h2
  · rw [h1] at h2; cases h2
  · rw [q1, q2]
section PNSL
variable {p : Program} {l : Launch} {e : Env} {R : Room} {s : State} {m : MethodId} {args : Array Value} {below : List Frame} {meth : Method} {c : Code} {H : Heap} {locs : List Loc} {cells slots : Nat} {Q : State → Prop}
variable {cc : ByteArray} {pc : Nat} {ls : Array Slot} {rest : List Value} {A : Nat → Prop} {H0 : Heap}
theorem pn_sld (hexec : p.tables.exec = Jvm.exec) (hb : c.code = cc) {b L : Nat} {xs : Nat → Int32} (hX : va_X b L xs s H0) (hbl : b < H0.size) (hbA : ¬ A b) (hS : va_S A H0 H locs) {k : Nat} (hin : k < L) (hL : L < 2 ^ 31) (hdg : decode cc pc = .ok (.iaload, 1))
    (kk : W p l e R s m args below meth c H locs cells slots Q (F0 m (pc + 1) ls (.int (xs k) :: rest))) : W p l e R s m args below meth c H locs cells slots Q (F0 m pc ls (.int (nI k) :: .ref b :: rest)) := by
  refine va_sld hexec hb hX hbl hbA hS (vp_in_nI hin hL) hdg ?_
  rw [nI_clamp (Nat.lt_trans hin hL)]; exact kk
end PNSL
