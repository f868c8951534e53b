set_option maxHeartbeats 4000000 in
set_option maxRecDepth 100000 in
theorem c_X1_areAlike (l : Launch) (D : va_G) (cI cL cZ cO : ClassId) (z0 z1 : Nat) (Rw : Nat → Int32) (x1 : Int64) (x2 : Int64) (how : Int32) (hN : [z0, z1].Nodup) : Met l yX1_areAlike wsX1_areAlike ({ frames := 3, cells := 0, slots := 0, locals := 74 }) (va_Pc [.ref z0, .long x1, .long x2, .int how] (pn_Pr D cI cL cZ cO [(z0, .inr (1, [.ref z1])), (z1, .inl (cI, 9, .inl Rw))])) (va_Qi (fun r (u : Nat → Int32) => r = (pn_b (pn_like x1 x2 how))) (fun (u : Nat → Int32) t => va_P D vwCl [(z0, .inr (1, [.ref z1])), (z1, .inl (cI, 9, .inl u))] t.heap) (pn_In [z0, z1])) 0 0 (pn_In [z0, z1]) := by
  refine pn_mk (by decide) rfl (Nat.le_of_ble_eq_true rfl) ?_
  intro p e s m below meth c ls hx hb hr hml hown hts hlocks hK hP hl
  have hown : s.vm.findClass RX1 = some m.cls := hown
  have hS : va_S (pn_In [z0, z1]) s.heap s.heap [] := va_S.rf
  have hl : lv_has ls 6 [(0, .ref z0), (1, .long x1), (3, .long x2), (5, .int how)] := hl
  have h8a := pn_len8 x1
  have h8b := pn_len8 x2
  have b1 := pn_lev_le (pn_let x1) (pn_let x2) (pn_len x1) (pn_len x2)
  refine lv_iload hx hb dX1_areAlike_0 (lv_at hl 3 rfl) ?_
  refine lv_if_ne (tgt := 17) hx hb dX1_areAlike_2 (by decide) (fun b2 => ?_) (fun b2 => ?_)
  · have hh0 := b2
    refine lv_iload hx hb dX1_areAlike_17 (lv_at hl 3 rfl) ?_
    refine lv_iconst (v := (nI 1)) hx hb dX1_areAlike_19 (by decide) ?_
    refine lv_icmp_ne (tgt := 40) hx hb dX1_areAlike_20 (by decide) (fun b20 => ?_) (fun b20 => ?_)
    · have hh1 := b20
      refine lv_aload_n hx hb dX1_areAlike_40 rfl (lv_at hl 0 rfl) ?_
      refine lv_lload_n hx hb dX1_areAlike_41 rfl (lv_at hl 1 rfl) ?_
      refine lv_lload_n hx hb dX1_areAlike_42 rfl (lv_at hl 2 rfl) ?_
      refine pn_wri hS (fun q h => h) (va_runV (As := [.long x1, .long x2]) (rest := []) ⟨hx, hb, hml, hown, hts⟩ (c_X1_distance l D cI cL cZ cO z0 z1 Rw x1 x2 hN) (cwV 2 hts gX1_areAlike_X1_distance rfl rfl rfl (by decide +kernel) ⟨Nat.le_of_ble_eq_true rfl, Nat.le_of_ble_eq_true rfl⟩) (pn_pv hP hK (q0 := 0) rfl rfl) rfl rfl hl.1 rfl (lv_room (Nat.le_of_ble_eq_true rfl)) dX1_areAlike_43 ⟨Nat.le_of_ble_eq_true rfl, Nat.le_of_ble_eq_true rfl⟩) (fun r_3 u_3 H1 locs hp_3 hP1 hk1 hS => ?_)
      subst hp_3
      have hP : va_P D vwCl [(z0, .inr (1, [.ref z1])), (z1, .inl (cI, 9, .inl u_3))] H1 := hP1
      clear hk1 hP1
      generalize H1 = H at hP hS ⊢
      refine lv_iconst (v := (nI 1)) hx hb dX1_areAlike_46 (by decide) ?_
      refine lv_icmp_gt (tgt := 54) hx hb dX1_areAlike_47 (by decide) (fun b47 => ?_) (fun b47 => ?_)
      · have b47 : 1 < (pn_lev (pn_let x1) (pn_let x2) (pn_len x1) (pn_len x2)) := (pn_lt (by omega) (by omega)).mp (show nI 1 < nI (pn_lev (pn_let x1) (pn_let x2) (pn_len x1) (pn_len x2)) from b47)
        have hlv := b47
        refine lv_iconst (v := (nI 0)) hx hb dX1_areAlike_54 (by decide) ?_
        exact W.zret hx hb hr (by decide) (fun t ht hW => ⟨⟨_, u_3, rfl, (by first | exact pn_bt ((pn_like2 hh0 hh1).mpr (Nat.le_of_not_lt hlv)) | exact pn_bf (fun q => absurd hlv (Nat.not_lt.mpr ((pn_like2 hh0 hh1).mp q)))), pn_atH ht hP⟩, hS.F ht⟩) hS.2.2 dX1_areAlike_55 hlocks
      · have b47 : ¬ 1 < (pn_lev (pn_let x1) (pn_let x2) (pn_len x1) (pn_len x2)) := fun h => (show ¬ nI 1 < nI (pn_lev (pn_let x1) (pn_let x2) (pn_len x1) (pn_len x2)) from b47) ((pn_lt (by omega) (by omega)).mpr h)
        have hlv := b47
        refine lv_iconst (v := (nI 1)) hx hb dX1_areAlike_50 (by decide) ?_
        refine lv_goto (tgt := 55) hx hb dX1_areAlike_51 (by decide) ?_
        exact W.zret hx hb hr (by decide) (fun t ht hW => ⟨⟨_, u_3, rfl, (by first | exact pn_bt ((pn_like2 hh0 hh1).mpr (Nat.le_of_not_lt hlv)) | exact pn_bf (fun q => absurd hlv (Nat.not_lt.mpr ((pn_like2 hh0 hh1).mp q)))), pn_atH ht hP⟩, hS.F ht⟩) hS.2.2 dX1_areAlike_55 hlocks
    · have hh1 := b20
      refine lv_lload_n hx hb dX1_areAlike_23 rfl (lv_at hl 1 rfl) ?_
      refine pn_roi (w := [(z0, .inr (1, [.ref z1])), (z1, .inl (cI, 9, .inl Rw))]) hP hS (va_runS (As := [.long x1]) (rest := []) ⟨hx, hb, hml, hown, hts⟩ (c_X1_soundOf l D cI cL cZ cO x1) (va_cwS 1 hts gX1_areAlike_X1_soundOf rfl rfl rfl (by decide +kernel) ⟨Nat.le_of_ble_eq_true rfl, Nat.le_of_ble_eq_true rfl⟩) (pn_ps (WS := []) (fun k q h => by simp at h) hK) rfl rfl hl.1 rfl (lv_room (Nat.le_of_ble_eq_true rfl)) dX1_areAlike_24 ⟨Nat.le_of_ble_eq_true rfl, Nat.le_of_ble_eq_true rfl⟩) (fun H locs hP hS => ?_)
      refine lv_lload_n hx hb dX1_areAlike_27 rfl (lv_at hl 2 rfl) ?_
      refine pn_roi (w := [(z0, .inr (1, [.ref z1])), (z1, .inl (cI, 9, .inl Rw))]) hP hS (va_runS (As := [.long x2]) (rest := [.int (pn_snd x1)]) ⟨hx, hb, hml, hown, hts⟩ (c_X1_soundOf l D cI cL cZ cO x2) (va_cwS 1 hts gX1_areAlike_X1_soundOf rfl rfl rfl (by decide +kernel) ⟨Nat.le_of_ble_eq_true rfl, Nat.le_of_ble_eq_true rfl⟩) (pn_ps (WS := []) (fun k q h => by simp at h) hK) rfl rfl hl.1 rfl (lv_room (Nat.le_of_ble_eq_true rfl)) dX1_areAlike_28 ⟨Nat.le_of_ble_eq_true rfl, Nat.le_of_ble_eq_true rfl⟩) (fun H locs hP hS => ?_)
      refine lv_icmp_ne (tgt := 38) hx hb dX1_areAlike_31 (by decide) (fun b31 => ?_) (fun b31 => ?_)
      · have hsn := b31
        refine lv_iconst (v := (nI 0)) hx hb dX1_areAlike_38 (by decide) ?_
        exact W.zret hx hb hr (by decide) (fun t ht hW => ⟨⟨_, Rw, rfl, (by first | exact pn_bt ((pn_like1 hh1).mpr hsn) | exact pn_bf (fun q => hsn ((pn_like1 hh1).mp q))), pn_atH ht hP⟩, hS.F ht⟩) hS.2.2 dX1_areAlike_39 hlocks
      · have hsn := b31
        refine lv_iconst (v := (nI 1)) hx hb dX1_areAlike_34 (by decide) ?_
        refine lv_goto (tgt := 39) hx hb dX1_areAlike_35 (by decide) ?_
        exact W.zret hx hb hr (by decide) (fun t ht hW => ⟨⟨_, Rw, rfl, (by first | exact pn_bt ((pn_like1 hh1).mpr hsn) | exact pn_bf (fun q => hsn ((pn_like1 hh1).mp q))), pn_atH ht hP⟩, hS.F ht⟩) hS.2.2 dX1_areAlike_39 hlocks
  · have hh0 := b2
    refine lv_lload_n hx hb dX1_areAlike_5 rfl (lv_at hl 1 rfl) ?_
    refine lv_lload_n hx hb dX1_areAlike_6 rfl (lv_at hl 2 rfl) ?_
    refine W.lcmp hx hb dX1_areAlike_7 ?_
    refine lv_if_ne (tgt := 15) hx hb dX1_areAlike_8 (by decide) (fun b8 => ?_) (fun b8 => ?_)
    · have b8 : ¬ x1 = x2 := fun h => b8 (pn_cmp0.mpr h)
      have hxy := b8
      refine lv_iconst (v := (nI 0)) hx hb dX1_areAlike_15 (by decide) ?_
      exact W.zret hx hb hr (by decide) (fun t ht hW => ⟨⟨_, Rw, rfl, (by first | exact pn_bt ((pn_like0 hh0).mpr hxy) | exact pn_bf (fun q => hxy ((pn_like0 hh0).mp q))), pn_atH ht hP⟩, hS.F ht⟩) hS.2.2 dX1_areAlike_16 hlocks
    · have b8 : x1 = x2 := pn_cmp0.mp b8
      have hxy := b8
      refine lv_iconst (v := (nI 1)) hx hb dX1_areAlike_11 (by decide) ?_
      refine lv_goto (tgt := 16) hx hb dX1_areAlike_12 (by decide) ?_
      exact W.zret hx hb hr (by decide) (fun t ht hW => ⟨⟨_, Rw, rfl, (by first | exact pn_bt ((pn_like0 hh0).mpr hxy) | exact pn_bf (fun q => hxy ((pn_like0 hh0).mp q))), pn_atH ht hP⟩, hS.F ht⟩) hS.2.2 dX1_areAlike_16 hlocks
