set_option maxRecDepth 100000 in
set_option maxHeartbeats 4000000 in
theorem m_X12_build (l : Launch) (X : xW) (Γ : Nat → Option Nat) (H0 : Heap) (hC0 : Conf X Γ H0) (h0 : Nat) (g0 : Γ h0 = some 11) (p1 : Int32) {a1 : Int} (e1 : p1.toInt = a1) (p2 : Int32) {a2 : Int} (e2 : p2.toInt = a2) (p3 : Int32) {a3 : Int} (e3 : p3.toInt = a3) (ca : Nat) (gca : Γ ca = some 64) (uc : ∀ a, Γ a = some 64 → a = ca) (hu0 : UH H0 ca) : Ctr l X Γ yX12_build cX12_build 5 (some .int) 3 [.ref h0, .int p1, .int p2, .int p3] H0 (QI X Γ (fun v H1 => (Kp X Γ [1, 6, 7, 8, 9, 10, 11, 12, 14, 17, 19, 22, 24, 26, 28] H0 H1 ∧ UH H1 ca) ∧ (True))) := by
  refine q_enterI (own := "SnowFortsModel") (by decide) rfl (Nat.le_of_ble_eq_true rfl) ?_
  intro p e s m args below meth c ls Qz E hl ret hS0
  have hx := E.1; have hb := E.2.1
  have hKp0 : Kp X Γ [1, 6, 7, 8, 9, 10, 11, 12, 14, 17, 19, 22, 24, 26, 28] H0 H0 := Kp.rf
  have hl : lv_has ls 5 [(0, .ref h0), (1, .int p1), (2, .int p2), (3, .int p3)] := hl
  refine lv_aload_n hx hb dX12_build_0 rfl (lv_at hl 0 rfl) ?_
  refine lv_iconst (v := 0) hx hb dX12_build_1 rfl ?_
  refine q_put E hC0 hS0 g0 fp_RX12_69 tv_F rfl rfl dX12_build_2 (fun H21 locs21 hC21 hS21 U21 => ?_)
  have hKp21 := Kp.upO E g0 fp_RX12_69 rfl U21 hKp0
  have e22 := up_I U21
  have hU21 := UH.ne hu0 U21 (Or.inl (nek g0 gca (by decide)))
  refine lv_aload_n hx hb dX12_build_5 rfl (lv_at hl 0 rfl) ?_
  refine lv_iconst (v := 0) hx hb dX12_build_6 rfl ?_
  refine q_put E hC21 hS21 g0 fp_RX12_72 tv_F rfl rfl dX12_build_7 (fun H23 locs23 hC23 hS23 U23 => ?_)
  have hKp23 := Kp.upO E g0 fp_RX12_72 rfl U23 hKp21
  have e24 := up_I U23
  have hU23 := UH.ne hU21 U23 (Or.inl (nek g0 gca (by decide)))
  refine lv_aload_n hx hb dX12_build_10 rfl (lv_at hl 0 rfl) ?_
  refine lv_iload_n hx hb dX12_build_11 rfl (lv_at hl 1 rfl) ?_
  refine lv_iload_n hx hb dX12_build_12 rfl (lv_at hl 2 rfl) ?_
  refine q_goIp (q_runV (As := [.int p1, .int p2]) (rest := []) E hC23 hS23 (m_X12_isOwned l X Γ H23 hC23 h0 g0 p1 (a1 := a1) e1 p2 (a2 := a2) e2 ca gca uc) cw_X12_isOwned cl_RX12_336 g0 ⟨rfl, rfl⟩ rfl hl.1 rfl (Nat.zero_le _) (by decide) dX12_build_13) hS23 (fun v25 locs25 hr25 hS25 => ?_)
  rcases hr25 with ⟨rfl, f25a0, f25a1, f25a2, f25a3⟩ | ⟨rfl, -⟩
  · refine q_if_ne hx hb (a := 1) (by decide) (tgt := 25) dX12_build_16 rfl (fun c26 => ?_) (fun c26 => absurd c26 (by omega))
    refine lv_iload_n hx hb dX12_build_25 rfl (lv_at hl 3 rfl) ?_
    refine lv_i2l (v := p3.toInt64) hx hb dX12_build_26 rfl (lv_topl (fun v27 ev27 => ?_))
    have ev27i : v27.toInt = a3 := l_ofi ev27.symm e3
    refine lv_lconst (v := 1) hx hb dX12_build_27 rfl ?_
    refine lv_ldc2 (v := 40) hx hb E.2.2.2.1 (E.2.2.2.2.1 _ w_1726) dX12_build_28 ?_
    refine q_goIp (q_runS (As := [.long v27, .long 1, .long 40]) (rest := []) E hS25 (m_X12_isIn l X Γ H23 hC23 v27 (a0 := a3) ev27i 1 (a1 := 1) (show (1 : Int64).toInt = 1 from by decide) 40 (a2 := 40) (show (40 : Int64).toInt = 40 from by decide)) cw_X12_isIn cl_RX12_104 rfl hl.1 rfl (Nat.zero_le _) (by decide) dX12_build_31) hS25 (fun v28 locs28 hr28 hS28 => ?_)
    rcases hr28 with ⟨rfl, f28a0, f28a1⟩ | ⟨rfl, f28b⟩
    · refine q_if_ne hx hb (a := 1) (by decide) (tgt := 43) dX12_build_34 rfl (fun c29 => ?_) (fun c29 => absurd c29 (by omega))
      refine lv_aload_n hx hb dX12_build_43 rfl (lv_at hl 0 rfl) ?_
      refine lv_iload_n hx hb dX12_build_44 rfl (lv_at hl 1 rfl) ?_
      refine lv_iload_n hx hb dX12_build_45 rfl (lv_at hl 2 rfl) ?_
      refine q_goIp (q_runS (As := [.int p1, .int p2]) (rest := [.ref h0]) E hS28 (m_X12_at2 l X Γ H23 hC23 p1 (a0 := a1) e1 p2 (a1 := a2) e2 (by omega) (by omega) (by omega) (by omega)) cw_X12_at2 cl_RX12_292 rfl hl.1 rfl (show _ ≤ _ from by simp [Value.category]) (by decide) dX12_build_46) hS28 (fun v30 locs30 hr30 hS30 => ?_)
      have f30_0 := hr30
      refine lv_iload_n hx hb dX12_build_49 rfl (lv_at hl 3 rfl) ?_
      refine q_goI (q_runV (As := [.int v30, .int p3]) (rest := []) E hC23 hS30 (m_X12_builds l X Γ H23 hC23 h0 g0 v30 (a1 := v30.toInt) rfl p3 (a2 := a3) e3 ca gca uc hU23 (by omega) (by omega)) cw_X12_builds cl_RX12_339 g0 ⟨rfl, rfl⟩ rfl hl.1 rfl (Nat.zero_le _) (by decide) dX12_build_50) hS30 (fun v31 H31 locs31 hr31 hC31 hS31 => ?_)
      obtain ⟨hp31, hr31⟩ := hr31
      obtain ⟨hp31p, hU31⟩ := hp31
      have hKp31 := hKp23.tr (hp31p.mono rfl)
      refine lv_istore hx hb dX12_build_53 hl (by decide) rfl (fun ls hl => ?_)
      replace hl : lv_has ls 5 [(4, .int v31), (0, .ref h0), (1, .int p1), (2, .int p2), (3, .int p3)] := hl
      refine lv_iload hx hb dX12_build_55 (lv_at hl 0 rfl) ?_
      refine q_if_ne hx hb (a := v31.toInt) rfl (tgt := 69) dX12_build_57 rfl (fun c32 => ?_) (fun c32 => ?_)
      · refine lv_iload hx hb dX12_build_69 (lv_at hl 0 rfl) ?_
        exact ret v31 H31 locs31 _ _ dX12_build_71 ⟨⟨hKp31, hU31⟩, trivial⟩ hC31 hS31
      · refine lv_aload_n hx hb dX12_build_60 rfl (lv_at hl 1 rfl) ?_
        refine lv_bipush (v := 9) hx hb dX12_build_61 rfl ?_
        refine q_goI (q_runV (As := [.int 9]) (rest := []) E hC31 hS31 (m_X12_refuse l X Γ H31 hC31 h0 g0 9 (a1 := 9) (by decide) ca gca uc) cw_X12_refuse cl_RX12_298 g0 ⟨rfl, rfl⟩ rfl hl.1 rfl (Nat.zero_le _) (by decide) dX12_build_63) hS31 (fun v33 H33 locs33 hr33 hC33 hS33 => ?_)
        obtain ⟨hp33, hr33⟩ := hr33
        have hU33 := UH.kp hU31 hp33 gca rfl rfl
        have hKp33 := hKp31.tr (hp33.mono rfl)
        have f33_0 := hr33
        refine lv_goto (tgt := 71) hx hb dX12_build_66 rfl ?_
        exact ret v33 H33 locs33 _ _ dX12_build_71 ⟨⟨hKp33, hU33⟩, trivial⟩ hC33 hS33
    · refine q_if_ne hx hb (a := 0) (by decide) (tgt := 43) dX12_build_34 rfl (fun c34 => absurd c34 (by omega)) (fun c34 => ?_)
      refine lv_aload_n hx hb dX12_build_37 rfl (lv_at hl 0 rfl) ?_
      refine lv_iconst (v := 5) hx hb dX12_build_38 rfl ?_
      refine q_goI (q_runV (As := [.int 5]) (rest := []) E hC23 hS28 (m_X12_refuse l X Γ H23 hC23 h0 g0 5 (a1 := 5) (by decide) ca gca uc) cw_X12_refuse cl_RX12_298 g0 ⟨rfl, rfl⟩ rfl hl.1 rfl (Nat.zero_le _) (by decide) dX12_build_39) hS28 (fun v35 H35 locs35 hr35 hC35 hS35 => ?_)
      obtain ⟨hp35, hr35⟩ := hr35
      have hU35 := UH.kp hU23 hp35 gca rfl rfl
      have hKp35 := hKp23.tr (hp35.mono rfl)
      have f35_0 := hr35
      exact ret v35 H35 locs35 _ _ dX12_build_42 ⟨⟨hKp35, hU35⟩, trivial⟩ hC35 hS35
  · refine q_if_ne hx hb (a := 0) (by decide) (tgt := 25) dX12_build_16 rfl (fun c36 => absurd c36 (by omega)) (fun c36 => ?_)
    refine lv_aload_n hx hb dX12_build_19 rfl (lv_at hl 0 rfl) ?_
    refine lv_iconst (v := 2) hx hb dX12_build_20 rfl ?_
    refine q_goI (q_runV (As := [.int 2]) (rest := []) E hC23 hS25 (m_X12_refuse l X Γ H23 hC23 h0 g0 2 (a1 := 2) (by decide) ca gca uc) cw_X12_refuse cl_RX12_298 g0 ⟨rfl, rfl⟩ rfl hl.1 rfl (Nat.zero_le _) (by decide) dX12_build_21) hS25 (fun v37 H37 locs37 hr37 hC37 hS37 => ?_)
    obtain ⟨hp37, hr37⟩ := hr37
    have hU37 := UH.kp hU23 hp37 gca rfl rfl
    have hKp37 := hKp23.tr (hp37.mono rfl)
    have f37_0 := hr37
    exact ret v37 H37 locs37 _ _ dX12_build_24 ⟨⟨hKp37, hU37⟩, trivial⟩ hC37 hS37
set_option maxRecDepth 100000 in
set_option maxHeartbeats 4000000 in
theorem m_X12_ices (l : Launch) (X : xW) (Γ : Nat → Option Nat) (H0 : Heap) (hC0 : Conf X Γ H0) (h0 : Nat) (g0 : Γ h0 = some 11) (p1 : Int32) {a1 : Int} (e1 : p1.toInt = a1) (ca : Nat) (gca : Γ ca = some 64) (uc : ∀ a, Γ a = some 64 → a = ca) (hu0 : UH H0 ca) (r0 : 0 ≤ a1) (r1 : a1 ≤ 35) : Ctr l X Γ yX12_ices cX12_ices 3 (some .boolean) 2 [.ref h0, .int p1] H0 (QI X Γ (fun v H1 => (Kp X Γ [1, 6, 7, 8, 9, 10, 11, 12, 14, 17, 19, 22, 24, 26, 28] H0 H1 ∧ UH H1 ca) ∧ (v = 0 ∨ v = 1))) := by
  refine q_enterZ (own := "SnowFortsModel") (by decide) rfl (Nat.le_of_ble_eq_true rfl) ?_
  intro p e s m args below meth c ls Qz E hl ret hS0
  have hx := E.1; have hb := E.2.1
  have hKp0 : Kp X Γ [1, 6, 7, 8, 9, 10, 11, 12, 14, 17, 19, 22, 24, 26, 28] H0 H0 := Kp.rf
  have hl : lv_has ls 3 [(0, .ref h0), (1, .int p1)] := hl
  refine lv_aload_n hx hb dX12_ices_0 rfl (lv_at hl 0 rfl) ?_
  refine lv_iload_n hx hb dX12_ices_1 rfl (lv_at hl 1 rfl) ?_
  refine lv_bipush (v := 6) hx hb dX12_ices_2 rfl ?_
  refine lv_irem hx hb dX12_ices_4 (by decide) (lv_topi (fun v21 ev21 => ?_))
  have ev21i : v21.toInt = (a1 % 6) := i_rem ev21 e1 (by decide) (by omega) (by decide)
  refine q_goIp (q_runV (As := [.int v21]) (rest := []) E hC0 hS0 (m_X12_halfOf l X Γ H0 hC0 h0 g0 v21 (a1 := (a1 % 6)) ev21i ca gca uc) cw_X12_halfOf cl_RX12_270 g0 ⟨rfl, rfl⟩ rfl hl.1 rfl (Nat.zero_le _) (by decide) dX12_ices_5) hS0 (fun v22 locs22 hr22 hS22 => ?_)
  obtain ⟨f22_0, f22_1⟩ := hr22
  refine lv_istore_n hx hb dX12_ices_8 rfl hl (by decide) rfl (fun ls hl => ?_)
  replace hl : lv_has ls 3 [(2, .int v22), (0, .ref h0), (1, .int p1)] := hl
  refine lv_aload_n hx hb dX12_ices_9 rfl (lv_at hl 1 rfl) ?_
  refine q_getC E hC0 g0 fa_RX12_35 uc dX12_ices_10 ?_
  refine lv_bipush (v := 62) hx hb dX12_ices_13 rfl ?_
  refine lv_iload_n hx hb dX12_ices_15 rfl (lv_at hl 2 rfl) ?_
  refine lv_iadd hx hb dX12_ices_16 (lv_topi (fun v23 ev23 => ?_))
  have ev23i : v23.toInt = (62 + a1) := i_add ev23 (by decide) e1 (by omega) (by omega)
  refine q_cald E hC0 (lo := 0) (hi := 99) gca (a := (62 + a1)) ev23i (by omega) (by omega) (cr_c26 (by omega) (by omega)) dX12_ices_17 (fun v24 ev24 lv24 uv24 => ?_)
  refine q_if_eq hx hb (a := v24.toInt) rfl (tgt := 44) dX12_ices_18 rfl (fun c25 => ?_) (fun c25 => ?_)
  · refine lv_iconst (v := 0) hx hb dX12_ices_44 rfl ?_
    exact ret 0 H0 locs22 _ _ dX12_ices_45 (Or.inl rfl) ⟨⟨hKp0, hu0⟩, Or.inl rfl⟩ hC0 hS22
  · refine lv_aload_n hx hb dX12_ices_21 rfl (lv_at hl 1 rfl) ?_
    refine q_getC E hC0 g0 fa_RX12_35 uc dX12_ices_22 ?_
    refine lv_sipush (v := 170) hx hb dX12_ices_25 rfl ?_
    refine lv_iload_n hx hb dX12_ices_28 rfl (lv_at hl 2 rfl) ?_
    refine lv_iadd hx hb dX12_ices_29 (lv_topi (fun v26 ev26 => ?_))
    have ev26i : v26.toInt = (170 + a1) := i_add ev26 (by decide) e1 (by omega) (by omega)
    refine q_cald E hC0 (lo := -2147483648) (hi := 2147483647) gca (a := (170 + a1)) ev26i (by omega) (by omega) (cr_c134 (by omega) (by omega)) dX12_ices_30 (fun v27 ev27 _ _ => ?_)
    refine lv_iconst (v := 1) hx hb dX12_ices_31 rfl ?_
    refine q_icmp_eq hx hb (a := v27.toInt) (b := 1) rfl (by decide) (tgt := 44) dX12_ices_32 rfl (fun c28 => ?_) (fun c28 => ?_)
    · refine lv_iconst (v := 0) hx hb dX12_ices_44 rfl ?_
      exact ret 0 H0 locs22 _ _ dX12_ices_45 (Or.inl rfl) ⟨⟨hKp0, hu0⟩, Or.inl rfl⟩ hC0 hS22
    · refine lv_aload_n hx hb dX12_ices_35 rfl (lv_at hl 1 rfl) ?_
      refine lv_iload_n hx hb dX12_ices_36 rfl (lv_at hl 0 rfl) ?_
      refine lv_iconst (v := 2) hx hb dX12_ices_37 rfl ?_
      refine q_goIp (q_runV (As := [.int v22, .int 2]) (rest := []) E hC0 hS22 (m_X12_isHand l X Γ H0 hC0 h0 g0 v22 (a1 := v22.toInt) rfl 2 (a2 := 2) (by decide) ca gca uc (by omega) (by omega)) cw_X12_isHand cl_RX12_326 g0 ⟨rfl, rfl⟩ rfl hl.1 rfl (Nat.zero_le _) (by decide) dX12_ices_38) hS22 (fun v29 locs29 hr29 hS29 => ?_)
      rcases hr29 with ⟨rfl, f29a0, f29a1⟩ | ⟨rfl, -⟩
      · refine q_if_ne hx hb (a := 1) (by decide) (tgt := 46) dX12_ices_41 rfl (fun c30 => ?_) (fun c30 => absurd c30 (by omega))
        obtain ⟨v31, ev31⟩ : ∃ z, sI H0 ca ((12 + v22.toInt) : Int).toNat = z := ⟨_, rfl⟩
        have m32 : (sI H0 ca ((12 + v22.toInt) : Int).toNat).toInt = v31.toInt := congrArg Int32.toInt ev31
        obtain ⟨v33, ev33⟩ : ∃ z, sI H0 ca ((14 + v22.toInt) : Int).toNat = z := ⟨_, rfl⟩
        have m34 : (sI H0 ca ((14 + v22.toInt) : Int).toNat).toInt = v33.toInt := congrArg Int32.toInt ev33
        refine lv_aload_n hx hb dX12_ices_46 rfl (lv_at hl 1 rfl) ?_
        refine q_getC E hC0 g0 fa_RX12_35 uc dX12_ices_47 ?_
        refine lv_sipush (v := 170) hx hb dX12_ices_50 rfl ?_
        refine lv_iload_n hx hb dX12_ices_53 rfl (lv_at hl 2 rfl) ?_
        refine lv_iadd hx hb dX12_ices_54 (lv_topi (fun v35 ev35 => ?_))
        have ev35i : v35.toInt = (170 + a1) := i_add ev35 (by decide) e1 (by omega) (by omega)
        refine lv_iconst (v := 1) hx hb dX12_ices_55 rfl ?_
        refine q_cast E hC0 hS29 gca (a := (170 + a1)) ev35i (by omega) (by omega) (cs_c134 (a := (170 + a1)) (by omega) (by omega)) dX12_ices_56 (fun H36 locs36 hC36 hS36 U36 => ?_)
        have hKp36 := Kp.upD gca rfl rfl (fun _ => ⟨fun _ => nd2 (by omega) (by omega), fun h => absurd h (by decide), fun _ => by unfold dpn; omega⟩) U36 hKp0
        have hU36 := UH.ne hu0 U36 (Or.inr (by omega))
        have e37 := up_I U36
        refine lv_aload_n hx hb dX12_ices_57 rfl (lv_at hl 1 rfl) ?_
        refine q_getC E hC36 g0 fa_RX12_35 uc dX12_ices_58 ?_
        refine lv_sipush (v := 206) hx hb dX12_ices_61 rfl ?_
        refine lv_iload_n hx hb dX12_ices_64 rfl (lv_at hl 2 rfl) ?_
        refine lv_iadd hx hb dX12_ices_65 (lv_topi (fun v38 ev38 => ?_))
        have ev38i : v38.toInt = (206 + a1) := i_add ev38 (by decide) e1 (by omega) (by omega)
        refine lv_iconst (v := 0) hx hb dX12_ices_66 rfl ?_
        refine q_cast E hC36 hS36 gca (a := (206 + a1)) ev38i (by omega) (by omega) (cs_c134 (a := (206 + a1)) (by omega) (by omega)) dX12_ices_67 (fun H39 locs39 hC39 hS39 U39 => ?_)
        have hKp39 := Kp.upD gca rfl rfl (fun _ => ⟨fun _ => nd2 (by omega) (by omega), fun h => absurd h (by decide), fun _ => by unfold dpn; omega⟩) U39 hKp36
        have hU39 := UH.ne hU36 U39 (Or.inr (by omega))
        have e40 := up_I U39
        refine lv_aload_n hx hb dX12_ices_68 rfl (lv_at hl 1 rfl) ?_
        refine q_getC E hC39 g0 fa_RX12_35 uc dX12_ices_69 ?_
        refine lv_bipush (v := 14) hx hb dX12_ices_72 rfl ?_
        refine lv_iload_n hx hb dX12_ices_74 rfl (lv_at hl 0 rfl) ?_
        refine lv_iadd hx hb dX12_ices_75 (lv_topi (fun v41 ev41 => ?_))
        have ev41i : v41.toInt = (14 + v22.toInt) := i_add ev41 (by decide) rfl (by omega) (by omega)
        refine lv_dup2_11 hx hb dX12_ices_76 rfl rfl ?_
        have e43 := (up_nI (a' := ca) (j' := ((14 + v22.toInt) : Int).toNat) U36 (fun h => by have h2 := h.2; omega)).trans ev33
        have e44 := (up_nI (a' := ca) (j' := ((14 + v22.toInt) : Int).toNat) U39 (fun h => by have h2 := h.2; omega)).trans e43
        refine q_cald E hC39 (lo := 0) (hi := 40) gca (a := (14 + v22.toInt)) ev41i (by omega) (by omega) (cr_c12 (by omega) (by omega)) dX12_ices_77 (fun v42 ev42 lv42 uv42 => ?_)
        have qv42 := e44.symm.trans ev42; subst qv42
        refine lv_iconst (v := 2) hx hb dX12_ices_78 rfl ?_
        refine lv_iadd hx hb dX12_ices_79 (lv_topi (fun v45 ev45 => ?_))
        have ev45i : v45.toInt = (v33.toInt + 2) := i_add ev45 rfl (by decide) (by omega) (by omega)
        refine q_cast E hC39 hS39 gca (a := (14 + v22.toInt)) ev41i (by omega) (by omega) (cs_c12 (a := (14 + v22.toInt)) (b := (v33.toInt + 2)) (by omega) (by omega) ev45i (by omega) (by omega)) dX12_ices_80 (fun H46 locs46 hC46 hS46 U46 => ?_)
        have hKp46 := Kp.upD gca rfl rfl (fun _ => ⟨fun _ => nd3 (by omega) (by omega), fun h => absurd h (by decide), fun _ => by unfold dpn; omega⟩) U46 hKp39
        have e47 := (up_nI (a' := ca) (j' := ((12 + v22.toInt) : Int).toNat) U36 (fun h => by have h2 := h.2; omega)).trans ev31
        have e48 := (up_nI (a' := ca) (j' := ((12 + v22.toInt) : Int).toNat) U39 (fun h => by have h2 := h.2; omega)).trans e47
        have m49 : (sI H39 ca ((12 + v22.toInt)).toNat).toInt = v31.toInt := congrArg Int32.toInt e48
        have hU46 := UH.at hU39 (t := v22.toInt) (by omega) (by omega) (by omega) U46 (b := (v33.toInt + 2)) ev45i (by omega)
        have e50 := up_I U46
        refine lv_aload_n hx hb dX12_ices_81 rfl (lv_at hl 1 rfl) ?_
        refine q_getC E hC46 g0 fa_RX12_35 uc dX12_ices_82 ?_
        refine lv_bipush (v := 21) hx hb dX12_ices_85 rfl ?_
        refine q_cald E hC46 (lo := -2147483648) (hi := 2147483647) gca (a := 21) (show (21 : Int32).toInt = 21 from by decide) (by omega) (by omega) (cr_c16 (by omega) (by omega)) dX12_ices_87 (fun v51 ev51 _ _ => ?_)
        refine lv_iconst (v := 1) hx hb dX12_ices_88 rfl ?_
        refine q_icmp_ne hx hb (a := v51.toInt) (b := 1) rfl (by decide) (tgt := 117) dX12_ices_89 rfl (fun c52 => ?_) (fun c52 => ?_)
        · refine lv_iconst (v := 1) hx hb dX12_ices_117 rfl ?_
          exact ret 1 H46 locs46 _ _ dX12_ices_118 (Or.inr rfl) ⟨⟨hKp46, hU46⟩, Or.inr rfl⟩ hC46 hS46
        · refine lv_aload_n hx hb dX12_ices_92 rfl (lv_at hl 1 rfl) ?_
          refine lv_sipush (v := 170) hx hb dX12_ices_93 rfl ?_
          refine lv_iload_n hx hb dX12_ices_96 rfl (lv_at hl 0 rfl) ?_
          refine q_goIp (q_runV (As := [.int 170, .int v22]) (rest := []) E hC46 hS46 (m_X12_allOfHalf l X Γ H46 hC46 h0 g0 170 (a1 := 170) (by decide) v22 (a2 := v22.toInt) rfl ca gca uc (by omega) (by omega)) cw_X12_allOfHalf cl_RX12_307 g0 ⟨rfl, rfl⟩ rfl hl.1 rfl (Nat.zero_le _) (by decide) dX12_ices_97) hS46 (fun v53 locs53 hr53 hS53 => ?_)
          refine lv_aload_n hx hb dX12_ices_100 rfl (lv_at hl 1 rfl) ?_
          refine q_getC E hC46 g0 fa_RX12_35 uc dX12_ices_101 ?_
          refine lv_bipush (v := 25) hx hb dX12_ices_104 rfl ?_
          refine q_cald E hC46 (lo := -2147483648) (hi := 2147483647) gca (a := 25) (show (25 : Int32).toInt = 25 from by decide) (by omega) (by omega) (cr_c16 (by omega) (by omega)) dX12_ices_106 (fun v54 ev54 _ _ => ?_)
          have c55 := i_rng v53; rw [show v53.toInt = v53.toInt from rfl] at c55
          have c56 := i_rng v54; rw [show v54.toInt = v54.toInt from rfl] at c56
          refine q_icmp_le hx hb (a := v53.toInt) (b := v54.toInt) rfl rfl (tgt := 117) dX12_ices_107 rfl (fun c57 => ?_) (fun c57 => ?_)
          · refine lv_iconst (v := 1) hx hb dX12_ices_117 rfl ?_
            exact ret 1 H46 locs53 _ _ dX12_ices_118 (Or.inr rfl) ⟨⟨hKp46, hU46⟩, Or.inr rfl⟩ hC46 hS53
          · refine lv_aload_n hx hb dX12_ices_110 rfl (lv_at hl 1 rfl) ?_
            refine lv_iload_n hx hb dX12_ices_111 rfl (lv_at hl 0 rfl) ?_
            refine lv_iconst (v := 3) hx hb dX12_ices_112 rfl ?_
            refine lv_iload_n hx hb dX12_ices_113 rfl (lv_at hl 2 rfl) ?_
            refine q_goV (q_runV (As := [.int v22, .int 3, .int p1]) (rest := []) E hC46 hS53 (m_X12_breaks l X Γ H46 hC46 h0 g0 v22 (a1 := v22.toInt) rfl 3 (a2 := 3) (by decide) p1 (a3 := a1) e1 ca gca uc (by omega) (by omega)) cw_X12_breaks cl_RX12_332 g0 ⟨rfl, rfl⟩ rfl hl.1 rfl (Nat.zero_le _) (by decide) dX12_ices_114) hS53 (fun H58 locs58 hr58 hC58 hS58 => ?_)
            have hU58 := UH.kp hU46 hr58 gca rfl rfl
            have hKp58 := hKp46.tr (hr58.mono rfl)
            refine lv_iconst (v := 1) hx hb dX12_ices_117 rfl ?_
            exact ret 1 H58 locs58 _ _ dX12_ices_118 (Or.inr rfl) ⟨⟨hKp58, hU58⟩, Or.inr rfl⟩ hC58 hS58
      · refine q_if_ne hx hb (a := 0) (by decide) (tgt := 46) dX12_ices_41 rfl (fun c59 => absurd c59 (by omega)) (fun c59 => ?_)
        refine lv_iconst (v := 0) hx hb dX12_ices_44 rfl ?_
        exact ret 0 H0 locs29 _ _ dX12_ices_45 (Or.inl rfl) ⟨⟨hKp0, hu0⟩, Or.inl rfl⟩ hC0 hS29
set_option maxRecDepth 100000 in
set_option maxHeartbeats 4000000 in
theorem m_X12_ice (l : Launch) (X : xW) (Γ : Nat → Option Nat) (H0 : Heap) (hC0 : Conf X Γ H0) (h0 : Nat) (g0 : Γ h0 = some 11) (p1 : Int32) {a1 : Int} (e1 : p1.toInt = a1) (p2 : Int32) {a2 : Int} (e2 : p2.toInt = a2) (ca : Nat) (gca : Γ ca = some 64) (uc : ∀ a, Γ a = some 64 → a = ca) (hu0 : UH H0 ca) : Ctr l X Γ yX12_ice cX12_ice 3 (some .boolean) 3 [.ref h0, .int p1, .int p2] H0 (QI X Γ (fun v H1 => (Kp X Γ [1, 6, 7, 8, 9, 10, 11, 12, 14, 17, 19, 22, 24, 26, 28] H0 H1 ∧ UH H1 ca) ∧ (v = 0 ∨ v = 1))) := by
  refine q_enterZ (own := "SnowFortsModel") (by decide) rfl (Nat.le_of_ble_eq_true rfl) ?_
  intro p e s m args below meth c ls Qz E hl ret hS0
  have hx := E.1; have hb := E.2.1
  have hKp0 : Kp X Γ [1, 6, 7, 8, 9, 10, 11, 12, 14, 17, 19, 22, 24, 26, 28] H0 H0 := Kp.rf
  have hl : lv_has ls 3 [(0, .ref h0), (1, .int p1), (2, .int p2)] := hl
  refine lv_aload_n hx hb dX12_ice_0 rfl (lv_at hl 0 rfl) ?_
  refine lv_iconst (v := 0) hx hb dX12_ice_1 rfl ?_
  refine q_put E hC0 hS0 g0 fp_RX12_69 tv_F rfl rfl dX12_ice_2 (fun H21 locs21 hC21 hS21 U21 => ?_)
  have hKp21 := Kp.upO E g0 fp_RX12_69 rfl U21 hKp0
  have e22 := up_I U21
  have hU21 := UH.ne hu0 U21 (Or.inl (nek g0 gca (by decide)))
  refine lv_aload_n hx hb dX12_ice_5 rfl (lv_at hl 0 rfl) ?_
  refine lv_iconst (v := 0) hx hb dX12_ice_6 rfl ?_
  refine q_put E hC21 hS21 g0 fp_RX12_72 tv_F rfl rfl dX12_ice_7 (fun H23 locs23 hC23 hS23 U23 => ?_)
  have hKp23 := Kp.upO E g0 fp_RX12_72 rfl U23 hKp21
  have e24 := up_I U23
  have hU23 := UH.ne hU21 U23 (Or.inl (nek g0 gca (by decide)))
  refine lv_aload_n hx hb dX12_ice_10 rfl (lv_at hl 0 rfl) ?_
  refine lv_iload_n hx hb dX12_ice_11 rfl (lv_at hl 1 rfl) ?_
  refine lv_iload_n hx hb dX12_ice_12 rfl (lv_at hl 2 rfl) ?_
  refine q_goIp (q_runV (As := [.int p1, .int p2]) (rest := []) E hC23 hS23 (m_X12_isOwned l X Γ H23 hC23 h0 g0 p1 (a1 := a1) e1 p2 (a2 := a2) e2 ca gca uc) cw_X12_isOwned cl_RX12_336 g0 ⟨rfl, rfl⟩ rfl hl.1 rfl (Nat.zero_le _) (by decide) dX12_ice_13) hS23 (fun v25 locs25 hr25 hS25 => ?_)
  rcases hr25 with ⟨rfl, f25a0, f25a1, f25a2, f25a3⟩ | ⟨rfl, -⟩
  · refine q_if_ne hx hb (a := 1) (by decide) (tgt := 25) dX12_ice_16 rfl (fun c26 => ?_) (fun c26 => absurd c26 (by omega))
    refine lv_aload_n hx hb dX12_ice_25 rfl (lv_at hl 0 rfl) ?_
    refine lv_iload_n hx hb dX12_ice_26 rfl (lv_at hl 1 rfl) ?_
    refine lv_iload_n hx hb dX12_ice_27 rfl (lv_at hl 2 rfl) ?_
    refine q_goIp (q_runS (As := [.int p1, .int p2]) (rest := [.ref h0]) E hS25 (m_X12_at2 l X Γ H23 hC23 p1 (a0 := a1) e1 p2 (a1 := a2) e2 (by omega) (by omega) (by omega) (by omega)) cw_X12_at2 cl_RX12_292 rfl hl.1 rfl (show _ ≤ _ from by simp [Value.category]) (by decide) dX12_ice_28) hS25 (fun v27 locs27 hr27 hS27 => ?_)
    have f27_0 := hr27
    refine q_goI (q_runV (As := [.int v27]) (rest := []) E hC23 hS27 (m_X12_ices l X Γ H23 hC23 h0 g0 v27 (a1 := v27.toInt) rfl ca gca uc hU23 (by omega) (by omega)) cw_X12_ices cl_RX12_342 g0 ⟨rfl, rfl⟩ rfl hl.1 rfl (Nat.zero_le _) (by decide) dX12_ice_31) hS27 (fun v28 H28 locs28 hr28 hC28 hS28 => ?_)
    obtain ⟨hp28, hr28⟩ := hr28
    obtain ⟨hp28p, hU28⟩ := hp28
    have hKp28 := hKp23.tr (hp28p.mono rfl)
    rcases hr28 with rfl | rfl
    · refine q_if_ne hx hb (a := 0) (by decide) (tgt := 46) dX12_ice_34 rfl (fun c29 => absurd c29 (by omega)) (fun c29 => ?_)
      refine lv_aload_n hx hb dX12_ice_37 rfl (lv_at hl 0 rfl) ?_
      refine lv_bipush (v := 9) hx hb dX12_ice_38 rfl ?_
      refine q_goI (q_runV (As := [.int 9]) (rest := []) E hC28 hS28 (m_X12_no l X Γ H28 hC28 h0 g0 9 (a1 := 9) (by decide) ca gca uc) cw_X12_no cl_RX12_84 g0 ⟨rfl, rfl⟩ rfl hl.1 rfl (Nat.zero_le _) (by decide) dX12_ice_40) hS28 (fun v30 H30 locs30 hr30 hC30 hS30 => ?_)
      obtain ⟨hp30, hr30⟩ := hr30
      have hU30 := UH.kp hU28 hp30 gca rfl rfl
      have hKp30 := hKp28.tr (hp30.mono rfl)
      rcases hr30 with ⟨rfl, f30a⟩ | ⟨rfl, -⟩
      · exact absurd f30a (by decide)
      · refine q_if_eq hx hb (a := 0) (by decide) (tgt := 50) dX12_ice_43 rfl (fun c31 => ?_) (fun c31 => absurd c31 (by omega))
        refine lv_iconst (v := 0) hx hb dX12_ice_50 rfl ?_
        exact ret 0 H30 locs30 _ _ dX12_ice_51 (Or.inl rfl) ⟨⟨hKp30, hU30⟩, Or.inl rfl⟩ hC30 hS30
    · refine q_if_ne hx hb (a := 1) (by decide) (tgt := 46) dX12_ice_34 rfl (fun c32 => ?_) (fun c32 => absurd c32 (by omega))
      refine lv_iconst (v := 1) hx hb dX12_ice_46 rfl ?_
      refine lv_goto (tgt := 51) hx hb dX12_ice_47 rfl ?_
      exact ret 1 H28 locs28 _ _ dX12_ice_51 (Or.inr rfl) ⟨⟨hKp28, hU28⟩, Or.inr rfl⟩ hC28 hS28
  · refine q_if_ne hx hb (a := 0) (by decide) (tgt := 25) dX12_ice_16 rfl (fun c33 => absurd c33 (by omega)) (fun c33 => ?_)
    refine lv_aload_n hx hb dX12_ice_19 rfl (lv_at hl 0 rfl) ?_
    refine lv_iconst (v := 2) hx hb dX12_ice_20 rfl ?_
    refine q_goI (q_runV (As := [.int 2]) (rest := []) E hC23 hS25 (m_X12_no l X Γ H23 hC23 h0 g0 2 (a1 := 2) (by decide) ca gca uc) cw_X12_no cl_RX12_84 g0 ⟨rfl, rfl⟩ rfl hl.1 rfl (Nat.zero_le _) (by decide) dX12_ice_21) hS25 (fun v34 H34 locs34 hr34 hC34 hS34 => ?_)
    obtain ⟨hp34, hr34⟩ := hr34
    have hU34 := UH.kp hU23 hp34 gca rfl rfl
    have hKp34 := hKp23.tr (hp34.mono rfl)
    rcases hr34 with ⟨rfl, f34a⟩ | ⟨rfl, -⟩
    · exact absurd f34a (by decide)
    · exact ret 0 H34 locs34 _ _ dX12_ice_24 (Or.inl rfl) ⟨⟨hKp34, hU34⟩, Or.inl rfl⟩ hC34 hS34
set_option maxRecDepth 100000 in
set_option maxHeartbeats 4000000 in
theorem m_X12_steals (l : Launch) (X : xW) (Γ : Nat → Option Nat) (H0 : Heap) (hC0 : Conf X Γ H0) (h0 : Nat) (g0 : Γ h0 = some 11) (p1 : Int32) {a1 : Int} (e1 : p1.toInt = a1) (p2 : Int32) {a2 : Int} (e2 : p2.toInt = a2) (p3 : Int32) {a3 : Int} (e3 : p3.toInt = a3) (ca : Nat) (gca : Γ ca = some 64) (uc : ∀ a, Γ a = some 64 → a = ca) (hu0 : UH H0 ca) (r0 : 0 ≤ a1) (r1 : a1 ≤ 35) (r2 : 0 ≤ a2) (r3 : a2 ≤ 35) (r4 : 0 ≤ a3) : Ctr l X Γ yX12_steals cX12_steals 9 (some .int) 1 [.ref h0, .int p1, .int p2, .int p3] H0 (QI X Γ (fun v H1 => (Kp X Γ [1, 6, 7, 8, 9, 10, 11, 12, 14, 17, 19, 22, 24, 26, 28] H0 H1 ∧ UH H1 ca) ∧ (True))) := by
  refine q_enterI (own := "SnowFortsModel") (by decide) rfl (Nat.le_of_ble_eq_true rfl) ?_
  intro p e s m args below meth c ls Qz E hl ret hS0
  have hx := E.1; have hb := E.2.1
  have hKp0 : Kp X Γ [1, 6, 7, 8, 9, 10, 11, 12, 14, 17, 19, 22, 24, 26, 28] H0 H0 := Kp.rf
  have hl : lv_has ls 9 [(0, .ref h0), (1, .int p1), (2, .int p2), (3, .int p3)] := hl
  refine lv_aload_n hx hb dX12_steals_0 rfl (lv_at hl 0 rfl) ?_
  refine lv_iload_n hx hb dX12_steals_1 rfl (lv_at hl 1 rfl) ?_
  refine lv_bipush (v := 6) hx hb dX12_steals_2 rfl ?_
  refine lv_irem hx hb dX12_steals_4 (by decide) (lv_topi (fun v21 ev21 => ?_))
  have ev21i : v21.toInt = (a1 % 6) := i_rem ev21 e1 (by decide) (by omega) (by decide)
  refine q_goIp (q_runV (As := [.int v21]) (rest := []) E hC0 hS0 (m_X12_halfOf l X Γ H0 hC0 h0 g0 v21 (a1 := (a1 % 6)) ev21i ca gca uc) cw_X12_halfOf cl_RX12_270 g0 ⟨rfl, rfl⟩ rfl hl.1 rfl (Nat.zero_le _) (by decide) dX12_steals_5) hS0 (fun v22 locs22 hr22 hS22 => ?_)
  obtain ⟨f22_0, f22_1⟩ := hr22
  refine lv_istore hx hb dX12_steals_8 hl (by decide) rfl (fun ls hl => ?_)
  replace hl : lv_has ls 9 [(4, .int v22), (0, .ref h0), (1, .int p1), (2, .int p2), (3, .int p3)] := hl
  refine lv_iload_n hx hb dX12_steals_10 rfl (lv_at hl 4 rfl) ?_
  have hz := hu0 v22.toInt (by omega) (by omega)
  refine lv_aload_n hx hb dX12_steals_11 rfl (lv_at hl 1 rfl) ?_
  refine q_getC E hC0 g0 fa_RX12_35 uc dX12_steals_12 ?_
  refine lv_bipush (v := 26) hx hb dX12_steals_15 rfl ?_
  refine lv_iload_n hx hb dX12_steals_17 rfl (lv_at hl 3 rfl) ?_
  refine lv_iadd hx hb dX12_steals_18 (lv_topi (fun v23 ev23 => ?_))
  have ev23i : v23.toInt = (26 + a2) := i_add ev23 (by decide) e2 (by omega) (by omega)
  refine q_cald E hC0 (lo := 0) (hi := 99) gca (a := (26 + a2)) ev23i (by omega) (by omega) (cr_c26 (by omega) (by omega)) dX12_steals_19 (fun v24 ev24 lv24 uv24 => ?_)
  refine lv_iconst (v := 2) hx hb dX12_steals_20 rfl ?_
  refine lv_aload_n hx hb dX12_steals_21 rfl (lv_at hl 1 rfl) ?_
  refine q_getC E hC0 g0 fa_RX12_35 uc dX12_steals_22 ?_
  refine lv_bipush (v := 12) hx hb dX12_steals_25 rfl ?_
  refine lv_iload hx hb dX12_steals_27 (lv_at hl 0 rfl) ?_
  refine lv_iadd hx hb dX12_steals_29 (lv_topi (fun v25 ev25 => ?_))
  have ev25i : v25.toInt = (12 + v22.toInt) := i_add ev25 (by decide) rfl (by omega) (by omega)
  refine q_cald E hC0 (lo := 0) (hi := 40) gca (a := (12 + v22.toInt)) ev25i (by omega) (by omega) (cr_c12 (by omega) (by omega)) dX12_steals_30 (fun v26 ev26 lv26 uv26 => ?_)
  have m27 : (sI H0 ca ((12 + v22.toInt) : Int).toNat).toInt = v26.toInt := congrArg Int32.toInt ev26
  refine lv_aload_n hx hb dX12_steals_31 rfl (lv_at hl 1 rfl) ?_
  refine q_getC E hC0 g0 fa_RX12_35 uc dX12_steals_32 ?_
  refine lv_bipush (v := 14) hx hb dX12_steals_35 rfl ?_
  refine lv_iload hx hb dX12_steals_37 (lv_at hl 0 rfl) ?_
  refine lv_iadd hx hb dX12_steals_39 (lv_topi (fun v28 ev28 => ?_))
  have ev28i : v28.toInt = (14 + v22.toInt) := i_add ev28 (by decide) rfl (by omega) (by omega)
  refine q_cald E hC0 (lo := 0) (hi := 40) gca (a := (14 + v22.toInt)) ev28i (by omega) (by omega) (cr_c12 (by omega) (by omega)) dX12_steals_40 (fun v29 ev29 lv29 uv29 => ?_)
  have m30 : (sI H0 ca ((14 + v22.toInt) : Int).toNat).toInt = v29.toInt := congrArg Int32.toInt ev29
  refine lv_isub hx hb dX12_steals_41 (lv_topi (fun v31 ev31 => ?_))
  have ev31i : v31.toInt = (v26.toInt - v29.toInt) := i_sub ev31 rfl rfl (by omega) (by omega)
  refine lv_imul hx hb dX12_steals_42 (lv_topi (fun v32 ev32 => ?_))
  have ev32i : v32.toInt = (2 * (v26.toInt - v29.toInt)) := i_mul ev32 (by decide) ev31i (by omega) (by omega)
  refine q_mmin E hl.1 w_1740 mathw_min (a := v24.toInt) (b := (2 * (v26.toInt - v29.toInt))) rfl ev32i (by decide) (show _ ≤ _ from by simp [Value.category]) dX12_steals_43 (fun v33 mv33a mv33b mv33c => ?_)
  refine q_mmin E hl.1 w_1740 mathw_min (a := a3) (b := v33.toInt) e3 rfl (by decide) (Nat.zero_le _) dX12_steals_46 (fun v34 mv34a mv34b mv34c => ?_)
  refine lv_istore hx hb dX12_steals_49 hl (by decide) rfl (fun ls hl => ?_)
  replace hl : lv_has ls 9 [(5, .int v34), (4, .int v22), (0, .ref h0), (1, .int p1), (2, .int p2), (3, .int p3)] := hl
  refine lv_iload hx hb dX12_steals_51 (lv_at hl 0 rfl) ?_
  refine q_if_ne hx hb (a := v34.toInt) rfl (tgt := 58) dX12_steals_53 rfl (fun c35 => ?_) (fun c35 => ?_)
  · refine lv_iload hx hb dX12_steals_58 (lv_at hl 0 rfl) ?_
    refine lv_iconst (v := 1) hx hb dX12_steals_60 rfl ?_
    refine lv_iadd hx hb dX12_steals_61 (lv_topi (fun v36 ev36 => ?_))
    have ev36i : v36.toInt = (v34.toInt + 1) := i_add ev36 rfl (by decide) (by omega) (by omega)
    refine lv_iconst (v := 2) hx hb dX12_steals_62 rfl ?_
    refine lv_idiv hx hb dX12_steals_63 (by decide) (lv_topi (fun v37 ev37 => ?_))
    have ev37i : v37.toInt = ((v34.toInt + 1) / 2) := i_div ev37 ev36i (by decide) (by omega) (by decide)
    refine lv_istore hx hb dX12_steals_64 hl (by decide) rfl (fun ls hl => ?_)
    replace hl : lv_has ls 9 [(6, .int v37), (5, .int v34), (4, .int v22), (0, .ref h0), (1, .int p1), (2, .int p2), (3, .int p3)] := hl
    refine lv_aload_n hx hb dX12_steals_66 rfl (lv_at hl 3 rfl) ?_
    refine q_getC E hC0 g0 fa_RX12_35 uc dX12_steals_67 ?_
    refine lv_bipush (v := 26) hx hb dX12_steals_70 rfl ?_
    refine lv_iload_n hx hb dX12_steals_72 rfl (lv_at hl 5 rfl) ?_
    refine lv_iadd hx hb dX12_steals_73 (lv_topi (fun v38 ev38 => ?_))
    have ev38i : v38.toInt = (26 + a2) := i_add ev38 (by decide) e2 (by omega) (by omega)
    refine lv_dup2_11 hx hb dX12_steals_74 rfl rfl ?_
    refine q_cald E hC0 (lo := 0) (hi := 99) gca (a := (26 + a2)) ev38i (by omega) (by omega) (cr_c26 (by omega) (by omega)) dX12_steals_75 (fun v39 ev39 lv39 uv39 => ?_)
    have qv39 := ev24.symm.trans ev39; subst qv39
    refine lv_iload hx hb dX12_steals_76 (lv_at hl 1 rfl) ?_
    refine lv_isub hx hb dX12_steals_78 (lv_topi (fun v40 ev40 => ?_))
    have ev40i : v40.toInt = (v24.toInt - v34.toInt) := i_sub ev40 rfl rfl (by omega) (by omega)
    refine q_cast E hC0 hS22 gca (a := (26 + a2)) ev38i (by omega) (by omega) (cs_c26 (a := (26 + a2)) (b := (v24.toInt - v34.toInt)) (by omega) (by omega) ev40i (by omega) (by omega)) dX12_steals_79 (fun H41 locs41 hC41 hS41 U41 => ?_)
    have hKp41 := Kp.upD gca rfl rfl (fun _ => ⟨fun _ => nd2 (by omega) (by omega), fun h => absurd h (by decide), fun _ => by unfold dpn; omega⟩) U41 hKp0
    have hU41 := UH.ne hu0 U41 (Or.inr (by omega))
    have e42 := up_I U41
    refine lv_iconst (v := 0) hx hb dX12_steals_80 rfl ?_
    refine lv_aload_n hx hb dX12_steals_81 rfl (lv_at hl 3 rfl) ?_
    refine q_getC E hC41 g0 fa_RX12_35 uc dX12_steals_82 ?_
    refine lv_bipush (v := 26) hx hb dX12_steals_85 rfl ?_
    refine lv_iload_n hx hb dX12_steals_87 rfl (lv_at hl 4 rfl) ?_
    refine lv_iadd hx hb dX12_steals_88 (lv_topi (fun v43 ev43 => ?_))
    have ev43i : v43.toInt = (26 + a1) := i_add ev43 (by decide) e1 (by omega) (by omega)
    refine q_cald E hC41 (lo := 0) (hi := 99) gca (a := (26 + a1)) ev43i (by omega) (by omega) (cr_c26 (by omega) (by omega)) dX12_steals_89 (fun v44 ev44 lv44 uv44 => ?_)
    refine lv_iload hx hb dX12_steals_90 (lv_at hl 1 rfl) ?_
    refine lv_iadd hx hb dX12_steals_92 (lv_topi (fun v45 ev45 => ?_))
    have ev45i : v45.toInt = (v44.toInt + v34.toInt) := i_add ev45 rfl rfl (by omega) (by omega)
    refine lv_bipush (v := 99) hx hb dX12_steals_93 rfl ?_
    refine lv_isub hx hb dX12_steals_95 (lv_topi (fun v46 ev46 => ?_))
    have ev46i : v46.toInt = ((v44.toInt + v34.toInt) - 99) := i_sub ev46 ev45i (by decide) (by omega) (by omega)
    refine q_mmax E hl.1 w_1731 mathw_max (a := 0) (b := ((v44.toInt + v34.toInt) - 99)) (show (0 : Int32).toInt = 0 from by decide) ev46i (by decide) (Nat.zero_le _) dX12_steals_96 (fun v47 mv47a mv47b mv47c => ?_)
    refine lv_istore hx hb dX12_steals_99 hl (by decide) rfl (fun ls hl => ?_)
    replace hl : lv_has ls 9 [(7, .int v47), (6, .int v37), (5, .int v34), (4, .int v22), (0, .ref h0), (1, .int p1), (2, .int p2), (3, .int p3)] := hl
    refine lv_aload_n hx hb dX12_steals_101 rfl (lv_at hl 4 rfl) ?_
    refine q_getC E hC41 g0 fa_RX12_35 uc dX12_steals_102 ?_
    refine lv_bipush (v := 26) hx hb dX12_steals_105 rfl ?_
    refine lv_iload_n hx hb dX12_steals_107 rfl (lv_at hl 5 rfl) ?_
    refine lv_iadd hx hb dX12_steals_108 (lv_topi (fun v48 ev48 => ?_))
    have ev48i : v48.toInt = (26 + a1) := i_add ev48 (by decide) e1 (by omega) (by omega)
    refine lv_dup2_11 hx hb dX12_steals_109 rfl rfl ?_
    refine q_cald E hC41 (lo := 0) (hi := 99) gca (a := (26 + a1)) ev48i (by omega) (by omega) (cr_c26 (by omega) (by omega)) dX12_steals_110 (fun v49 ev49 lv49 uv49 => ?_)
    have qv49 := ev44.symm.trans ev49; subst qv49
    refine lv_iload hx hb dX12_steals_111 (lv_at hl 2 rfl) ?_
    refine lv_iload hx hb dX12_steals_113 (lv_at hl 0 rfl) ?_
    refine lv_isub hx hb dX12_steals_115 (lv_topi (fun v50 ev50 => ?_))
    have ev50i : v50.toInt = (v34.toInt - v47.toInt) := i_sub ev50 rfl rfl (by omega) (by omega)
    refine lv_iadd hx hb dX12_steals_116 (lv_topi (fun v51 ev51 => ?_))
    have ev51i : v51.toInt = (v44.toInt + (v34.toInt - v47.toInt)) := i_add ev51 rfl ev50i (by omega) (by omega)
    refine q_cast E hC41 hS41 gca (a := (26 + a1)) ev48i (by omega) (by omega) (cs_c26 (a := (26 + a1)) (b := (v44.toInt + (v34.toInt - v47.toInt))) (by omega) (by omega) ev51i (by omega) (by omega)) dX12_steals_117 (fun H52 locs52 hC52 hS52 U52 => ?_)
    have hKp52 := Kp.upD gca rfl rfl (fun _ => ⟨fun _ => nd2 (by omega) (by omega), fun h => absurd h (by decide), fun _ => by unfold dpn; omega⟩) U52 hKp41
    have hU52 := UH.ne hU41 U52 (Or.inr (by omega))
    have e53 := up_I U52
    refine lv_aload_n hx hb dX12_steals_118 rfl (lv_at hl 4 rfl) ?_
    refine q_getC E hC52 g0 fa_RX12_35 uc dX12_steals_119 ?_
    refine lv_bipush (v := 6) hx hb dX12_steals_122 rfl ?_
    refine lv_dup2_11 hx hb dX12_steals_124 rfl rfl ?_
    refine q_cald E hC52 (lo := -2147483648) (hi := 2147483647) gca (a := 6) (show (6 : Int32).toInt = 6 from by decide) (by omega) (by omega) (cr_c3 (by omega) (by omega)) dX12_steals_125 (fun v54 ev54 _ _ => ?_)
    refine lv_iload hx hb dX12_steals_126 (lv_at hl 0 rfl) ?_
    refine lv_iadd hx hb dX12_steals_128 (lv_topi (fun v55 ev55 => ?_))
    refine q_cast E hC52 hS52 gca (a := 6) (show (6 : Int32).toInt = 6 from by decide) (by omega) (by omega) (cs_c3 (a := 6) (by omega) (by omega)) dX12_steals_129 (fun H56 locs56 hC56 hS56 U56 => ?_)
    have hKp56 := Kp.upD gca rfl rfl (fun _ => ⟨fun _ => nd1 (by omega) (by omega), fun h => absurd h (by decide), fun _ => by unfold dpn; omega⟩) U56 hKp52
    have hU56 := UH.ne hU52 U56 (Or.inr (by omega))
    have e57 := up_I U56
    refine lv_aload_n hx hb dX12_steals_130 rfl (lv_at hl 4 rfl) ?_
    refine q_getC E hC56 g0 fa_RX12_35 uc dX12_steals_131 ?_
    refine lv_bipush (v := 14) hx hb dX12_steals_134 rfl ?_
    refine lv_iload hx hb dX12_steals_136 (lv_at hl 3 rfl) ?_
    refine lv_iadd hx hb dX12_steals_138 (lv_topi (fun v58 ev58 => ?_))
    have ev58i : v58.toInt = (14 + v22.toInt) := i_add ev58 (by decide) rfl (by omega) (by omega)
    refine lv_dup2_11 hx hb dX12_steals_139 rfl rfl ?_
    have e60 := (up_nI (a' := ca) (j' := ((14 + v22.toInt) : Int).toNat) U41 (fun h => by have h2 := h.2; omega)).trans ev29
    have e61 := (up_nI (a' := ca) (j' := ((14 + v22.toInt) : Int).toNat) U52 (fun h => by have h2 := h.2; omega)).trans e60
    have e62 := (up_nI (a' := ca) (j' := ((14 + v22.toInt) : Int).toNat) U56 (fun h => by have h2 := h.2; omega)).trans e61
    refine q_cald E hC56 (lo := 0) (hi := 40) gca (a := (14 + v22.toInt)) ev58i (by omega) (by omega) (cr_c12 (by omega) (by omega)) dX12_steals_140 (fun v59 ev59 lv59 uv59 => ?_)
    have qv59 := e62.symm.trans ev59; subst qv59
    refine lv_iload hx hb dX12_steals_141 (lv_at hl 1 rfl) ?_
    refine lv_iadd hx hb dX12_steals_143 (lv_topi (fun v63 ev63 => ?_))
    have ev63i : v63.toInt = (v29.toInt + ((v34.toInt + 1) / 2)) := i_add ev63 rfl ev37i (by omega) (by omega)
    refine q_cast E hC56 hS56 gca (a := (14 + v22.toInt)) ev58i (by omega) (by omega) (cs_c12 (a := (14 + v22.toInt)) (b := (v29.toInt + ((v34.toInt + 1) / 2))) (by omega) (by omega) ev63i (by omega) (by omega)) dX12_steals_144 (fun H64 locs64 hC64 hS64 U64 => ?_)
    have hKp64 := Kp.upD gca rfl rfl (fun _ => ⟨fun _ => nd3 (by omega) (by omega), fun h => absurd h (by decide), fun _ => by unfold dpn; omega⟩) U64 hKp56
    have e65 := (up_nI (a' := ca) (j' := ((12 + v22.toInt) : Int).toNat) U41 (fun h => by have h2 := h.2; omega)).trans ev26
    have e66 := (up_nI (a' := ca) (j' := ((12 + v22.toInt) : Int).toNat) U52 (fun h => by have h2 := h.2; omega)).trans e65
    have e67 := (up_nI (a' := ca) (j' := ((12 + v22.toInt) : Int).toNat) U56 (fun h => by have h2 := h.2; omega)).trans e66
    have m68 : (sI H56 ca ((12 + v22.toInt)).toNat).toInt = v26.toInt := congrArg Int32.toInt e67
    have hU64 := UH.at hU56 (t := v22.toInt) (by omega) (by omega) (by omega) U64 (b := (v29.toInt + ((v34.toInt + 1) / 2))) ev63i (by omega)
    have e69 := up_I U64
    refine lv_aload_n hx hb dX12_steals_145 rfl (lv_at hl 4 rfl) ?_
    refine q_getC E hC64 g0 fa_RX12_35 uc dX12_steals_146 ?_
    refine lv_sipush (v := 206) hx hb dX12_steals_149 rfl ?_
    refine lv_iload_n hx hb dX12_steals_152 rfl (lv_at hl 5 rfl) ?_
    refine lv_iadd hx hb dX12_steals_153 (lv_topi (fun v70 ev70 => ?_))
    have ev70i : v70.toInt = (206 + a1) := i_add ev70 (by decide) e1 (by omega) (by omega)
    refine lv_iconst (v := 0) hx hb dX12_steals_154 rfl ?_
    refine q_cast E hC64 hS64 gca (a := (206 + a1)) ev70i (by omega) (by omega) (cs_c134 (a := (206 + a1)) (by omega) (by omega)) dX12_steals_155 (fun H71 locs71 hC71 hS71 U71 => ?_)
    have hKp71 := Kp.upD gca rfl rfl (fun _ => ⟨fun _ => nd2 (by omega) (by omega), fun h => absurd h (by decide), fun _ => by unfold dpn; omega⟩) U71 hKp64
    have hU71 := UH.ne hU64 U71 (Or.inr (by omega))
    have e72 := up_I U71
    refine lv_aload_n hx hb dX12_steals_156 rfl (lv_at hl 4 rfl) ?_
    refine q_getC E hC71 g0 fa_RX12_35 uc dX12_steals_157 ?_
    refine lv_sipush (v := 206) hx hb dX12_steals_160 rfl ?_
    refine lv_iload_n hx hb dX12_steals_163 rfl (lv_at hl 6 rfl) ?_
    refine lv_iadd hx hb dX12_steals_164 (lv_topi (fun v73 ev73 => ?_))
    have ev73i : v73.toInt = (206 + a2) := i_add ev73 (by decide) e2 (by omega) (by omega)
    refine lv_iconst (v := 0) hx hb dX12_steals_165 rfl ?_
    refine q_cast E hC71 hS71 gca (a := (206 + a2)) ev73i (by omega) (by omega) (cs_c134 (a := (206 + a2)) (by omega) (by omega)) dX12_steals_166 (fun H74 locs74 hC74 hS74 U74 => ?_)
    have hKp74 := Kp.upD gca rfl rfl (fun _ => ⟨fun _ => nd2 (by omega) (by omega), fun h => absurd h (by decide), fun _ => by unfold dpn; omega⟩) U74 hKp71
    have hU74 := UH.ne hU71 U74 (Or.inr (by omega))
    have e75 := up_I U74
    refine lv_iconst (v := 0) hx hb dX12_steals_167 rfl ?_
    refine lv_istore hx hb dX12_steals_168 hl (by decide) rfl (fun ls hl => ?_)
    replace hl : lv_has ls 9 [(8, .int 0), (7, .int v47), (6, .int v37), (5, .int v34), (4, .int v22), (0, .ref h0), (1, .int p1), (2, .int p2), (3, .int p3)] := hl
    have L170 : ∀ (n77 : Nat) (H77 : Heap) (locs77 : List Loc) (v76 : Int32) (z76 : Int) (ls : Array Slot), (((v34.toInt + 1) / 2) - z76).toNat < n77 → v76.toInt = z76 → 0 ≤ z76 → Conf X Γ H77 → va_S (AΓ Γ) H0 H77 locs77 → UH H77 ca → Kp X Γ [1, 6, 7, 8, 9, 10, 11, 12, 14, 17, 19, 22, 24, 26, 28] H0 H77 → lv_has ls 9 [(8, .int v76), (7, .int v47), (6, .int v37), (5, .int v34), (4, .int v22), (0, .ref h0), (1, .int p1), (2, .int p2), (3, .int p3)] → W p l e (rmL 1) s m args below meth c H77 locs77 0 0 Qz (F0 m 170 ls []) := by
      intro n77
      induction n77 with
      | zero => intro H77 locs77 v76 z76 ls hm77 ev76 iv77_0 hC77 hS77 hU77 hKp77 hl; exact absurd hm77 (Nat.not_lt_zero _)
      | succ n77 ih77 =>
        intro H77 locs77 v76 z76 ls hm77 ev76 iv77_0 hC77 hS77 hU77 hKp77 hl
        refine lv_iload hx hb dX12_steals_170 (lv_at hl 0 rfl) ?_
        refine lv_iload hx hb dX12_steals_172 (lv_at hl 2 rfl) ?_
        refine q_icmp_ge hx hb (a := z76) (b := ((v34.toInt + 1) / 2)) ev76 ev37i (tgt := 202) dX12_steals_174 rfl (fun c78 => ?_) (fun c78 => ?_)
        · refine lv_iload hx hb dX12_steals_202 (lv_at hl 3 rfl) ?_
          exact ret v34 H77 locs77 _ _ dX12_steals_204 ⟨⟨hKp77, hU77⟩, trivial⟩ hC77 hS77
        · refine lv_aload_n hx hb dX12_steals_177 rfl (lv_at hl 5 rfl) ?_
          refine q_getC E hC77 g0 fa_RX12_35 uc dX12_steals_178 ?_
          refine lv_bipush (v := 20) hx hb dX12_steals_181 rfl ?_
          refine q_cald E hC77 (lo := -2147483648) (hi := 2147483647) gca (a := 20) (show (20 : Int32).toInt = 20 from by decide) (by omega) (by omega) (cr_c16 (by omega) (by omega)) dX12_steals_183 (fun v79 ev79 _ _ => ?_)
          refine lv_iconst (v := 1) hx hb dX12_steals_184 rfl ?_
          refine q_icmp_ne hx hb (a := v79.toInt) (b := 1) rfl (by decide) (tgt := 202) dX12_steals_185 rfl (fun c80 => ?_) (fun c80 => ?_)
          · refine lv_iload hx hb dX12_steals_202 (lv_at hl 3 rfl) ?_
            exact ret v34 H77 locs77 _ _ dX12_steals_204 ⟨⟨hKp77, hU77⟩, trivial⟩ hC77 hS77
          · refine lv_aload_n hx hb dX12_steals_188 rfl (lv_at hl 5 rfl) ?_
            refine lv_iload hx hb dX12_steals_189 (lv_at hl 4 rfl) ?_
            refine lv_iconst (v := 2) hx hb dX12_steals_191 rfl ?_
            refine lv_iload_n hx hb dX12_steals_192 rfl (lv_at hl 7 rfl) ?_
            refine q_goV (q_runV (As := [.int v22, .int 2, .int p2]) (rest := []) E hC77 hS77 (m_X12_breaks l X Γ H77 hC77 h0 g0 v22 (a1 := v22.toInt) rfl 2 (a2 := 2) (by decide) p2 (a3 := a2) e2 ca gca uc (by omega) (by omega)) cw_X12_breaks cl_RX12_332 g0 ⟨rfl, rfl⟩ rfl hl.1 rfl (Nat.zero_le _) (by decide) dX12_steals_193) hS77 (fun H81 locs81 hr81 hC81 hS81 => ?_)
            have hU81 := UH.kp hU77 hr81 gca rfl rfl
            have hKp81 := hKp77.tr (hr81.mono rfl)
            obtain ⟨v82, ev82⟩ : ∃ z, z = v76 + Int32.ofInt 1 := ⟨_, rfl⟩
            have ev82i : v82.toInt = (z76 + 1) := i_add ev82 ev76 (by decide) (by omega) (by omega)
            refine lv_iinc hx hb dX12_steals_196 hl (k := 0) rfl ev82.symm (by decide) rfl (fun ls hl => ?_)
            replace hl : lv_has ls 9 [(8, .int v82), (7, .int v47), (6, .int v37), (5, .int v34), (4, .int v22), (0, .ref h0), (1, .int p1), (2, .int p2), (3, .int p3)] := hl
            refine lv_goto (tgt := 170) hx hb dX12_steals_199 rfl ?_
            exact ih77 H81 locs81 v82 ((z76 + 1)) ls (by omega) ev82i (by omega) hC81 hS81 hU81 hKp81 hl
    exact L170 _ H74 locs74 0 0 ls (Nat.lt_succ_self _) (by decide) (by omega) hC74 hS74 hU74 hKp74 hl
  · refine lv_iconst (v := 0) hx hb dX12_steals_56 rfl ?_
    exact ret 0 H0 locs22 _ _ dX12_steals_57 ⟨⟨hKp0, hu0⟩, trivial⟩ hC0 hS22
set_option maxRecDepth 100000 in
set_option maxHeartbeats 4000000 in
theorem m_X12_steal (l : Launch) (X : xW) (Γ : Nat → Option Nat) (H0 : Heap) (hC0 : Conf X Γ H0) (h0 : Nat) (g0 : Γ h0 = some 11) (p1 : Int32) {a1 : Int} (e1 : p1.toInt = a1) (p2 : Int32) {a2 : Int} (e2 : p2.toInt = a2) (p3 : Int32) {a3 : Int} (e3 : p3.toInt = a3) (p4 : Int32) {a4 : Int} (e4 : p4.toInt = a4) (p5 : Int32) {a5 : Int} (e5 : p5.toInt = a5) (ca : Nat) (gca : Γ ca = some 64) (uc : ∀ a, Γ a = some 64 → a = ca) (hu0 : UH H0 ca) : Ctr l X Γ yX12_steal cX12_steal 7 (some .int) 3 [.ref h0, .int p1, .int p2, .int p3, .int p4, .int p5] H0 (QI X Γ (fun v H1 => (Kp X Γ [1, 6, 7, 8, 9, 10, 11, 12, 14, 17, 19, 22, 24, 26, 28] H0 H1 ∧ UH H1 ca) ∧ (True))) := by
  refine q_enterI (own := "SnowFortsModel") (by decide) rfl (Nat.le_of_ble_eq_true rfl) ?_
  intro p e s m args below meth c ls Qz E hl ret hS0
  have hx := E.1; have hb := E.2.1
  have hKp0 : Kp X Γ [1, 6, 7, 8, 9, 10, 11, 12, 14, 17, 19, 22, 24, 26, 28] H0 H0 := Kp.rf
  have hl : lv_has ls 7 [(0, .ref h0), (1, .int p1), (2, .int p2), (3, .int p3), (4, .int p4), (5, .int p5)] := hl
  refine lv_aload_n hx hb dX12_steal_0 rfl (lv_at hl 0 rfl) ?_
  refine lv_iconst (v := 0) hx hb dX12_steal_1 rfl ?_
  refine q_put E hC0 hS0 g0 fp_RX12_69 tv_F rfl rfl dX12_steal_2 (fun H21 locs21 hC21 hS21 U21 => ?_)
  have hKp21 := Kp.upO E g0 fp_RX12_69 rfl U21 hKp0
  have e22 := up_I U21
  have hU21 := UH.ne hu0 U21 (Or.inl (nek g0 gca (by decide)))
  refine lv_aload_n hx hb dX12_steal_5 rfl (lv_at hl 0 rfl) ?_
  refine lv_iconst (v := 0) hx hb dX12_steal_6 rfl ?_
  refine q_put E hC21 hS21 g0 fp_RX12_72 tv_F rfl rfl dX12_steal_7 (fun H23 locs23 hC23 hS23 U23 => ?_)
  have hKp23 := Kp.upO E g0 fp_RX12_72 rfl U23 hKp21
  have e24 := up_I U23
  have hU23 := UH.ne hU21 U23 (Or.inl (nek g0 gca (by decide)))
  refine lv_aload_n hx hb dX12_steal_10 rfl (lv_at hl 0 rfl) ?_
  refine lv_iload_n hx hb dX12_steal_11 rfl (lv_at hl 1 rfl) ?_
  refine lv_iload_n hx hb dX12_steal_12 rfl (lv_at hl 2 rfl) ?_
  refine q_goIp (q_runV (As := [.int p1, .int p2]) (rest := []) E hC23 hS23 (m_X12_isOwned l X Γ H23 hC23 h0 g0 p1 (a1 := a1) e1 p2 (a2 := a2) e2 ca gca uc) cw_X12_isOwned cl_RX12_336 g0 ⟨rfl, rfl⟩ rfl hl.1 rfl (Nat.zero_le _) (by decide) dX12_steal_13) hS23 (fun v25 locs25 hr25 hS25 => ?_)
  rcases hr25 with ⟨rfl, f25a0, f25a1, f25a2, f25a3⟩ | ⟨rfl, -⟩
  · refine q_if_eq hx hb (a := 1) (by decide) (tgt := 29) dX12_steal_16 rfl (fun c26 => absurd c26 (by omega)) (fun c26 => ?_)
    refine lv_aload_n hx hb dX12_steal_19 rfl (lv_at hl 0 rfl) ?_
    refine lv_iload_n hx hb dX12_steal_20 rfl (lv_at hl 3 rfl) ?_
    refine lv_iload hx hb dX12_steal_21 (lv_at hl 4 rfl) ?_
    refine q_goIp (q_runV (As := [.int p3, .int p4]) (rest := []) E hC23 hS25 (m_X12_isCell l X Γ H23 hC23 h0 g0 p3 (a1 := a3) e3 p4 (a2 := a4) e4 ca gca uc) cw_X12_isCell cl_RX12_301 g0 ⟨rfl, rfl⟩ rfl hl.1 rfl (Nat.zero_le _) (by decide) dX12_steal_23) hS25 (fun v27 locs27 hr27 hS27 => ?_)
    rcases hr27 with ⟨rfl, f27a0, f27a1, f27a2, f27a3, f27a4, f27a5⟩ | ⟨rfl, f27b⟩
    · refine q_if_ne hx hb (a := 1) (by decide) (tgt := 35) dX12_steal_26 rfl (fun c28 => ?_) (fun c28 => absurd c28 (by omega))
      refine lv_iload hx hb dX12_steal_35 (lv_at hl 5 rfl) ?_
      refine lv_i2l (v := p5.toInt64) hx hb dX12_steal_37 rfl (lv_topl (fun v29 ev29 => ?_))
      have ev29i : v29.toInt = a5 := l_ofi ev29.symm e5
      refine lv_lconst (v := 1) hx hb dX12_steal_38 rfl ?_
      refine lv_ldc2 (v := 40) hx hb E.2.2.2.1 (E.2.2.2.2.1 _ w_1726) dX12_steal_39 ?_
      refine q_goIp (q_runS (As := [.long v29, .long 1, .long 40]) (rest := []) E hS27 (m_X12_isIn l X Γ H23 hC23 v29 (a0 := a5) ev29i 1 (a1 := 1) (show (1 : Int64).toInt = 1 from by decide) 40 (a2 := 40) (show (40 : Int64).toInt = 40 from by decide)) cw_X12_isIn cl_RX12_104 rfl hl.1 rfl (Nat.zero_le _) (by decide) dX12_steal_42) hS27 (fun v30 locs30 hr30 hS30 => ?_)
      rcases hr30 with ⟨rfl, f30a0, f30a1⟩ | ⟨rfl, f30b⟩
      · refine q_if_ne hx hb (a := 1) (by decide) (tgt := 54) dX12_steal_45 rfl (fun c31 => ?_) (fun c31 => absurd c31 (by omega))
        refine lv_aload_n hx hb dX12_steal_54 rfl (lv_at hl 0 rfl) ?_
        refine lv_iload_n hx hb dX12_steal_55 rfl (lv_at hl 1 rfl) ?_
        refine q_goIp (q_runV (As := [.int p1]) (rest := []) E hC23 hS30 (m_X12_halfOf l X Γ H23 hC23 h0 g0 p1 (a1 := a1) e1 ca gca uc) cw_X12_halfOf cl_RX12_270 g0 ⟨rfl, rfl⟩ rfl hl.1 rfl (Nat.zero_le _) (by decide) dX12_steal_56) hS30 (fun v32 locs32 hr32 hS32 => ?_)
        obtain ⟨f32_0, f32_1⟩ := hr32
        refine lv_aload_n hx hb dX12_steal_59 rfl (lv_at hl 0 rfl) ?_
        refine lv_iload_n hx hb dX12_steal_60 rfl (lv_at hl 3 rfl) ?_
        refine q_goIp (q_runV (As := [.int p3]) (rest := [.int v32]) E hC23 hS32 (m_X12_halfOf l X Γ H23 hC23 h0 g0 p3 (a1 := a3) e3 ca gca uc) cw_X12_halfOf cl_RX12_270 g0 ⟨rfl, rfl⟩ rfl hl.1 rfl (show _ ≤ _ from by simp [Value.category]) (by decide) dX12_steal_61) hS32 (fun v33 locs33 hr33 hS33 => ?_)
        obtain ⟨f33_0, f33_1⟩ := hr33
        refine q_icmp_ne hx hb (a := v32.toInt) (b := v33.toInt) rfl rfl (tgt := 74) dX12_steal_64 rfl (fun c34 => ?_) (fun c34 => ?_)
        · refine lv_aload_n hx hb dX12_steal_74 rfl (lv_at hl 0 rfl) ?_
          refine lv_iload_n hx hb dX12_steal_75 rfl (lv_at hl 1 rfl) ?_
          refine lv_iload_n hx hb dX12_steal_76 rfl (lv_at hl 2 rfl) ?_
          refine q_goIp (q_runS (As := [.int p1, .int p2]) (rest := [.ref h0]) E hS33 (m_X12_at2 l X Γ H23 hC23 p1 (a0 := a1) e1 p2 (a1 := a2) e2 (by omega) (by omega) (by omega) (by omega)) cw_X12_at2 cl_RX12_292 rfl hl.1 rfl (show _ ≤ _ from by simp [Value.category]) (by decide) dX12_steal_77) hS33 (fun v35 locs35 hr35 hS35 => ?_)
          have f35_0 := hr35
          refine lv_iload_n hx hb dX12_steal_80 rfl (lv_at hl 3 rfl) ?_
          refine lv_iload hx hb dX12_steal_81 (lv_at hl 4 rfl) ?_
          refine q_goIp (q_runS (As := [.int p3, .int p4]) (rest := [.int v35, .ref h0]) E hS35 (m_X12_at2 l X Γ H23 hC23 p3 (a0 := a3) e3 p4 (a1 := a4) e4 (by omega) (by omega) (by omega) (by omega)) cw_X12_at2 cl_RX12_292 rfl hl.1 rfl (show _ ≤ _ from by simp [Value.category]) (by decide) dX12_steal_83) hS35 (fun v36 locs36 hr36 hS36 => ?_)
          have f36_0 := hr36
          refine lv_iload hx hb dX12_steal_86 (lv_at hl 5 rfl) ?_
          refine q_goI (q_runV (As := [.int v35, .int v36, .int p5]) (rest := []) E hC23 hS36 (m_X12_steals l X Γ H23 hC23 h0 g0 v35 (a1 := v35.toInt) rfl v36 (a2 := v36.toInt) rfl p5 (a3 := a5) e5 ca gca uc hU23 (by omega) (by omega) (by omega) (by omega) (by omega)) cw_X12_steals cl_RX12_345 g0 ⟨rfl, rfl⟩ rfl hl.1 rfl (Nat.zero_le _) (by decide) dX12_steal_88) hS36 (fun v37 H37 locs37 hr37 hC37 hS37 => ?_)
          obtain ⟨hp37, hr37⟩ := hr37
          obtain ⟨hp37p, hU37⟩ := hp37
          have hKp37 := hKp23.tr (hp37p.mono rfl)
          refine lv_istore hx hb dX12_steal_91 hl (by decide) rfl (fun ls hl => ?_)
          replace hl : lv_has ls 7 [(6, .int v37), (0, .ref h0), (1, .int p1), (2, .int p2), (3, .int p3), (4, .int p4), (5, .int p5)] := hl
          refine lv_iload hx hb dX12_steal_93 (lv_at hl 0 rfl) ?_
          refine q_if_ne hx hb (a := v37.toInt) rfl (tgt := 107) dX12_steal_95 rfl (fun c38 => ?_) (fun c38 => ?_)
          · refine lv_iload hx hb dX12_steal_107 (lv_at hl 0 rfl) ?_
            exact ret v37 H37 locs37 _ _ dX12_steal_109 ⟨⟨hKp37, hU37⟩, trivial⟩ hC37 hS37
          · refine lv_aload_n hx hb dX12_steal_98 rfl (lv_at hl 1 rfl) ?_
            refine lv_bipush (v := 9) hx hb dX12_steal_99 rfl ?_
            refine q_goI (q_runV (As := [.int 9]) (rest := []) E hC37 hS37 (m_X12_refuse l X Γ H37 hC37 h0 g0 9 (a1 := 9) (by decide) ca gca uc) cw_X12_refuse cl_RX12_298 g0 ⟨rfl, rfl⟩ rfl hl.1 rfl (Nat.zero_le _) (by decide) dX12_steal_101) hS37 (fun v39 H39 locs39 hr39 hC39 hS39 => ?_)
            obtain ⟨hp39, hr39⟩ := hr39
            have hU39 := UH.kp hU37 hp39 gca rfl rfl
            have hKp39 := hKp37.tr (hp39.mono rfl)
            have f39_0 := hr39
            refine lv_goto (tgt := 109) hx hb dX12_steal_104 rfl ?_
            exact ret v39 H39 locs39 _ _ dX12_steal_109 ⟨⟨hKp39, hU39⟩, trivial⟩ hC39 hS39
        · refine lv_aload_n hx hb dX12_steal_67 rfl (lv_at hl 0 rfl) ?_
          refine lv_bipush (v := 9) hx hb dX12_steal_68 rfl ?_
          refine q_goI (q_runV (As := [.int 9]) (rest := []) E hC23 hS33 (m_X12_refuse l X Γ H23 hC23 h0 g0 9 (a1 := 9) (by decide) ca gca uc) cw_X12_refuse cl_RX12_298 g0 ⟨rfl, rfl⟩ rfl hl.1 rfl (Nat.zero_le _) (by decide) dX12_steal_70) hS33 (fun v40 H40 locs40 hr40 hC40 hS40 => ?_)
          obtain ⟨hp40, hr40⟩ := hr40
          have hU40 := UH.kp hU23 hp40 gca rfl rfl
          have hKp40 := hKp23.tr (hp40.mono rfl)
          have f40_0 := hr40
          exact ret v40 H40 locs40 _ _ dX12_steal_73 ⟨⟨hKp40, hU40⟩, trivial⟩ hC40 hS40
      · refine q_if_ne hx hb (a := 0) (by decide) (tgt := 54) dX12_steal_45 rfl (fun c41 => absurd c41 (by omega)) (fun c41 => ?_)
        refine lv_aload_n hx hb dX12_steal_48 rfl (lv_at hl 0 rfl) ?_
        refine lv_iconst (v := 5) hx hb dX12_steal_49 rfl ?_
        refine q_goI (q_runV (As := [.int 5]) (rest := []) E hC23 hS30 (m_X12_refuse l X Γ H23 hC23 h0 g0 5 (a1 := 5) (by decide) ca gca uc) cw_X12_refuse cl_RX12_298 g0 ⟨rfl, rfl⟩ rfl hl.1 rfl (Nat.zero_le _) (by decide) dX12_steal_50) hS30 (fun v42 H42 locs42 hr42 hC42 hS42 => ?_)
        obtain ⟨hp42, hr42⟩ := hr42
        have hU42 := UH.kp hU23 hp42 gca rfl rfl
        have hKp42 := hKp23.tr (hp42.mono rfl)
        have f42_0 := hr42
        exact ret v42 H42 locs42 _ _ dX12_steal_53 ⟨⟨hKp42, hU42⟩, trivial⟩ hC42 hS42
    · refine q_if_ne hx hb (a := 0) (by decide) (tgt := 35) dX12_steal_26 rfl (fun c43 => absurd c43 (by omega)) (fun c43 => ?_)
      refine lv_aload_n hx hb dX12_steal_29 rfl (lv_at hl 0 rfl) ?_
      refine lv_iconst (v := 2) hx hb dX12_steal_30 rfl ?_
      refine q_goI (q_runV (As := [.int 2]) (rest := []) E hC23 hS27 (m_X12_refuse l X Γ H23 hC23 h0 g0 2 (a1 := 2) (by decide) ca gca uc) cw_X12_refuse cl_RX12_298 g0 ⟨rfl, rfl⟩ rfl hl.1 rfl (Nat.zero_le _) (by decide) dX12_steal_31) hS27 (fun v44 H44 locs44 hr44 hC44 hS44 => ?_)
      obtain ⟨hp44, hr44⟩ := hr44
      have hU44 := UH.kp hU23 hp44 gca rfl rfl
      have hKp44 := hKp23.tr (hp44.mono rfl)
      have f44_0 := hr44
      exact ret v44 H44 locs44 _ _ dX12_steal_34 ⟨⟨hKp44, hU44⟩, trivial⟩ hC44 hS44
  · refine q_if_eq hx hb (a := 0) (by decide) (tgt := 29) dX12_steal_16 rfl (fun c45 => ?_) (fun c45 => absurd c45 (by omega))
    refine lv_aload_n hx hb dX12_steal_29 rfl (lv_at hl 0 rfl) ?_
    refine lv_iconst (v := 2) hx hb dX12_steal_30 rfl ?_
    refine q_goI (q_runV (As := [.int 2]) (rest := []) E hC23 hS25 (m_X12_refuse l X Γ H23 hC23 h0 g0 2 (a1 := 2) (by decide) ca gca uc) cw_X12_refuse cl_RX12_298 g0 ⟨rfl, rfl⟩ rfl hl.1 rfl (Nat.zero_le _) (by decide) dX12_steal_31) hS25 (fun v46 H46 locs46 hr46 hC46 hS46 => ?_)
    obtain ⟨hp46, hr46⟩ := hr46
    have hU46 := UH.kp hU23 hp46 gca rfl rfl
    have hKp46 := hKp23.tr (hp46.mono rfl)
    have f46_0 := hr46
    exact ret v46 H46 locs46 _ _ dX12_steal_34 ⟨⟨hKp46, hU46⟩, trivial⟩ hC46 hS46
set_option maxRecDepth 100000 in
set_option maxHeartbeats 4000000 in
theorem m_X12_nights (l : Launch) (X : xW) (Γ : Nat → Option Nat) (H0 : Heap) (hC0 : Conf X Γ H0) (h0 : Nat) (g0 : Γ h0 = some 11) (ca : Nat) (gca : Γ ca = some 64) (uc : ∀ a, Γ a = some 64 → a = ca) (hu0 : UH H0 ca) : Ctr l X Γ yX12_nights cX12_nights 2 (some .boolean) 0 [.ref h0] H0 (QI X Γ (fun v H1 => (Kp X Γ [1, 6, 7, 8, 9, 10, 11, 12, 14, 17, 19, 22, 24, 26, 28] H0 H1 ∧ UH H1 ca) ∧ (v = 0 ∨ v = 1))) := by
  refine q_enterZ (own := "SnowFortsModel") (by decide) rfl (Nat.le_of_ble_eq_true rfl) ?_
  intro p e s m args below meth c ls Qz E hl ret hS0
  have hx := E.1; have hb := E.2.1
  have hKp0 : Kp X Γ [1, 6, 7, 8, 9, 10, 11, 12, 14, 17, 19, 22, 24, 26, 28] H0 H0 := Kp.rf
  have hl : lv_has ls 2 [(0, .ref h0)] := hl
  refine lv_aload_n hx hb dX12_nights_0 rfl (lv_at hl 0 rfl) ?_
  refine q_getC E hC0 g0 fa_RX12_35 uc dX12_nights_1 ?_
  refine lv_iconst (v := 3) hx hb dX12_nights_4 rfl ?_
  refine q_cald E hC0 (lo := -2147483648) (hi := 2147483647) gca (a := 3) (show (3 : Int32).toInt = 3 from by decide) (by omega) (by omega) (cr_c3 (by omega) (by omega)) dX12_nights_5 (fun v21 ev21 _ _ => ?_)
  refine lv_sipush (v := 999) hx hb dX12_nights_6 rfl ?_
  refine q_icmp_ne hx hb (a := v21.toInt) (b := 999) rfl (by decide) (tgt := 14) dX12_nights_9 rfl (fun c22 => ?_) (fun c22 => ?_)
  · refine lv_iconst (v := 0) hx hb dX12_nights_14 rfl ?_
    refine lv_istore_n hx hb dX12_nights_15 rfl hl (by decide) rfl (fun ls hl => ?_)
    replace hl : lv_has ls 2 [(1, .int 0), (0, .ref h0)] := hl
    have L16 : ∀ (n24 : Nat) (H24 : Heap) (locs24 : List Loc) (v23 : Int32) (z23 : Int) (ls : Array Slot), (36 - z23).toNat < n24 → v23.toInt = z23 → z23 ≤ 36 → 0 ≤ z23 → Conf X Γ H24 → va_S (AΓ Γ) H0 H24 locs24 → UH H24 ca → Kp X Γ [1, 6, 7, 8, 9, 10, 11, 12, 14, 17, 19, 22, 24, 26, 28] H0 H24 → lv_has ls 2 [(1, .int v23), (0, .ref h0)] → W p l e (rmL 0) s m args below meth c H24 locs24 0 0 Qz (F0 m 16 ls []) := by
      intro n24
      induction n24 with
      | zero => intro H24 locs24 v23 z23 ls hm24 ev23 iv24_0 iv24_1 hC24 hS24 hU24 hKp24 hl; exact absurd hm24 (Nat.not_lt_zero _)
      | succ n24 ih24 =>
        intro H24 locs24 v23 z23 ls hm24 ev23 iv24_0 iv24_1 hC24 hS24 hU24 hKp24 hl
        refine lv_iload_n hx hb dX12_nights_16 rfl (lv_at hl 0 rfl) ?_
        refine lv_bipush (v := 36) hx hb dX12_nights_17 rfl ?_
        refine q_icmp_ge hx hb (a := z23) (b := 36) ev23 (by decide) (tgt := 47) dX12_nights_19 rfl (fun c25 => ?_) (fun c25 => ?_)
        · refine lv_aload_n hx hb dX12_nights_47 rfl (lv_at hl 1 rfl) ?_
          refine q_getC E hC24 g0 fa_RX12_35 uc dX12_nights_48 ?_
          refine lv_bipush (v := 14) hx hb dX12_nights_51 rfl ?_
          refine lv_iconst (v := 0) hx hb dX12_nights_53 rfl ?_
          refine q_cast E hC24 hS24 gca (a := 14) (show (14 : Int32).toInt = 14 from by decide) (by omega) (by omega) (cs_c12 (a := 14) (b := 0) (by omega) (by omega) (show (0 : Int32).toInt = 0 from by decide) (by omega) (by omega)) dX12_nights_54 (fun H26 locs26 hC26 hS26 U26 => ?_)
          have hKp26 := Kp.upD gca rfl rfl (fun _ => ⟨fun _ => nd3 (by omega) (by omega), fun h => absurd h (by decide), fun _ => by unfold dpn; omega⟩) U26 hKp24
          have m27 := hands_nn hC24 gca (t := 0) (by omega) (by omega)
          have hU26 := UH.at hU24 (t := 0) (by omega) (by omega) (by omega) U26 (b := 0) (show (0 : Int32).toInt = 0 from by decide) (by omega)
          have e28 := up_I U26
          refine lv_aload_n hx hb dX12_nights_55 rfl (lv_at hl 1 rfl) ?_
          refine q_getC E hC26 g0 fa_RX12_35 uc dX12_nights_56 ?_
          refine lv_bipush (v := 15) hx hb dX12_nights_59 rfl ?_
          refine lv_iconst (v := 0) hx hb dX12_nights_61 rfl ?_
          refine q_cast E hC26 hS26 gca (a := 15) (show (15 : Int32).toInt = 15 from by decide) (by omega) (by omega) (cs_c12 (a := 15) (b := 0) (by omega) (by omega) (show (0 : Int32).toInt = 0 from by decide) (by omega) (by omega)) dX12_nights_62 (fun H29 locs29 hC29 hS29 U29 => ?_)
          have hKp29 := Kp.upD gca rfl rfl (fun _ => ⟨fun _ => nd3 (by omega) (by omega), fun h => absurd h (by decide), fun _ => by unfold dpn; omega⟩) U29 hKp26
          have m30 := hands_nn hC26 gca (t := 1) (by omega) (by omega)
          have hU29 := UH.at hU26 (t := 1) (by omega) (by omega) (by omega) U29 (b := 0) (show (0 : Int32).toInt = 0 from by decide) (by omega)
          have e31 := up_I U29
          refine lv_aload_n hx hb dX12_nights_63 rfl (lv_at hl 1 rfl) ?_
          refine q_getC E hC29 g0 fa_RX12_35 uc dX12_nights_64 ?_
          refine lv_iconst (v := 3) hx hb dX12_nights_67 rfl ?_
          refine lv_dup2_11 hx hb dX12_nights_68 rfl rfl ?_
          refine q_cald E hC29 (lo := -2147483648) (hi := 2147483647) gca (a := 3) (show (3 : Int32).toInt = 3 from by decide) (by omega) (by omega) (cr_c3 (by omega) (by omega)) dX12_nights_69 (fun v32 ev32 _ _ => ?_)
          refine lv_iconst (v := 1) hx hb dX12_nights_70 rfl ?_
          refine lv_iadd hx hb dX12_nights_71 (lv_topi (fun v33 ev33 => ?_))
          refine q_cast E hC29 hS29 gca (a := 3) (show (3 : Int32).toInt = 3 from by decide) (by omega) (by omega) (cs_c3 (a := 3) (by omega) (by omega)) dX12_nights_72 (fun H34 locs34 hC34 hS34 U34 => ?_)
          have hKp34 := Kp.upD gca rfl rfl (fun _ => ⟨fun _ => nd1 (by omega) (by omega), fun h => absurd h (by decide), fun _ => by unfold dpn; omega⟩) U34 hKp29
          have hU34 := UH.ne hU29 U34 (Or.inr (by omega))
          have e35 := up_I U34
          refine lv_iconst (v := 1) hx hb dX12_nights_73 rfl ?_
          exact ret 1 H34 locs34 _ _ dX12_nights_74 (Or.inr rfl) ⟨⟨hKp34, hU34⟩, Or.inr rfl⟩ hC34 hS34
        · refine lv_aload_n hx hb dX12_nights_22 rfl (lv_at hl 1 rfl) ?_
          refine q_getC E hC24 g0 fa_RX12_35 uc dX12_nights_23 ?_
          refine lv_sipush (v := 134) hx hb dX12_nights_26 rfl ?_
          refine lv_iload_n hx hb dX12_nights_29 rfl (lv_at hl 0 rfl) ?_
          refine lv_iadd hx hb dX12_nights_30 (lv_topi (fun v36 ev36 => ?_))
          have ev36i : v36.toInt = (134 + z23) := i_add ev36 (by decide) ev23 (by omega) (by omega)
          refine lv_aload_n hx hb dX12_nights_31 rfl (lv_at hl 1 rfl) ?_
          refine q_getC E hC24 g0 fa_RX12_35 uc dX12_nights_32 ?_
          refine lv_bipush (v := 62) hx hb dX12_nights_35 rfl ?_
          refine lv_iload_n hx hb dX12_nights_37 rfl (lv_at hl 0 rfl) ?_
          refine lv_iadd hx hb dX12_nights_38 (lv_topi (fun v37 ev37 => ?_))
          have ev37i : v37.toInt = (62 + z23) := i_add ev37 (by decide) ev23 (by omega) (by omega)
          refine q_cald E hC24 (lo := 0) (hi := 99) gca (a := (62 + z23)) ev37i (by omega) (by omega) (cr_c26 (by omega) (by omega)) dX12_nights_39 (fun v38 ev38 lv38 uv38 => ?_)
          refine q_cast E hC24 hS24 gca (a := (134 + z23)) ev36i (by omega) (by omega) (cs_c134 (a := (134 + z23)) (by omega) (by omega)) dX12_nights_40 (fun H39 locs39 hC39 hS39 U39 => ?_)
          have hKp39 := Kp.upD gca rfl rfl (fun _ => ⟨fun _ => nd2 (by omega) (by omega), fun h => absurd h (by decide), fun _ => by unfold dpn; omega⟩) U39 hKp24
          have hU39 := UH.ne hU24 U39 (Or.inr (by omega))
          have e40 := up_I U39
          obtain ⟨v41, ev41⟩ : ∃ z, z = v23 + Int32.ofInt 1 := ⟨_, rfl⟩
          have ev41i : v41.toInt = (z23 + 1) := i_add ev41 ev23 (by decide) (by omega) (by omega)
          refine lv_iinc hx hb dX12_nights_41 hl (k := 0) rfl ev41.symm (by decide) rfl (fun ls hl => ?_)
          replace hl : lv_has ls 2 [(1, .int v41), (0, .ref h0)] := hl
          refine lv_goto (tgt := 16) hx hb dX12_nights_44 rfl ?_
          exact ih24 H39 locs39 v41 ((z23 + 1)) ls (by omega) ev41i (by omega) (by omega) hC39 hS39 hU39 hKp39 hl
    exact L16 _ H0 [] 0 0 ls (Nat.lt_succ_self _) (by decide) (by omega) (by omega) hC0 hS0 hu0 hKp0 hl
  · refine lv_iconst (v := 0) hx hb dX12_nights_12 rfl ?_
    exact ret 0 H0 [] _ _ dX12_nights_13 (Or.inl rfl) ⟨⟨hKp0, hu0⟩, Or.inl rfl⟩ hC0 hS0
set_option maxRecDepth 100000 in
set_option maxHeartbeats 4000000 in
theorem m_X12_night (l : Launch) (X : xW) (Γ : Nat → Option Nat) (H0 : Heap) (hC0 : Conf X Γ H0) (h0 : Nat) (g0 : Γ h0 = some 11) (ca : Nat) (gca : Γ ca = some 64) (uc : ∀ a, Γ a = some 64 → a = ca) (hu0 : UH H0 ca) : Ctr l X Γ yX12_night cX12_night 1 (some .int) 1 [.ref h0] H0 (QI X Γ (fun v H1 => (Kp X Γ [1, 6, 7, 8, 9, 10, 11, 12, 14, 17, 19, 22, 24, 26, 28] H0 H1 ∧ UH H1 ca) ∧ (True))) := by
  refine q_enterI (own := "SnowFortsModel") (by decide) rfl (Nat.le_of_ble_eq_true rfl) ?_
  intro p e s m args below meth c ls Qz E hl ret hS0
  have hx := E.1; have hb := E.2.1
  have hKp0 : Kp X Γ [1, 6, 7, 8, 9, 10, 11, 12, 14, 17, 19, 22, 24, 26, 28] H0 H0 := Kp.rf
  have hl : lv_has ls 1 [(0, .ref h0)] := hl
  refine lv_aload_n hx hb dX12_night_0 rfl (lv_at hl 0 rfl) ?_
  refine lv_iconst (v := 0) hx hb dX12_night_1 rfl ?_
  refine q_put E hC0 hS0 g0 fp_RX12_69 tv_F rfl rfl dX12_night_2 (fun H21 locs21 hC21 hS21 U21 => ?_)
  have hKp21 := Kp.upO E g0 fp_RX12_69 rfl U21 hKp0
  have e22 := up_I U21
  have hU21 := UH.ne hu0 U21 (Or.inl (nek g0 gca (by decide)))
  refine lv_aload_n hx hb dX12_night_5 rfl (lv_at hl 0 rfl) ?_
  refine lv_iconst (v := 0) hx hb dX12_night_6 rfl ?_
  refine q_put E hC21 hS21 g0 fp_RX12_72 tv_F rfl rfl dX12_night_7 (fun H23 locs23 hC23 hS23 U23 => ?_)
  have hKp23 := Kp.upO E g0 fp_RX12_72 rfl U23 hKp21
  have e24 := up_I U23
  have hU23 := UH.ne hU21 U23 (Or.inl (nek g0 gca (by decide)))
  refine lv_aload_n hx hb dX12_night_10 rfl (lv_at hl 0 rfl) ?_
  refine q_goI (q_runV (As := []) (rest := []) E hC23 hS23 (m_X12_nights l X Γ H23 hC23 h0 g0 ca gca uc hU23) cw_X12_nights cl_RX12_349 g0 ⟨rfl, rfl⟩ rfl hl.1 rfl (Nat.zero_le _) (by decide) dX12_night_11) hS23 (fun v25 H25 locs25 hr25 hC25 hS25 => ?_)
  obtain ⟨hp25, hr25⟩ := hr25
  obtain ⟨hp25p, hU25⟩ := hp25
  have hKp25 := hKp23.tr (hp25p.mono rfl)
  rcases hr25 with rfl | rfl
  · refine q_if_eq hx hb (a := 0) (by decide) (tgt := 26) dX12_night_14 rfl (fun c26 => ?_) (fun c26 => absurd c26 (by omega))
    refine lv_aload_n hx hb dX12_night_26 rfl (lv_at hl 0 rfl) ?_
    refine lv_bipush (v := 7) hx hb dX12_night_27 rfl ?_
    refine q_goI (q_runV (As := [.int 7]) (rest := []) E hC25 hS25 (m_X12_refuse l X Γ H25 hC25 h0 g0 7 (a1 := 7) (by decide) ca gca uc) cw_X12_refuse cl_RX12_298 g0 ⟨rfl, rfl⟩ rfl hl.1 rfl (Nat.zero_le _) (by decide) dX12_night_29) hS25 (fun v27 H27 locs27 hr27 hC27 hS27 => ?_)
    obtain ⟨hp27, hr27⟩ := hr27
    have hU27 := UH.kp hU25 hp27 gca rfl rfl
    have hKp27 := hKp25.tr (hp27.mono rfl)
    have f27_0 := hr27
    exact ret v27 H27 locs27 _ _ dX12_night_32 ⟨⟨hKp27, hU27⟩, trivial⟩ hC27 hS27
  · refine q_if_eq hx hb (a := 1) (by decide) (tgt := 26) dX12_night_14 rfl (fun c28 => absurd c28 (by omega)) (fun c28 => ?_)
    refine lv_aload_n hx hb dX12_night_17 rfl (lv_at hl 0 rfl) ?_
    refine q_getC E hC25 g0 fa_RX12_35 uc dX12_night_18 ?_
    refine lv_iconst (v := 3) hx hb dX12_night_21 rfl ?_
    refine q_cald E hC25 (lo := -2147483648) (hi := 2147483647) gca (a := 3) (show (3 : Int32).toInt = 3 from by decide) (by omega) (by omega) (cr_c3 (by omega) (by omega)) dX12_night_22 (fun v29 ev29 _ _ => ?_)
    refine lv_goto (tgt := 32) hx hb dX12_night_23 rfl ?_
    exact ret v29 H25 locs25 _ _ dX12_night_32 ⟨⟨hKp25, hU25⟩, trivial⟩ hC25 hS25
set_option maxRecDepth 100000 in
set_option maxHeartbeats 4000000 in
theorem m_X12_freeOf (l : Launch) (X : xW) (Γ : Nat → Option Nat) (H0 : Heap) (hC0 : Conf X Γ H0) (h0 : Nat) (g0 : Γ h0 = some 11) (p1 : Int32) {a1 : Int} (e1 : p1.toInt = a1) (ca : Nat) (gca : Γ ca = some 64) (uc : ∀ a, Γ a = some 64 → a = ca) (r0 : 0 ≤ a1) (r1 : a1 ≤ 35) : Ctr l X Γ yX12_freeOf cX12_freeOf 3 (some .int) 1 [.ref h0, .int p1] H0 (QI X Γ (fun v H1 => H1 = H0 ∧ (True))) := by
  refine q_enterI (own := "SnowFortsModel") (by decide) rfl (Nat.le_of_ble_eq_true rfl) ?_
  intro p e s m args below meth c ls Qz E hl ret hS0
  have hx := E.1; have hb := E.2.1
  have hl : lv_has ls 3 [(0, .ref h0), (1, .int p1)] := hl
  refine lv_aload_n hx hb dX12_freeOf_0 rfl (lv_at hl 0 rfl) ?_
  refine q_getC E hC0 g0 fa_RX12_35 uc dX12_freeOf_1 ?_
  refine lv_bipush (v := 26) hx hb dX12_freeOf_4 rfl ?_
  refine lv_iload_n hx hb dX12_freeOf_6 rfl (lv_at hl 1 rfl) ?_
  refine lv_iadd hx hb dX12_freeOf_7 (lv_topi (fun v21 ev21 => ?_))
  have ev21i : v21.toInt = (26 + a1) := i_add ev21 (by decide) e1 (by omega) (by omega)
  refine q_cald E hC0 (lo := 0) (hi := 99) gca (a := (26 + a1)) ev21i (by omega) (by omega) (cr_c26 (by omega) (by omega)) dX12_freeOf_8 (fun v22 ev22 lv22 uv22 => ?_)
  refine lv_bipush (v := 99) hx hb dX12_freeOf_9 rfl ?_
  refine lv_aload_n hx hb dX12_freeOf_11 rfl (lv_at hl 0 rfl) ?_
  refine q_getC E hC0 g0 fa_RX12_35 uc dX12_freeOf_12 ?_
  refine lv_bipush (v := 62) hx hb dX12_freeOf_15 rfl ?_
  refine lv_iload_n hx hb dX12_freeOf_17 rfl (lv_at hl 1 rfl) ?_
  refine lv_iadd hx hb dX12_freeOf_18 (lv_topi (fun v23 ev23 => ?_))
  have ev23i : v23.toInt = (62 + a1) := i_add ev23 (by decide) e1 (by omega) (by omega)
  refine q_cald E hC0 (lo := 0) (hi := 99) gca (a := (62 + a1)) ev23i (by omega) (by omega) (cr_c26 (by omega) (by omega)) dX12_freeOf_19 (fun v24 ev24 lv24 uv24 => ?_)
  refine lv_isub hx hb dX12_freeOf_20 (lv_topi (fun v25 ev25 => ?_))
  have ev25i : v25.toInt = (99 - v24.toInt) := i_sub ev25 (by decide) rfl (by omega) (by omega)
  refine q_mmin E hl.1 w_1740 mathw_min (a := v22.toInt) (b := (99 - v24.toInt)) rfl ev25i (by decide) (Nat.zero_le _) dX12_freeOf_21 (fun v26 mv26a mv26b mv26c => ?_)
  refine lv_istore_n hx hb dX12_freeOf_24 rfl hl (by decide) rfl (fun ls hl => ?_)
  replace hl : lv_has ls 3 [(2, .int v26), (0, .ref h0), (1, .int p1)] := hl
  refine lv_aload_n hx hb dX12_freeOf_25 rfl (lv_at hl 1 rfl) ?_
  refine q_getC E hC0 g0 fa_RX12_35 uc dX12_freeOf_26 ?_
  refine lv_bipush (v := 18) hx hb dX12_freeOf_29 rfl ?_
  refine q_cald E hC0 (lo := -2147483648) (hi := 2147483647) gca (a := 18) (show (18 : Int32).toInt = 18 from by decide) (by omega) (by omega) (cr_c16 (by omega) (by omega)) dX12_freeOf_31 (fun v27 ev27 _ _ => ?_)
  refine q_if_ne hx hb (a := v27.toInt) rfl (tgt := 39) dX12_freeOf_32 rfl (fun c28 => ?_) (fun c28 => ?_)
  · refine lv_iconst (v := 0) hx hb dX12_freeOf_39 rfl ?_
    refine lv_iload_n hx hb dX12_freeOf_40 rfl (lv_at hl 0 rfl) ?_
    refine lv_aload_n hx hb dX12_freeOf_41 rfl (lv_at hl 1 rfl) ?_
    refine q_getC E hC0 g0 fa_RX12_35 uc dX12_freeOf_42 ?_
    refine lv_sipush (v := 134) hx hb dX12_freeOf_45 rfl ?_
    refine lv_aload_n hx hb dX12_freeOf_48 rfl (lv_at hl 1 rfl) ?_
    refine lv_iload_n hx hb dX12_freeOf_49 rfl (lv_at hl 2 rfl) ?_
    refine q_goIp (q_runV (As := [.int p1]) (rest := [.int 134, .ref ca, .int v26, .int 0]) E hC0 hS0 (m_X12_acrossOf l X Γ H0 hC0 h0 g0 p1 (a1 := a1) e1 ca gca uc (by omega) (by omega)) cw_X12_acrossOf cl_RX12_329 g0 ⟨rfl, rfl⟩ rfl hl.1 rfl (show _ ≤ _ from by simp [Value.category]) (by decide) dX12_freeOf_50) hS0 (fun v29 locs29 hr29 hS29 => ?_)
    obtain ⟨f29_0, f29_1, f29_2⟩ := hr29
    refine lv_iadd hx hb dX12_freeOf_53 (lv_topi (fun v30 ev30 => ?_))
    have ev30i : v30.toInt = (134 + v29.toInt) := i_add ev30 (by decide) rfl (by omega) (by omega)
    refine q_cald E hC0 (lo := -2147483648) (hi := 2147483647) gca (a := (134 + v29.toInt)) ev30i (by omega) (by omega) (fun _ h => cT_any h) dX12_freeOf_54 (fun v31 ev31 _ _ => ?_)
    refine lv_aload_n hx hb dX12_freeOf_55 rfl (lv_at hl 1 rfl) ?_
    refine q_getC E hC0 g0 fa_RX12_35 uc dX12_freeOf_56 ?_
    refine lv_bipush (v := 22) hx hb dX12_freeOf_59 rfl ?_
    refine q_cald E hC0 (lo := -2147483648) (hi := 2147483647) gca (a := 22) (show (22 : Int32).toInt = 22 from by decide) (by omega) (by omega) (cr_c16 (by omega) (by omega)) dX12_freeOf_61 (fun v32 ev32 _ _ => ?_)
    refine lv_iadd hx hb dX12_freeOf_62 (lv_topi (fun v33 ev33 => ?_))
    refine lv_aload_n hx hb dX12_freeOf_63 rfl (lv_at hl 1 rfl) ?_
    refine q_getC E hC0 g0 fa_RX12_35 uc dX12_freeOf_64 ?_
    refine lv_bipush (v := 62) hx hb dX12_freeOf_67 rfl ?_
    refine lv_iload_n hx hb dX12_freeOf_69 rfl (lv_at hl 2 rfl) ?_
    refine lv_iadd hx hb dX12_freeOf_70 (lv_topi (fun v34 ev34 => ?_))
    have ev34i : v34.toInt = (62 + a1) := i_add ev34 (by decide) e1 (by omega) (by omega)
    refine q_cald E hC0 (lo := 0) (hi := 99) gca (a := (62 + a1)) ev34i (by omega) (by omega) (cr_c26 (by omega) (by omega)) dX12_freeOf_71 (fun v35 ev35 lv35 uv35 => ?_)
    have qv35 := ev24.symm.trans ev35; subst qv35
    refine lv_isub hx hb dX12_freeOf_72 (lv_topi (fun v36 ev36 => ?_))
    refine q_mmin E hl.1 w_1740 mathw_min (a := v26.toInt) (b := v36.toInt) rfl rfl (by decide) (show _ ≤ _ from by simp [Value.category]) dX12_freeOf_73 (fun v37 mv37a mv37b mv37c => ?_)
    refine q_mmax E hl.1 w_1731 mathw_max (a := 0) (b := v37.toInt) (show (0 : Int32).toInt = 0 from by decide) rfl (by decide) (Nat.zero_le _) dX12_freeOf_76 (fun v38 mv38a mv38b mv38c => ?_)
    exact ret v38 H0 locs29 _ _ dX12_freeOf_79 ⟨rfl, trivial⟩ hC0 hS29
  · refine lv_iload_n hx hb dX12_freeOf_35 rfl (lv_at hl 0 rfl) ?_
    refine lv_goto (tgt := 79) hx hb dX12_freeOf_36 rfl ?_
    exact ret v26 H0 [] _ _ dX12_freeOf_79 ⟨rfl, trivial⟩ hC0 hS0
set_option maxRecDepth 100000 in
set_option maxHeartbeats 4000000 in
theorem m_X12_lateRest (l : Launch) (X : xW) (Γ : Nat → Option Nat) (H0 : Heap) (hC0 : Conf X Γ H0) (h0 : Nat) (g0 : Γ h0 = some 11) (p1 : Int32) {a1 : Int} (e1 : p1.toInt = a1) (ca : Nat) (gca : Γ ca = some 64) (uc : ∀ a, Γ a = some 64 → a = ca) (r0 : 0 ≤ a1) (r1 : a1 ≤ 1) : Ctr l X Γ yX12_lateRest cX12_lateRest 2 (some .int) 1 [.ref h0, .int p1] H0 (QI X Γ (fun v H1 => H1 = H0 ∧ (True))) := by
  refine q_enterI (own := "SnowFortsModel") (by decide) rfl (Nat.le_of_ble_eq_true rfl) ?_
  intro p e s m args below meth c ls Qz E hl ret hS0
  have hx := E.1; have hb := E.2.1
  have hl : lv_has ls 2 [(0, .ref h0), (1, .int p1)] := hl
  refine lv_aload_n hx hb dX12_lateRest_0 rfl (lv_at hl 0 rfl) ?_
  refine q_getC E hC0 g0 fa_RX12_35 uc dX12_lateRest_1 ?_
  refine lv_bipush (v := 19) hx hb dX12_lateRest_4 rfl ?_
  refine q_cald E hC0 (lo := -2147483648) (hi := 2147483647) gca (a := 19) (show (19 : Int32).toInt = 19 from by decide) (by omega) (by omega) (cr_c16 (by omega) (by omega)) dX12_lateRest_6 (fun v21 ev21 _ _ => ?_)
  refine q_if_ne hx hb (a := v21.toInt) rfl (tgt := 16) dX12_lateRest_7 rfl (fun c22 => ?_) (fun c22 => ?_)
  · refine lv_iconst (v := 0) hx hb dX12_lateRest_16 rfl ?_
    refine lv_aload_n hx hb dX12_lateRest_17 rfl (lv_at hl 0 rfl) ?_
    refine q_getC E hC0 g0 fa_RX12_35 uc dX12_lateRest_18 ?_
    refine lv_bipush (v := 23) hx hb dX12_lateRest_21 rfl ?_
    refine q_cald E hC0 (lo := -2147483648) (hi := 2147483647) gca (a := 23) (show (23 : Int32).toInt = 23 from by decide) (by omega) (by omega) (cr_c16 (by omega) (by omega)) dX12_lateRest_23 (fun v23 ev23 _ _ => ?_)
    refine lv_aload_n hx hb dX12_lateRest_24 rfl (lv_at hl 0 rfl) ?_
    refine q_getC E hC0 g0 fa_RX12_35 uc dX12_lateRest_25 ?_
    refine lv_bipush (v := 14) hx hb dX12_lateRest_28 rfl ?_
    refine lv_iload_n hx hb dX12_lateRest_30 rfl (lv_at hl 1 rfl) ?_
    refine lv_iadd hx hb dX12_lateRest_31 (lv_topi (fun v24 ev24 => ?_))
    have ev24i : v24.toInt = (14 + a1) := i_add ev24 (by decide) e1 (by omega) (by omega)
    refine q_cald E hC0 (lo := 0) (hi := 40) gca (a := (14 + a1)) ev24i (by omega) (by omega) (cr_c12 (by omega) (by omega)) dX12_lateRest_32 (fun v25 ev25 lv25 uv25 => ?_)
    refine lv_isub hx hb dX12_lateRest_33 (lv_topi (fun v26 ev26 => ?_))
    refine q_mmax E hl.1 w_1731 mathw_max (a := 0) (b := v26.toInt) (show (0 : Int32).toInt = 0 from by decide) rfl (by decide) (Nat.zero_le _) dX12_lateRest_34 (fun v27 mv27a mv27b mv27c => ?_)
    exact ret v27 H0 [] _ _ dX12_lateRest_37 ⟨rfl, trivial⟩ hC0 hS0
  · refine lv_ldcw (v := 1000000) hx hb E.2.2.2.1 (E.2.2.2.2.1 _ w_1801) dX12_lateRest_10 ?_
    refine lv_goto (tgt := 37) hx hb dX12_lateRest_13 rfl ?_
    exact ret 1000000 H0 [] _ _ dX12_lateRest_37 ⟨rfl, trivial⟩ hC0 hS0
set_option maxRecDepth 100000 in
set_option maxHeartbeats 4000000 in
theorem m_X12_room (l : Launch) (X : xW) (Γ : Nat → Option Nat) (H0 : Heap) (hC0 : Conf X Γ H0) (h0 : Nat) (g0 : Γ h0 = some 11) (p1 : Int32) {a1 : Int} (e1 : p1.toInt = a1) (p2 : Int32) {a2 : Int} (e2 : p2.toInt = a2) (ca : Nat) (gca : Γ ca = some 64) (uc : ∀ a, Γ a = some 64 → a = ca) : Ctr l X Γ yX12_room cX12_room 3 (some .int) 3 [.ref h0, .int p1, .int p2] H0 (QI X Γ (fun v H1 => Kp X Γ [1, 6, 7, 8, 9, 10, 11, 12, 14, 15, 16, 17, 19, 22, 24, 26, 28] H0 H1 ∧ (True))) := by
  refine q_enterI (own := "SnowFortsModel") (by decide) rfl (Nat.le_of_ble_eq_true rfl) ?_
  intro p e s m args below meth c ls Qz E hl ret hS0
  have hx := E.1; have hb := E.2.1
  have hKp0 : Kp X Γ [1, 6, 7, 8, 9, 10, 11, 12, 14, 15, 16, 17, 19, 22, 24, 26, 28] H0 H0 := Kp.rf
  have hl : lv_has ls 3 [(0, .ref h0), (1, .int p1), (2, .int p2)] := hl
  refine lv_aload_n hx hb dX12_room_0 rfl (lv_at hl 0 rfl) ?_
  refine lv_iconst (v := 0) hx hb dX12_room_1 rfl ?_
  refine q_put E hC0 hS0 g0 fp_RX12_69 tv_F rfl rfl dX12_room_2 (fun H21 locs21 hC21 hS21 U21 => ?_)
  have hKp21 := Kp.upO E g0 fp_RX12_69 rfl U21 hKp0
  have e22 := up_I U21
  refine lv_aload_n hx hb dX12_room_5 rfl (lv_at hl 0 rfl) ?_
  refine lv_iconst (v := 0) hx hb dX12_room_6 rfl ?_
  refine q_put E hC21 hS21 g0 fp_RX12_72 tv_F rfl rfl dX12_room_7 (fun H23 locs23 hC23 hS23 U23 => ?_)
  have hKp23 := Kp.upO E g0 fp_RX12_72 rfl U23 hKp21
  have e24 := up_I U23
  refine lv_aload_n hx hb dX12_room_10 rfl (lv_at hl 0 rfl) ?_
  refine lv_iload_n hx hb dX12_room_11 rfl (lv_at hl 1 rfl) ?_
  refine lv_iload_n hx hb dX12_room_12 rfl (lv_at hl 2 rfl) ?_
  refine q_goIp (q_runV (As := [.int p1, .int p2]) (rest := []) E hC23 hS23 (m_X12_isOwned l X Γ H23 hC23 h0 g0 p1 (a1 := a1) e1 p2 (a2 := a2) e2 ca gca uc) cw_X12_isOwned cl_RX12_336 g0 ⟨rfl, rfl⟩ rfl hl.1 rfl (Nat.zero_le _) (by decide) dX12_room_13) hS23 (fun v25 locs25 hr25 hS25 => ?_)
  rcases hr25 with ⟨rfl, f25a0, f25a1, f25a2, f25a3⟩ | ⟨rfl, -⟩
  · refine q_if_eq hx hb (a := 1) (by decide) (tgt := 43) dX12_room_16 rfl (fun c26 => absurd c26 (by omega)) (fun c26 => ?_)
    refine lv_aload_n hx hb dX12_room_19 rfl (lv_at hl 0 rfl) ?_
    refine lv_iload_n hx hb dX12_room_20 rfl (lv_at hl 1 rfl) ?_
    refine lv_iload_n hx hb dX12_room_21 rfl (lv_at hl 2 rfl) ?_
    refine q_goIp (q_runS (As := [.int p1, .int p2]) (rest := [.ref h0]) E hS25 (m_X12_at2 l X Γ H23 hC23 p1 (a0 := a1) e1 p2 (a1 := a2) e2 (by omega) (by omega) (by omega) (by omega)) cw_X12_at2 cl_RX12_292 rfl hl.1 rfl (show _ ≤ _ from by simp [Value.category]) (by decide) dX12_room_22) hS25 (fun v27 locs27 hr27 hS27 => ?_)
    have f27_0 := hr27
    refine q_goIp (q_runV (As := [.int v27]) (rest := []) E hC23 hS27 (m_X12_freeOf l X Γ H23 hC23 h0 g0 v27 (a1 := v27.toInt) rfl ca gca uc (by omega) (by omega)) cw_X12_freeOf cl_RX12_353 g0 ⟨rfl, rfl⟩ rfl hl.1 rfl (Nat.zero_le _) (by decide) dX12_room_25) hS27 (fun v28 locs28 hr28 hS28 => ?_)
    refine lv_aload_n hx hb dX12_room_28 rfl (lv_at hl 0 rfl) ?_
    refine lv_aload_n hx hb dX12_room_29 rfl (lv_at hl 0 rfl) ?_
    refine lv_iload_n hx hb dX12_room_30 rfl (lv_at hl 1 rfl) ?_
    refine q_goIp (q_runV (As := [.int p1]) (rest := [.ref h0, .int v28]) E hC23 hS28 (m_X12_halfOf l X Γ H23 hC23 h0 g0 p1 (a1 := a1) e1 ca gca uc) cw_X12_halfOf cl_RX12_270 g0 ⟨rfl, rfl⟩ rfl hl.1 rfl (show _ ≤ _ from by simp [Value.category]) (by decide) dX12_room_31) hS28 (fun v29 locs29 hr29 hS29 => ?_)
    obtain ⟨f29_0, f29_1⟩ := hr29
    refine q_goIp (q_runV (As := [.int v29]) (rest := [.int v28]) E hC23 hS29 (m_X12_lateRest l X Γ H23 hC23 h0 g0 v29 (a1 := v29.toInt) rfl ca gca uc (by omega) (by omega)) cw_X12_lateRest cl_RX12_356 g0 ⟨rfl, rfl⟩ rfl hl.1 rfl (show _ ≤ _ from by simp [Value.category]) (by decide) dX12_room_34) hS29 (fun v30 locs30 hr30 hS30 => ?_)
    refine q_mmin E hl.1 w_1740 mathw_min (a := v28.toInt) (b := v30.toInt) rfl rfl (by decide) (Nat.zero_le _) dX12_room_37 (fun v31 mv31a mv31b mv31c => ?_)
    refine lv_goto (tgt := 48) hx hb dX12_room_40 rfl ?_
    exact ret v31 H23 locs30 _ _ dX12_room_48 ⟨hKp23, trivial⟩ hC23 hS30
  · refine q_if_eq hx hb (a := 0) (by decide) (tgt := 43) dX12_room_16 rfl (fun c32 => ?_) (fun c32 => absurd c32 (by omega))
    refine lv_aload_n hx hb dX12_room_43 rfl (lv_at hl 0 rfl) ?_
    refine lv_iconst (v := 2) hx hb dX12_room_44 rfl ?_
    refine q_goI (q_runV (As := [.int 2]) (rest := []) E hC23 hS25 (m_X12_refuse l X Γ H23 hC23 h0 g0 2 (a1 := 2) (by decide) ca gca uc) cw_X12_refuse cl_RX12_298 g0 ⟨rfl, rfl⟩ rfl hl.1 rfl (Nat.zero_le _) (by decide) dX12_room_45) hS25 (fun v33 H33 locs33 hr33 hC33 hS33 => ?_)
    obtain ⟨hp33, hr33⟩ := hr33
    have hKp33 := hKp23.tr (hp33.mono rfl)
    have f33_0 := hr33
    exact ret v33 H33 locs33 _ _ dX12_room_48 ⟨hKp33, trivial⟩ hC33 hS33
set_option maxRecDepth 100000 in
set_option maxHeartbeats 4000000 in
theorem m_X12_most (l : Launch) (X : xW) (Γ : Nat → Option Nat) (H0 : Heap) (hC0 : Conf X Γ H0) (h0 : Nat) (g0 : Γ h0 = some 11) (p1 : Int32) {a1 : Int} (e1 : p1.toInt = a1) (ca : Nat) (gca : Γ ca = some 64) (uc : ∀ a, Γ a = some 64 → a = ca) : Ctr l X Γ yX12_most cX12_most 5 (some .int) 2 [.ref h0, .int p1] H0 (QI X Γ (fun v H1 => Kp X Γ [1, 6, 7, 8, 9, 10, 11, 12, 14, 15, 16, 17, 19, 22, 24, 26, 28] H0 H1 ∧ (True))) := by
  refine q_enterI (own := "SnowFortsModel") (by decide) rfl (Nat.le_of_ble_eq_true rfl) ?_
  intro p e s m args below meth c ls Qz E hl ret hS0
  have hx := E.1; have hb := E.2.1
  have hKp0 : Kp X Γ [1, 6, 7, 8, 9, 10, 11, 12, 14, 15, 16, 17, 19, 22, 24, 26, 28] H0 H0 := Kp.rf
  have hl : lv_has ls 5 [(0, .ref h0), (1, .int p1)] := hl
  refine lv_aload_n hx hb dX12_most_0 rfl (lv_at hl 0 rfl) ?_
  refine lv_iconst (v := 0) hx hb dX12_most_1 rfl ?_
  refine q_put E hC0 hS0 g0 fp_RX12_69 tv_F rfl rfl dX12_most_2 (fun H21 locs21 hC21 hS21 U21 => ?_)
  have hKp21 := Kp.upO E g0 fp_RX12_69 rfl U21 hKp0
  have e22 := up_I U21
  refine lv_aload_n hx hb dX12_most_5 rfl (lv_at hl 0 rfl) ?_
  refine lv_iconst (v := 0) hx hb dX12_most_6 rfl ?_
  refine q_put E hC21 hS21 g0 fp_RX12_72 tv_F rfl rfl dX12_most_7 (fun H23 locs23 hC23 hS23 U23 => ?_)
  have hKp23 := Kp.upO E g0 fp_RX12_72 rfl U23 hKp21
  have e24 := up_I U23
  refine lv_aload_n hx hb dX12_most_10 rfl (lv_at hl 0 rfl) ?_
  refine lv_iload_n hx hb dX12_most_11 rfl (lv_at hl 1 rfl) ?_
  refine q_goIp (q_runV (As := [.int p1]) (rest := []) E hC23 hS23 (m_X12_isSchoolAt l X Γ H23 hC23 h0 g0 p1 (a1 := a1) e1 ca gca uc) cw_X12_isSchoolAt cl_RX12_304 g0 ⟨rfl, rfl⟩ rfl hl.1 rfl (Nat.zero_le _) (by decide) dX12_most_12) hS23 (fun v25 locs25 hr25 hS25 => ?_)
  rcases hr25 with ⟨rfl, f25a0, f25a1⟩ | ⟨rfl, -⟩
  · refine q_if_ne hx hb (a := 1) (by decide) (tgt := 24) dX12_most_15 rfl (fun c26 => ?_) (fun c26 => absurd c26 (by omega))
    refine lv_iconst (v := 0) hx hb dX12_most_24 rfl ?_
    refine lv_istore_n hx hb dX12_most_25 rfl hl (by decide) rfl (fun ls hl => ?_)
    replace hl : lv_has ls 5 [(2, .int 0), (0, .ref h0), (1, .int p1)] := hl
    refine lv_iconst (v := 0) hx hb dX12_most_26 rfl ?_
    refine lv_istore_n hx hb dX12_most_27 rfl hl (by decide) rfl (fun ls hl => ?_)
    replace hl : lv_has ls 5 [(3, .int 0), (2, .int 0), (0, .ref h0), (1, .int p1)] := hl
    have L28 : ∀ (n29 : Nat) (locs29 : List Loc) (v27 : Int32) (z27 : Int) (v28 : Int32) (z28 : Int) (ls : Array Slot), (6 - z27).toNat < n29 → v27.toInt = z27 → v28.toInt = z28 → z27 ≤ 6 → 0 ≤ z27 → va_S (AΓ Γ) H0 H23 locs29 → lv_has ls 5 [(3, .int v27), (2, .int v28), (0, .ref h0), (1, .int p1)] → W p l e (rmL 2) s m args below meth c H23 locs29 0 0 Qz (F0 m 28 ls []) := by
      intro n29
      induction n29 with
      | zero => intro locs29 v27 z27 v28 z28 ls hm29 ev27 ev28 iv29_0 iv29_1 hS29 hl; exact absurd hm29 (Nat.not_lt_zero _)
      | succ n29 ih29 =>
        intro locs29 v27 z27 v28 z28 ls hm29 ev27 ev28 iv29_0 iv29_1 hS29 hl
        refine lv_iload_n hx hb dX12_most_28 rfl (lv_at hl 0 rfl) ?_
        refine lv_aload_n hx hb dX12_most_29 rfl (lv_at hl 2 rfl) ?_
        refine q_getC E hC23 g0 fa_RX12_35 uc dX12_most_30 ?_
        refine lv_iconst (v := 1) hx hb dX12_most_33 rfl ?_
        refine q_cald E hC23 (lo := 0) (hi := 6) gca (a := 1) (show (1 : Int32).toInt = 1 from by decide) (by omega) (by omega) (cr_c0 (by omega) (by omega)) dX12_most_34 (fun v30 ev30 lv30 uv30 => ?_)
        refine q_icmp_ge hx hb (a := z27) (b := v30.toInt) ev27 rfl (tgt := 91) dX12_most_35 rfl (fun c31 => ?_) (fun c31 => ?_)
        · refine lv_iload_n hx hb dX12_most_91 rfl (lv_at hl 1 rfl) ?_
          refine lv_aload_n hx hb dX12_most_92 rfl (lv_at hl 2 rfl) ?_
          refine lv_iload_n hx hb dX12_most_93 rfl (lv_at hl 3 rfl) ?_
          refine q_goIp (q_runV (As := [.int p1]) (rest := [.int v28]) E hC23 hS29 (m_X12_lateRest l X Γ H23 hC23 h0 g0 p1 (a1 := a1) e1 ca gca uc (by omega) (by omega)) cw_X12_lateRest cl_RX12_356 g0 ⟨rfl, rfl⟩ rfl hl.1 rfl (show _ ≤ _ from by simp [Value.category]) (by decide) dX12_most_94) hS29 (fun v32 locs32 hr32 hS32 => ?_)
          refine lv_aload_n hx hb dX12_most_97 rfl (lv_at hl 2 rfl) ?_
          refine q_getC E hC23 g0 fa_RX12_35 uc dX12_most_98 ?_
          refine lv_bipush (v := 12) hx hb dX12_most_101 rfl ?_
          refine lv_iload_n hx hb dX12_most_103 rfl (lv_at hl 3 rfl) ?_
          refine lv_iadd hx hb dX12_most_104 (lv_topi (fun v33 ev33 => ?_))
          have ev33i : v33.toInt = (12 + a1) := i_add ev33 (by decide) e1 (by omega) (by omega)
          refine q_cald E hC23 (lo := 0) (hi := 40) gca (a := (12 + a1)) ev33i (by omega) (by omega) (cr_c12 (by omega) (by omega)) dX12_most_105 (fun v34 ev34 lv34 uv34 => ?_)
          refine lv_aload_n hx hb dX12_most_106 rfl (lv_at hl 2 rfl) ?_
          refine q_getC E hC23 g0 fa_RX12_35 uc dX12_most_107 ?_
          refine lv_bipush (v := 14) hx hb dX12_most_110 rfl ?_
          refine lv_iload_n hx hb dX12_most_112 rfl (lv_at hl 3 rfl) ?_
          refine lv_iadd hx hb dX12_most_113 (lv_topi (fun v35 ev35 => ?_))
          have ev35i : v35.toInt = (14 + a1) := i_add ev35 (by decide) e1 (by omega) (by omega)
          refine q_cald E hC23 (lo := 0) (hi := 40) gca (a := (14 + a1)) ev35i (by omega) (by omega) (cr_c12 (by omega) (by omega)) dX12_most_114 (fun v36 ev36 lv36 uv36 => ?_)
          refine lv_isub hx hb dX12_most_115 (lv_topi (fun v37 ev37 => ?_))
          have ev37i : v37.toInt = (v34.toInt - v36.toInt) := i_sub ev37 rfl rfl (by omega) (by omega)
          refine q_mmin E hl.1 w_1740 mathw_min (a := v32.toInt) (b := (v34.toInt - v36.toInt)) rfl ev37i (by decide) (show _ ≤ _ from by simp [Value.category]) dX12_most_116 (fun v38 mv38a mv38b mv38c => ?_)
          refine q_mmin E hl.1 w_1740 mathw_min (a := z28) (b := v38.toInt) ev28 rfl (by decide) (Nat.zero_le _) dX12_most_119 (fun v39 mv39a mv39b mv39c => ?_)
          exact ret v39 H23 locs32 _ _ dX12_most_122 ⟨hKp23, trivial⟩ hC23 hS32
        · refine lv_iconst (v := 0) hx hb dX12_most_38 rfl ?_
          refine lv_istore hx hb dX12_most_39 hl (by decide) rfl (fun ls hl => ?_)
          replace hl : lv_has ls 5 [(4, .int 0), (3, .int v27), (2, .int v28), (0, .ref h0), (1, .int p1)] := hl
          have L41 : ∀ (n42 : Nat) (locs42 : List Loc) (v40 : Int32) (z40 : Int) (v41 : Int32) (z41 : Int) (ls : Array Slot), (6 - z40).toNat < n42 → v40.toInt = z40 → v41.toInt = z41 → z40 ≤ 6 → 0 ≤ z40 → va_S (AΓ Γ) H0 H23 locs42 → lv_has ls 5 [(4, .int v40), (3, .int v27), (2, .int v41), (0, .ref h0), (1, .int p1)] → W p l e (rmL 2) s m args below meth c H23 locs42 0 0 Qz (F0 m 41 ls []) := by
            intro n42
            induction n42 with
            | zero => intro locs42 v40 z40 v41 z41 ls hm42 ev40 ev41 iv42_0 iv42_1 hS42 hl; exact absurd hm42 (Nat.not_lt_zero _)
            | succ n42 ih42 =>
              intro locs42 v40 z40 v41 z41 ls hm42 ev40 ev41 iv42_0 iv42_1 hS42 hl
              refine lv_iload hx hb dX12_most_41 (lv_at hl 0 rfl) ?_
              refine lv_aload_n hx hb dX12_most_43 rfl (lv_at hl 3 rfl) ?_
              refine q_getC E hC23 g0 fa_RX12_35 uc dX12_most_44 ?_
              refine lv_iconst (v := 0) hx hb dX12_most_47 rfl ?_
              refine q_cald E hC23 (lo := 0) (hi := 6) gca (a := 0) (show (0 : Int32).toInt = 0 from by decide) (by omega) (by omega) (cr_c0 (by omega) (by omega)) dX12_most_48 (fun v43 ev43 lv43 uv43 => ?_)
              refine q_icmp_ge hx hb (a := z40) (b := v43.toInt) ev40 rfl (tgt := 85) dX12_most_49 rfl (fun c44 => ?_) (fun c44 => ?_)
              · obtain ⟨v45, ev45⟩ : ∃ z, z = v27 + Int32.ofInt 1 := ⟨_, rfl⟩
                have ev45i : v45.toInt = (z27 + 1) := i_add ev45 ev27 (by decide) (by omega) (by omega)
                refine lv_iinc hx hb dX12_most_85 hl (k := 1) rfl ev45.symm (by decide) rfl (fun ls hl => ?_)
                replace hl : lv_has ls 5 [(3, .int v45), (4, .int v40), (2, .int v41), (0, .ref h0), (1, .int p1)] := hl
                refine lv_goto (tgt := 28) hx hb dX12_most_88 rfl ?_
                exact ih29 locs42 v45 ((z27 + 1)) v41 (z41) ls (by omega) ev45i ev41 (by omega) (by omega) hS42 (lv_sub hl [0, 2, 3, 4] rfl)
              · refine lv_iload_n hx hb dX12_most_52 rfl (lv_at hl 2 rfl) ?_
                refine lv_aload_n hx hb dX12_most_53 rfl (lv_at hl 3 rfl) ?_
                refine lv_iload hx hb dX12_most_54 (lv_at hl 0 rfl) ?_
                refine q_goIp (q_runV (As := [.int v40]) (rest := [.int v41]) E hC23 hS42 (m_X12_halfOf l X Γ H23 hC23 h0 g0 v40 (a1 := z40) ev40 ca gca uc) cw_X12_halfOf cl_RX12_270 g0 ⟨rfl, rfl⟩ rfl hl.1 rfl (show _ ≤ _ from by simp [Value.category]) (by decide) dX12_most_56) hS42 (fun v46 locs46 hr46 hS46 => ?_)
                obtain ⟨f46_0, f46_1⟩ := hr46
                refine lv_iload_n hx hb dX12_most_59 rfl (lv_at hl 4 rfl) ?_
                refine q_icmp_ne hx hb (a := v46.toInt) (b := a1) rfl e1 (tgt := 76) dX12_most_60 rfl (fun c47 => ?_) (fun c47 => ?_)
                · refine lv_iconst (v := 0) hx hb dX12_most_76 rfl ?_
                  refine lv_iadd hx hb dX12_most_77 (lv_topi (fun v48 ev48 => ?_))
                  have c49 := i_rng v41; rw [show v41.toInt = z41 from ev41] at c49
                  have ev48i : v48.toInt = (z41 + 0) := i_add ev48 ev41 (by decide) (by omega) (by omega)
                  refine lv_istore_n hx hb dX12_most_78 rfl hl (by decide) rfl (fun ls hl => ?_)
                  replace hl : lv_has ls 5 [(2, .int v48), (4, .int v40), (3, .int v27), (0, .ref h0), (1, .int p1)] := hl
                  obtain ⟨v50, ev50⟩ : ∃ z, z = v40 + Int32.ofInt 1 := ⟨_, rfl⟩
                  have ev50i : v50.toInt = (z40 + 1) := i_add ev50 ev40 (by decide) (by omega) (by omega)
                  refine lv_iinc hx hb dX12_most_79 hl (k := 1) rfl ev50.symm (by decide) rfl (fun ls hl => ?_)
                  replace hl : lv_has ls 5 [(4, .int v50), (2, .int v48), (3, .int v27), (0, .ref h0), (1, .int p1)] := hl
                  refine lv_goto (tgt := 41) hx hb dX12_most_82 rfl ?_
                  exact ih42 locs46 v50 ((z40 + 1)) v48 ((z41 + 0)) ls (by omega) ev50i ev48i (by omega) (by omega) hS46 (lv_sub hl [0, 2, 1, 3, 4] rfl)
                · refine lv_aload_n hx hb dX12_most_63 rfl (lv_at hl 3 rfl) ?_
                  refine lv_iload hx hb dX12_most_64 (lv_at hl 0 rfl) ?_
                  refine lv_iload_n hx hb dX12_most_66 rfl (lv_at hl 1 rfl) ?_
                  refine q_goIp (q_runS (As := [.int v40, .int v27]) (rest := [.ref h0, .int v41]) E hS46 (m_X12_at2 l X Γ H23 hC23 v40 (a0 := z40) ev40 v27 (a1 := z27) ev27 (by omega) (by omega) (by omega) (by omega)) cw_X12_at2 cl_RX12_292 rfl hl.1 rfl (show _ ≤ _ from by simp [Value.category]) (by decide) dX12_most_67) hS46 (fun v51 locs51 hr51 hS51 => ?_)
                  have f51_0 := hr51
                  refine q_goIp (q_runV (As := [.int v51]) (rest := [.int v41]) E hC23 hS51 (m_X12_freeOf l X Γ H23 hC23 h0 g0 v51 (a1 := v51.toInt) rfl ca gca uc (by omega) (by omega)) cw_X12_freeOf cl_RX12_353 g0 ⟨rfl, rfl⟩ rfl hl.1 rfl (show _ ≤ _ from by simp [Value.category]) (by decide) dX12_most_70) hS51 (fun v52 locs52 hr52 hS52 => ?_)
                  refine lv_goto (tgt := 77) hx hb dX12_most_73 rfl ?_
                  refine lv_iadd hx hb dX12_most_77 (lv_topi (fun v53 ev53 => ?_))
                  refine lv_istore_n hx hb dX12_most_78 rfl hl (by decide) rfl (fun ls hl => ?_)
                  replace hl : lv_has ls 5 [(2, .int v53), (4, .int v40), (3, .int v27), (0, .ref h0), (1, .int p1)] := hl
                  obtain ⟨v54, ev54⟩ : ∃ z, z = v40 + Int32.ofInt 1 := ⟨_, rfl⟩
                  have ev54i : v54.toInt = (z40 + 1) := i_add ev54 ev40 (by decide) (by omega) (by omega)
                  refine lv_iinc hx hb dX12_most_79 hl (k := 1) rfl ev54.symm (by decide) rfl (fun ls hl => ?_)
                  replace hl : lv_has ls 5 [(4, .int v54), (2, .int v53), (3, .int v27), (0, .ref h0), (1, .int p1)] := hl
                  refine lv_goto (tgt := 41) hx hb dX12_most_82 rfl ?_
                  exact ih42 locs52 v54 ((z40 + 1)) v53 (v53.toInt) ls (by omega) ev54i rfl (by omega) (by omega) hS52 (lv_sub hl [0, 2, 1, 3, 4] rfl)
          exact L41 _ locs29 0 0 v28 z28 ls (Nat.lt_succ_self _) (by decide) ev28 (by omega) (by omega) hS29 hl
    exact L28 _ locs25 0 0 0 0 ls (Nat.lt_succ_self _) (by decide) (by decide) (by omega) (by omega) hS25 hl
  · refine q_if_ne hx hb (a := 0) (by decide) (tgt := 24) dX12_most_15 rfl (fun c55 => absurd c55 (by omega)) (fun c55 => ?_)
    refine lv_aload_n hx hb dX12_most_18 rfl (lv_at hl 0 rfl) ?_
    refine lv_iconst (v := 2) hx hb dX12_most_19 rfl ?_
    refine q_goI (q_runV (As := [.int 2]) (rest := []) E hC23 hS25 (m_X12_refuse l X Γ H23 hC23 h0 g0 2 (a1 := 2) (by decide) ca gca uc) cw_X12_refuse cl_RX12_298 g0 ⟨rfl, rfl⟩ rfl hl.1 rfl (Nat.zero_le _) (by decide) dX12_most_20) hS25 (fun v56 H56 locs56 hr56 hC56 hS56 => ?_)
    obtain ⟨hp56, hr56⟩ := hr56
    have hKp56 := hKp23.tr (hp56.mono rfl)
    have f56_0 := hr56
    exact ret v56 H56 locs56 _ _ dX12_most_23 ⟨hKp56, trivial⟩ hC56 hS56
set_option maxRecDepth 100000 in
set_option maxHeartbeats 4000000 in
theorem m_X12_topOf (l : Launch) (X : xW) (Γ : Nat → Option Nat) (H0 : Heap) (hC0 : Conf X Γ H0) (h0 : Nat) (g0 : Γ h0 = some 11) (p1 : Int32) {a1 : Int} (e1 : p1.toInt = a1) (ca : Nat) (gca : Γ ca = some 64) (uc : ∀ a, Γ a = some 64 → a = ca) (r0 : 0 ≤ a1) (r1 : a1 ≤ 35) : Ctr l X Γ yX12_topOf cX12_topOf 2 (some .int) 0 [.ref h0, .int p1] H0 (QI X Γ (fun v H1 => H1 = H0 ∧ ((0 ≤ v.toInt) ∧ (v.toInt ≤ 198) ∧ (v.toInt = tpI H0 ca a1)))) := by
  refine q_enterI (own := "SnowFortsModel") (by decide) rfl (Nat.le_of_ble_eq_true rfl) ?_
  intro p e s m args below meth c ls Qz E hl ret hS0
  have hx := E.1; have hb := E.2.1
  have hl : lv_has ls 2 [(0, .ref h0), (1, .int p1)] := hl
  obtain ⟨v21, ev21⟩ : ∃ z, sI H0 ca ((26 + a1) : Int).toNat = z := ⟨_, rfl⟩
  have m22 : (sI H0 ca ((26 + a1) : Int).toNat).toInt = v21.toInt := congrArg Int32.toInt ev21
  obtain ⟨v23, ev23⟩ : ∃ z, sI H0 ca ((62 + a1) : Int).toNat = z := ⟨_, rfl⟩
  have m24 : (sI H0 ca ((62 + a1) : Int).toNat).toInt = v23.toInt := congrArg Int32.toInt ev23
  refine lv_aload_n hx hb dX12_topOf_0 rfl (lv_at hl 0 rfl) ?_
  refine q_getC E hC0 g0 fa_RX12_35 uc dX12_topOf_1 ?_
  refine lv_bipush (v := 26) hx hb dX12_topOf_4 rfl ?_
  refine lv_iload_n hx hb dX12_topOf_6 rfl (lv_at hl 1 rfl) ?_
  refine lv_iadd hx hb dX12_topOf_7 (lv_topi (fun v25 ev25 => ?_))
  have ev25i : v25.toInt = (26 + a1) := i_add ev25 (by decide) e1 (by omega) (by omega)
  refine q_cald E hC0 (lo := 0) (hi := 99) gca (a := (26 + a1)) ev25i (by omega) (by omega) (cr_c26 (by omega) (by omega)) dX12_topOf_8 (fun v26 ev26 lv26 uv26 => ?_)
  have qv26 := ev21.symm.trans ev26; subst qv26
  refine lv_aload_n hx hb dX12_topOf_9 rfl (lv_at hl 0 rfl) ?_
  refine q_getC E hC0 g0 fa_RX12_35 uc dX12_topOf_10 ?_
  refine lv_bipush (v := 62) hx hb dX12_topOf_13 rfl ?_
  refine lv_iload_n hx hb dX12_topOf_15 rfl (lv_at hl 1 rfl) ?_
  refine lv_iadd hx hb dX12_topOf_16 (lv_topi (fun v27 ev27 => ?_))
  have ev27i : v27.toInt = (62 + a1) := i_add ev27 (by decide) e1 (by omega) (by omega)
  refine q_cald E hC0 (lo := 0) (hi := 99) gca (a := (62 + a1)) ev27i (by omega) (by omega) (cr_c26 (by omega) (by omega)) dX12_topOf_17 (fun v28 ev28 lv28 uv28 => ?_)
  have qv28 := ev23.symm.trans ev28; subst qv28
  refine lv_iadd hx hb dX12_topOf_18 (lv_topi (fun v29 ev29 => ?_))
  have ev29i : v29.toInt = (v21.toInt + v23.toInt) := i_add ev29 rfl rfl (by omega) (by omega)
  have c30 : v29.toInt = (v21.toInt + v23.toInt) := ev29i
  exact ret v29 H0 [] _ _ dX12_topOf_19 ⟨rfl, ⟨by omega, by omega, by unfold tpI; omega⟩⟩ hC0 hS0
set_option maxRecDepth 100000 in
set_option maxHeartbeats 4000000 in
theorem m_X12_lowest (l : Launch) (X : xW) (Γ : Nat → Option Nat) (H0 : Heap) (hC0 : Conf X Γ H0) (h0 : Nat) (g0 : Γ h0 = some 11) (p1 : Int32) {a1 : Int} (e1 : p1.toInt = a1) (ca : Nat) (gca : Γ ca = some 64) (uc : ∀ a, Γ a = some 64 → a = ca) : Ctr l X Γ yX12_lowest cX12_lowest 5 (some .int) 1 [.ref h0, .int p1] H0 (QI X Γ (fun v H1 => Kp X Γ [1, 6, 7, 8, 9, 10, 11, 12, 14, 15, 16, 17, 19, 22, 24, 26, 28] H0 H1 ∧ (True))) := by
  refine q_enterI (own := "SnowFortsModel") (by decide) rfl (Nat.le_of_ble_eq_true rfl) ?_
  intro p e s m args below meth c ls Qz E hl ret hS0
  have hx := E.1; have hb := E.2.1
  have hKp0 : Kp X Γ [1, 6, 7, 8, 9, 10, 11, 12, 14, 15, 16, 17, 19, 22, 24, 26, 28] H0 H0 := Kp.rf
  have hl : lv_has ls 5 [(0, .ref h0), (1, .int p1)] := hl
  refine lv_aload_n hx hb dX12_lowest_0 rfl (lv_at hl 0 rfl) ?_
  refine lv_iconst (v := 0) hx hb dX12_lowest_1 rfl ?_
  refine q_put E hC0 hS0 g0 fp_RX12_69 tv_F rfl rfl dX12_lowest_2 (fun H21 locs21 hC21 hS21 U21 => ?_)
  have hKp21 := Kp.upO E g0 fp_RX12_69 rfl U21 hKp0
  have e22 := up_I U21
  refine lv_aload_n hx hb dX12_lowest_5 rfl (lv_at hl 0 rfl) ?_
  refine lv_iconst (v := 0) hx hb dX12_lowest_6 rfl ?_
  refine q_put E hC21 hS21 g0 fp_RX12_72 tv_F rfl rfl dX12_lowest_7 (fun H23 locs23 hC23 hS23 U23 => ?_)
  have hKp23 := Kp.upO E g0 fp_RX12_72 rfl U23 hKp21
  have e24 := up_I U23
  refine lv_iload_n hx hb dX12_lowest_10 rfl (lv_at hl 1 rfl) ?_
  refine lv_i2l (v := p1.toInt64) hx hb dX12_lowest_11 rfl (lv_topl (fun v25 ev25 => ?_))
  have ev25i : v25.toInt = a1 := l_ofi ev25.symm e1
  refine lv_lconst (v := 0) hx hb dX12_lowest_12 rfl ?_
  refine lv_lconst (v := 1) hx hb dX12_lowest_13 rfl ?_
  refine q_goIp (q_runS (As := [.long v25, .long 0, .long 1]) (rest := []) E hS23 (m_X12_isIn l X Γ H23 hC23 v25 (a0 := a1) ev25i 0 (a1 := 0) (show (0 : Int64).toInt = 0 from by decide) 1 (a2 := 1) (show (1 : Int64).toInt = 1 from by decide)) cw_X12_isIn cl_RX12_104 rfl hl.1 rfl (Nat.zero_le _) (by decide) dX12_lowest_14) hS23 (fun v26 locs26 hr26 hS26 => ?_)
  rcases hr26 with ⟨rfl, f26a0, f26a1⟩ | ⟨rfl, f26b⟩
  · refine q_if_ne hx hb (a := 1) (by decide) (tgt := 26) dX12_lowest_17 rfl (fun c27 => ?_) (fun c27 => absurd c27 (by omega))
    refine lv_ldcw (v := 1000000) hx hb E.2.2.2.1 (E.2.2.2.2.1 _ w_1801) dX12_lowest_26 ?_
    refine lv_istore_n hx hb dX12_lowest_29 rfl hl (by decide) rfl (fun ls hl => ?_)
    replace hl : lv_has ls 5 [(2, .int 1000000), (0, .ref h0), (1, .int p1)] := hl
    refine lv_iconst (v := 0) hx hb dX12_lowest_30 rfl ?_
    refine lv_istore_n hx hb dX12_lowest_31 rfl hl (by decide) rfl (fun ls hl => ?_)
    replace hl : lv_has ls 5 [(3, .int 0), (2, .int 1000000), (0, .ref h0), (1, .int p1)] := hl
    have L32 : ∀ (n30 : Nat) (locs30 : List Loc) (v28 : Int32) (z28 : Int) (v29 : Int32) (z29 : Int) (ls : Array Slot), (6 - z28).toNat < n30 → v28.toInt = z28 → v29.toInt = z29 → z28 ≤ 6 → 0 ≤ z28 → va_S (AΓ Γ) H0 H23 locs30 → lv_has ls 5 [(3, .int v28), (2, .int v29), (0, .ref h0), (1, .int p1)] → W p l e (rmL 1) s m args below meth c H23 locs30 0 0 Qz (F0 m 32 ls []) := by
      intro n30
      induction n30 with
      | zero => intro locs30 v28 z28 v29 z29 ls hm30 ev28 ev29 iv30_0 iv30_1 hS30 hl; exact absurd hm30 (Nat.not_lt_zero _)
      | succ n30 ih30 =>
        intro locs30 v28 z28 v29 z29 ls hm30 ev28 ev29 iv30_0 iv30_1 hS30 hl
        refine lv_iload_n hx hb dX12_lowest_32 rfl (lv_at hl 0 rfl) ?_
        refine lv_aload_n hx hb dX12_lowest_33 rfl (lv_at hl 2 rfl) ?_
        refine q_getC E hC23 g0 fa_RX12_35 uc dX12_lowest_34 ?_
        refine lv_iconst (v := 1) hx hb dX12_lowest_37 rfl ?_
        refine q_cald E hC23 (lo := 0) (hi := 6) gca (a := 1) (show (1 : Int32).toInt = 1 from by decide) (by omega) (by omega) (cr_c0 (by omega) (by omega)) dX12_lowest_38 (fun v31 ev31 lv31 uv31 => ?_)
        refine q_icmp_ge hx hb (a := z28) (b := v31.toInt) ev28 rfl (tgt := 97) dX12_lowest_39 rfl (fun c32 => ?_) (fun c32 => ?_)
        · refine lv_iload_n hx hb dX12_lowest_97 rfl (lv_at hl 1 rfl) ?_
          exact ret v29 H23 locs30 _ _ dX12_lowest_98 ⟨hKp23, trivial⟩ hC23 hS30
        · refine lv_iconst (v := 0) hx hb dX12_lowest_42 rfl ?_
          refine lv_istore hx hb dX12_lowest_43 hl (by decide) rfl (fun ls hl => ?_)
          replace hl : lv_has ls 5 [(4, .int 0), (3, .int v28), (2, .int v29), (0, .ref h0), (1, .int p1)] := hl
          have L45 : ∀ (n35 : Nat) (locs35 : List Loc) (v33 : Int32) (z33 : Int) (v34 : Int32) (z34 : Int) (ls : Array Slot), (6 - z33).toNat < n35 → v33.toInt = z33 → v34.toInt = z34 → z33 ≤ 6 → 0 ≤ z33 → va_S (AΓ Γ) H0 H23 locs35 → lv_has ls 5 [(4, .int v33), (3, .int v28), (2, .int v34), (0, .ref h0), (1, .int p1)] → W p l e (rmL 1) s m args below meth c H23 locs35 0 0 Qz (F0 m 45 ls []) := by
            intro n35
            induction n35 with
            | zero => intro locs35 v33 z33 v34 z34 ls hm35 ev33 ev34 iv35_0 iv35_1 hS35 hl; exact absurd hm35 (Nat.not_lt_zero _)
            | succ n35 ih35 =>
              intro locs35 v33 z33 v34 z34 ls hm35 ev33 ev34 iv35_0 iv35_1 hS35 hl
              refine lv_iload hx hb dX12_lowest_45 (lv_at hl 0 rfl) ?_
              refine lv_aload_n hx hb dX12_lowest_47 rfl (lv_at hl 3 rfl) ?_
              refine q_getC E hC23 g0 fa_RX12_35 uc dX12_lowest_48 ?_
              refine lv_iconst (v := 0) hx hb dX12_lowest_51 rfl ?_
              refine q_cald E hC23 (lo := 0) (hi := 6) gca (a := 0) (show (0 : Int32).toInt = 0 from by decide) (by omega) (by omega) (cr_c0 (by omega) (by omega)) dX12_lowest_52 (fun v36 ev36 lv36 uv36 => ?_)
              refine q_icmp_ge hx hb (a := z33) (b := v36.toInt) ev33 rfl (tgt := 91) dX12_lowest_53 rfl (fun c37 => ?_) (fun c37 => ?_)
              · obtain ⟨v38, ev38⟩ : ∃ z, z = v28 + Int32.ofInt 1 := ⟨_, rfl⟩
                have ev38i : v38.toInt = (z28 + 1) := i_add ev38 ev28 (by decide) (by omega) (by omega)
                refine lv_iinc hx hb dX12_lowest_91 hl (k := 1) rfl ev38.symm (by decide) rfl (fun ls hl => ?_)
                replace hl : lv_has ls 5 [(3, .int v38), (4, .int v33), (2, .int v34), (0, .ref h0), (1, .int p1)] := hl
                refine lv_goto (tgt := 32) hx hb dX12_lowest_94 rfl ?_
                exact ih30 locs35 v38 ((z28 + 1)) v34 (z34) ls (by omega) ev38i ev34 (by omega) (by omega) hS35 (lv_sub hl [0, 2, 3, 4] rfl)
              · refine lv_aload_n hx hb dX12_lowest_56 rfl (lv_at hl 3 rfl) ?_
                refine lv_iload hx hb dX12_lowest_57 (lv_at hl 0 rfl) ?_
                refine q_goIp (q_runV (As := [.int v33]) (rest := []) E hC23 hS35 (m_X12_halfOf l X Γ H23 hC23 h0 g0 v33 (a1 := z33) ev33 ca gca uc) cw_X12_halfOf cl_RX12_270 g0 ⟨rfl, rfl⟩ rfl hl.1 rfl (Nat.zero_le _) (by decide) dX12_lowest_59) hS35 (fun v39 locs39 hr39 hS39 => ?_)
                obtain ⟨f39_0, f39_1⟩ := hr39
                refine lv_iload_n hx hb dX12_lowest_62 rfl (lv_at hl 4 rfl) ?_
                refine q_icmp_ne hx hb (a := v39.toInt) (b := a1) rfl e1 (tgt := 83) dX12_lowest_63 rfl (fun c40 => ?_) (fun c40 => ?_)
                · refine lv_iload_n hx hb dX12_lowest_83 rfl (lv_at hl 2 rfl) ?_
                  refine lv_istore_n hx hb dX12_lowest_84 rfl hl (by decide) rfl (fun ls hl => ?_)
                  replace hl : lv_has ls 5 [(2, .int v34), (4, .int v33), (3, .int v28), (0, .ref h0), (1, .int p1)] := hl
                  obtain ⟨v41, ev41⟩ : ∃ z, z = v33 + Int32.ofInt 1 := ⟨_, rfl⟩
                  have ev41i : v41.toInt = (z33 + 1) := i_add ev41 ev33 (by decide) (by omega) (by omega)
                  refine lv_iinc hx hb dX12_lowest_85 hl (k := 1) rfl ev41.symm (by decide) rfl (fun ls hl => ?_)
                  replace hl : lv_has ls 5 [(4, .int v41), (2, .int v34), (3, .int v28), (0, .ref h0), (1, .int p1)] := hl
                  refine lv_goto (tgt := 45) hx hb dX12_lowest_88 rfl ?_
                  exact ih35 locs39 v41 ((z33 + 1)) v34 (z34) ls (by omega) ev41i ev34 (by omega) (by omega) hS39 (lv_sub hl [0, 2, 1, 3, 4] rfl)
                · refine lv_iload_n hx hb dX12_lowest_66 rfl (lv_at hl 2 rfl) ?_
                  refine lv_aload_n hx hb dX12_lowest_67 rfl (lv_at hl 3 rfl) ?_
                  refine lv_iload hx hb dX12_lowest_68 (lv_at hl 0 rfl) ?_
                  refine lv_iload_n hx hb dX12_lowest_70 rfl (lv_at hl 1 rfl) ?_
                  refine q_goIp (q_runS (As := [.int v33, .int v28]) (rest := [.ref h0, .int v34]) E hS39 (m_X12_at2 l X Γ H23 hC23 v33 (a0 := z33) ev33 v28 (a1 := z28) ev28 (by omega) (by omega) (by omega) (by omega)) cw_X12_at2 cl_RX12_292 rfl hl.1 rfl (show _ ≤ _ from by simp [Value.category]) (by decide) dX12_lowest_71) hS39 (fun v42 locs42 hr42 hS42 => ?_)
                  have f42_0 := hr42
                  refine q_goIp (q_runV (As := [.int v42]) (rest := [.int v34]) E hC23 hS42 (m_X12_topOf l X Γ H23 hC23 h0 g0 v42 (a1 := v42.toInt) rfl ca gca uc (by omega) (by omega)) cw_X12_topOf cl_RX12_359 g0 ⟨rfl, rfl⟩ rfl hl.1 rfl (show _ ≤ _ from by simp [Value.category]) (by decide) dX12_lowest_74) hS42 (fun v43 locs43 hr43 hS43 => ?_)
                  obtain ⟨f43_0, f43_1, f43_2⟩ := hr43
                  refine q_mmin E hl.1 w_1740 mathw_min (a := z34) (b := v43.toInt) ev34 rfl (by decide) (Nat.zero_le _) dX12_lowest_77 (fun v44 mv44a mv44b mv44c => ?_)
                  refine lv_goto (tgt := 84) hx hb dX12_lowest_80 rfl ?_
                  refine lv_istore_n hx hb dX12_lowest_84 rfl hl (by decide) rfl (fun ls hl => ?_)
                  replace hl : lv_has ls 5 [(2, .int v44), (4, .int v33), (3, .int v28), (0, .ref h0), (1, .int p1)] := hl
                  obtain ⟨v45, ev45⟩ : ∃ z, z = v33 + Int32.ofInt 1 := ⟨_, rfl⟩
                  have ev45i : v45.toInt = (z33 + 1) := i_add ev45 ev33 (by decide) (by omega) (by omega)
                  refine lv_iinc hx hb dX12_lowest_85 hl (k := 1) rfl ev45.symm (by decide) rfl (fun ls hl => ?_)
                  replace hl : lv_has ls 5 [(4, .int v45), (2, .int v44), (3, .int v28), (0, .ref h0), (1, .int p1)] := hl
                  refine lv_goto (tgt := 45) hx hb dX12_lowest_88 rfl ?_
                  exact ih35 locs43 v45 ((z33 + 1)) v44 (v44.toInt) ls (by omega) ev45i rfl (by omega) (by omega) hS43 (lv_sub hl [0, 2, 1, 3, 4] rfl)
          exact L45 _ locs30 0 0 v29 z29 ls (Nat.lt_succ_self _) (by decide) ev29 (by omega) (by omega) hS30 hl
    exact L32 _ locs26 0 0 1000000 1000000 ls (Nat.lt_succ_self _) (by decide) (by decide) (by omega) (by omega) hS26 hl
  · refine q_if_ne hx hb (a := 0) (by decide) (tgt := 26) dX12_lowest_17 rfl (fun c46 => absurd c46 (by omega)) (fun c46 => ?_)
    refine lv_aload_n hx hb dX12_lowest_20 rfl (lv_at hl 0 rfl) ?_
    refine lv_iconst (v := 5) hx hb dX12_lowest_21 rfl ?_
    refine q_goI (q_runV (As := [.int 5]) (rest := []) E hC23 hS26 (m_X12_refuse l X Γ H23 hC23 h0 g0 5 (a1 := 5) (by decide) ca gca uc) cw_X12_refuse cl_RX12_298 g0 ⟨rfl, rfl⟩ rfl hl.1 rfl (Nat.zero_le _) (by decide) dX12_lowest_22) hS26 (fun v47 H47 locs47 hr47 hC47 hS47 => ?_)
    obtain ⟨hp47, hr47⟩ := hr47
    have hKp47 := hKp23.tr (hp47.mono rfl)
    have f47_0 := hr47
    exact ret v47 H47 locs47 _ _ dX12_lowest_25 ⟨hKp47, trivial⟩ hC47 hS47
