set_option maxRecDepth 100000 in
set_option maxHeartbeats 4000000 in
theorem m_X12_halfOf (l : Launch) (X : xW) (Γ : Nat → Option Nat) (H0 : Heap) (hC0 : Conf X Γ H0) (h0 : Nat) (g0 : Γ h0 = some 11) (p1 : Int32) {a1 : Int} (e1 : p1.toInt = a1) (ca : Nat) (gca : Γ ca = some 64) (uc : ∀ a, Γ a = some 64 → a = ca) : Ctr l X Γ yX12_halfOf cX12_halfOf 2 (some .int) 0 [.ref h0, .int p1] H0 (QI X Γ (fun v H1 => H1 = H0 ∧ ((0 ≤ v.toInt) ∧ (v.toInt ≤ 1)))) := by
  refine q_enterI (own := "SnowFortsModel") (by decide) rfl (Nat.le_of_ble_eq_true rfl) ?_
  intro p e s m args below meth c ls Qz E hl ret hS0
  have hx := E.1; have hb := E.2.1
  have hl : lv_has ls 2 [(0, .ref h0), (1, .int p1)] := hl
  refine lv_iconst (v := 2) hx hb dX12_halfOf_0 rfl ?_
  refine lv_iload_n hx hb dX12_halfOf_1 rfl (lv_at hl 1 rfl) ?_
  refine lv_imul hx hb dX12_halfOf_2 (lv_topi (fun v21 ev21 => ?_))
  refine lv_aload_n hx hb dX12_halfOf_3 rfl (lv_at hl 0 rfl) ?_
  refine q_getC E hC0 g0 fa_RX12_35 uc dX12_halfOf_4 ?_
  refine lv_iconst (v := 0) hx hb dX12_halfOf_7 rfl ?_
  refine q_cald E hC0 (lo := 0) (hi := 6) gca (a := 0) (show (0 : Int32).toInt = 0 from by decide) (by omega) (by omega) (cr_c0 (by omega) (by omega)) dX12_halfOf_8 (fun v22 ev22 lv22 uv22 => ?_)
  have c23 := i_rng v21; rw [show v21.toInt = v21.toInt from rfl] at c23
  refine q_icmp_ge hx hb (a := v21.toInt) (b := v22.toInt) rfl rfl (tgt := 16) dX12_halfOf_9 rfl (fun c24 => ?_) (fun c24 => ?_)
  · refine lv_iconst (v := 1) hx hb dX12_halfOf_16 rfl ?_
    have c25 : (1 : Int32).toInt = 1 := (by decide)
    exact ret 1 H0 [] _ _ dX12_halfOf_17 ⟨rfl, ⟨by omega, by omega⟩⟩ hC0 hS0
  · refine lv_iconst (v := 0) hx hb dX12_halfOf_12 rfl ?_
    refine lv_goto (tgt := 17) hx hb dX12_halfOf_13 rfl ?_
    have c26 : (0 : Int32).toInt = 0 := (by decide)
    exact ret 0 H0 [] _ _ dX12_halfOf_17 ⟨rfl, ⟨by omega, by omega⟩⟩ hC0 hS0
set_option maxRecDepth 100000 in
set_option maxHeartbeats 4000000 in
theorem m_X12_readPlace (l : Launch) (X : xW) (Γ : Nat → Option Nat) (H0 : Heap) (hC0 : Conf X Γ H0) (h0 : Nat) (g0 : Γ h0 = some 11) (p1 : Int32) {a1 : Int} (e1 : p1.toInt = a1) (ca : Nat) (gca : Γ ca = some 64) (uc : ∀ a, Γ a = some 64 → a = ca) : Ctr l X Γ yX12_readPlace cX12_readPlace 5 (some .int) 3 [.ref h0, .int p1] H0 (QI X Γ (fun v H1 => Kp X Γ [1, 6, 7, 8, 9, 10, 11, 12, 14, 15, 16, 17, 19, 22, 24, 26, 28] H0 H1 ∧ (((sI H0 h0 (X.1.2 11 16)).toInt ≤ (sI H1 h0 (X.1.2 11 16)).toInt) ∧ ((sI H0 h0 (X.1.2 11 16)).toInt < (sI H1 h0 (X.1.2 11 16)).toInt + tk (sI H1 h0 (X.1.2 11 14)).toInt + 2000 * (sI H1 h0 (X.1.2 11 12)).toInt) ∧ ((sI H0 h0 (X.1.2 11 12)).toInt ≤ 7 * (sI H1 h0 (X.1.2 11 12)).toInt) ∧ (0 ≤ (sI H1 h0 (X.1.2 11 12)).toInt) ∧ (0 ≤ v.toInt) ∧ (v.toInt ≤ 35)))) := by
  refine q_enterI (own := "SnowFortsModel") (by decide) rfl (Nat.le_of_ble_eq_true rfl) ?_
  intro p e s m args below meth c ls Qz E hl ret hS0
  have hx := E.1; have hb := E.2.1
  have hKp0 : Kp X Γ [1, 6, 7, 8, 9, 10, 11, 12, 14, 15, 16, 17, 19, 22, 24, 26, 28] H0 H0 := Kp.rf
  have hl : lv_has ls 5 [(0, .ref h0), (1, .int p1)] := hl
  have hz1 := f_bd hC0 g0 (ci := 11) (k := 16) rfl rfl
  have hz2 := f_bd hC0 g0 (ci := 11) (k := 12) rfl rfl
  refine lv_aload_n hx hb dX12_readPlace_0 rfl (lv_at hl 0 rfl) ?_
  refine q_getI E hC0 g0 fa_RX12_114 dX12_readPlace_1 (fun v21 ev21 lv21 uv21 => ?_)
  refine lv_istore_n hx hb dX12_readPlace_4 rfl hl (by decide) rfl (fun ls hl => ?_)
  replace hl : lv_has ls 5 [(2, .int v21), (0, .ref h0), (1, .int p1)] := hl
  refine lv_aload_n hx hb dX12_readPlace_5 rfl (lv_at hl 1 rfl) ?_
  refine lv_iconst (v := 0) hx hb dX12_readPlace_6 rfl ?_
  refine lv_aload_n hx hb dX12_readPlace_7 rfl (lv_at hl 1 rfl) ?_
  refine q_getC E hC0 g0 fa_RX12_35 uc dX12_readPlace_8 ?_
  refine lv_iconst (v := 0) hx hb dX12_readPlace_11 rfl ?_
  refine q_cald E hC0 (lo := 0) (hi := 6) gca (a := 0) (show (0 : Int32).toInt = 0 from by decide) (by omega) (by omega) (cr_c0 (by omega) (by omega)) dX12_readPlace_12 (fun v22 ev22 lv22 uv22 => ?_)
  refine lv_iconst (v := 1) hx hb dX12_readPlace_13 rfl ?_
  refine lv_isub hx hb dX12_readPlace_14 (lv_topi (fun v23 ev23 => ?_))
  have ev23i : v23.toInt = (v22.toInt - 1) := i_sub ev23 rfl (by decide) (by omega) (by omega)
  refine q_goI (q_runV (As := [.int 0, .int v23]) (rest := []) E hC0 hS0 (m_X12_count l X Γ H0 hC0 h0 g0 0 (a1 := 0) (by decide) v23 (a2 := (v22.toInt - 1)) ev23i ca gca uc (by omega) (by omega) (by omega) (by omega)) cw_X12_count cl_RX12_248 g0 ⟨rfl, rfl⟩ rfl hl.1 rfl (Nat.zero_le _) (by decide) dX12_readPlace_15) hS0 (fun v24 H24 locs24 hr24 hC24 hS24 => ?_)
  obtain ⟨hp24, hr24⟩ := hr24
  have hKp24 := hKp0.tr (hp24.mono rfl)
  obtain ⟨f24_0, f24_1, f24_2, f24_3, f24_4, f24_5, f24_6, f24_7⟩ := hr24
  refine lv_istore_n hx hb dX12_readPlace_18 rfl hl (by decide) rfl (fun ls hl => ?_)
  replace hl : lv_has ls 5 [(3, .int v24), (2, .int v21), (0, .ref h0), (1, .int p1)] := hl
  refine lv_aload_n hx hb dX12_readPlace_19 rfl (lv_at hl 2 rfl) ?_
  refine q_getI E hC24 g0 fa_RX12_218 dX12_readPlace_20 (fun v25 ev25 lv25 uv25 => ?_)
  have m26 : (sI H24 h0 (X.1.2 11 12)).toInt = v25.toInt := (congrArg Int32.toInt ev25).trans rfl
  refine q_if_ne hx hb (a := v25.toInt) rfl (tgt := 50) dX12_readPlace_23 rfl (fun c27 => ?_) (fun c27 => ?_)
  · refine lv_aload_n hx hb dX12_readPlace_50 rfl (lv_at hl 2 rfl) ?_
    refine lv_iconst (v := 0) hx hb dX12_readPlace_51 rfl ?_
    refine lv_aload_n hx hb dX12_readPlace_52 rfl (lv_at hl 2 rfl) ?_
    refine q_getC E hC24 g0 fa_RX12_35 uc dX12_readPlace_53 ?_
    refine lv_iconst (v := 1) hx hb dX12_readPlace_56 rfl ?_
    refine q_cald E hC24 (lo := 0) (hi := 6) gca (a := 1) (show (1 : Int32).toInt = 1 from by decide) (by omega) (by omega) (cr_c0 (by omega) (by omega)) dX12_readPlace_57 (fun v28 ev28 lv28 uv28 => ?_)
    refine lv_iconst (v := 1) hx hb dX12_readPlace_58 rfl ?_
    refine lv_isub hx hb dX12_readPlace_59 (lv_topi (fun v29 ev29 => ?_))
    have ev29i : v29.toInt = (v28.toInt - 1) := i_sub ev29 rfl (by decide) (by omega) (by omega)
    refine q_goI (q_runV (As := [.int 0, .int v29]) (rest := []) E hC24 hS24 (m_X12_count l X Γ H24 hC24 h0 g0 0 (a1 := 0) (by decide) v29 (a2 := (v28.toInt - 1)) ev29i ca gca uc (by omega) (by omega) (by omega) (by omega)) cw_X12_count cl_RX12_248 g0 ⟨rfl, rfl⟩ rfl hl.1 rfl (Nat.zero_le _) (by decide) dX12_readPlace_60) hS24 (fun v30 H30 locs30 hr30 hC30 hS30 => ?_)
    obtain ⟨hp30, hr30⟩ := hr30
    have hKp30 := hKp24.tr (hp30.mono rfl)
    obtain ⟨f30_0, f30_1, f30_2, f30_3, f30_4, f30_5, f30_6, f30_7⟩ := hr30
    refine lv_istore hx hb dX12_readPlace_63 hl (by decide) rfl (fun ls hl => ?_)
    replace hl : lv_has ls 5 [(4, .int v30), (3, .int v24), (2, .int v21), (0, .ref h0), (1, .int p1)] := hl
    refine lv_bipush (v := 6) hx hb dX12_readPlace_65 rfl ?_
    refine lv_iload hx hb dX12_readPlace_67 (lv_at hl 0 rfl) ?_
    refine lv_imul hx hb dX12_readPlace_69 (lv_topi (fun v31 ev31 => ?_))
    have ev31i : v31.toInt = (6 * v30.toInt) := i_mul ev31 (by decide) rfl (by omega) (by omega)
    refine lv_iload_n hx hb dX12_readPlace_70 rfl (lv_at hl 1 rfl) ?_
    refine lv_iadd hx hb dX12_readPlace_71 (lv_topi (fun v32 ev32 => ?_))
    have ev32i : v32.toInt = ((6 * v30.toInt) + v24.toInt) := i_add ev32 ev31i rfl (by omega) (by omega)
    have hz8 := tk_nn (sI H30 h0 (X.1.2 11 14)).toInt
    have c33 : v32.toInt = ((6 * v30.toInt) + v24.toInt) := ev32i
    exact ret v32 H30 locs30 _ _ dX12_readPlace_72 ⟨hKp30, ⟨by omega, by omega, by omega, by omega, by omega, by omega⟩⟩ hC30 hS30
  · refine lv_iload_n hx hb dX12_readPlace_26 rfl (lv_at hl 3 rfl) ?_
    refine q_if_eq hx hb (a := a1) e1 (tgt := 50) dX12_readPlace_27 rfl (fun c34 => ?_) (fun c34 => ?_)
    · refine lv_aload_n hx hb dX12_readPlace_50 rfl (lv_at hl 2 rfl) ?_
      refine lv_iconst (v := 0) hx hb dX12_readPlace_51 rfl ?_
      refine lv_aload_n hx hb dX12_readPlace_52 rfl (lv_at hl 2 rfl) ?_
      refine q_getC E hC24 g0 fa_RX12_35 uc dX12_readPlace_53 ?_
      refine lv_iconst (v := 1) hx hb dX12_readPlace_56 rfl ?_
      refine q_cald E hC24 (lo := 0) (hi := 6) gca (a := 1) (show (1 : Int32).toInt = 1 from by decide) (by omega) (by omega) (cr_c0 (by omega) (by omega)) dX12_readPlace_57 (fun v35 ev35 lv35 uv35 => ?_)
      refine lv_iconst (v := 1) hx hb dX12_readPlace_58 rfl ?_
      refine lv_isub hx hb dX12_readPlace_59 (lv_topi (fun v36 ev36 => ?_))
      have ev36i : v36.toInt = (v35.toInt - 1) := i_sub ev36 rfl (by decide) (by omega) (by omega)
      refine q_goI (q_runV (As := [.int 0, .int v36]) (rest := []) E hC24 hS24 (m_X12_count l X Γ H24 hC24 h0 g0 0 (a1 := 0) (by decide) v36 (a2 := (v35.toInt - 1)) ev36i ca gca uc (by omega) (by omega) (by omega) (by omega)) cw_X12_count cl_RX12_248 g0 ⟨rfl, rfl⟩ rfl hl.1 rfl (Nat.zero_le _) (by decide) dX12_readPlace_60) hS24 (fun v37 H37 locs37 hr37 hC37 hS37 => ?_)
      obtain ⟨hp37, hr37⟩ := hr37
      have hKp37 := hKp24.tr (hp37.mono rfl)
      obtain ⟨f37_0, f37_1, f37_2, f37_3, f37_4, f37_5, f37_6, f37_7⟩ := hr37
      refine lv_istore hx hb dX12_readPlace_63 hl (by decide) rfl (fun ls hl => ?_)
      replace hl : lv_has ls 5 [(4, .int v37), (3, .int v24), (2, .int v21), (0, .ref h0), (1, .int p1)] := hl
      refine lv_bipush (v := 6) hx hb dX12_readPlace_65 rfl ?_
      refine lv_iload hx hb dX12_readPlace_67 (lv_at hl 0 rfl) ?_
      refine lv_imul hx hb dX12_readPlace_69 (lv_topi (fun v38 ev38 => ?_))
      have ev38i : v38.toInt = (6 * v37.toInt) := i_mul ev38 (by decide) rfl (by omega) (by omega)
      refine lv_iload_n hx hb dX12_readPlace_70 rfl (lv_at hl 1 rfl) ?_
      refine lv_iadd hx hb dX12_readPlace_71 (lv_topi (fun v39 ev39 => ?_))
      have ev39i : v39.toInt = ((6 * v37.toInt) + v24.toInt) := i_add ev39 ev38i rfl (by omega) (by omega)
      have hz8 := tk_nn (sI H37 h0 (X.1.2 11 14)).toInt
      have c40 : v39.toInt = ((6 * v37.toInt) + v24.toInt) := ev39i
      exact ret v39 H37 locs37 _ _ dX12_readPlace_72 ⟨hKp37, ⟨by omega, by omega, by omega, by omega, by omega, by omega⟩⟩ hC37 hS37
    · refine lv_aload_n hx hb dX12_readPlace_30 rfl (lv_at hl 2 rfl) ?_
      refine lv_iload_n hx hb dX12_readPlace_31 rfl (lv_at hl 0 rfl) ?_
      refine q_goIp (q_runV (As := [.int v24]) (rest := []) E hC24 hS24 (m_X12_halfOf l X Γ H24 hC24 h0 g0 v24 (a1 := v24.toInt) rfl ca gca uc) cw_X12_halfOf cl_RX12_270 g0 ⟨rfl, rfl⟩ rfl hl.1 rfl (Nat.zero_le _) (by decide) dX12_readPlace_32) hS24 (fun v41 locs41 hr41 hS41 => ?_)
      obtain ⟨f41_0, f41_1⟩ := hr41
      refine lv_aload_n hx hb dX12_readPlace_35 rfl (lv_at hl 2 rfl) ?_
      refine q_getC E hC24 g0 fa_RX12_35 uc dX12_readPlace_36 ?_
      refine lv_iconst (v := 2) hx hb dX12_readPlace_39 rfl ?_
      refine q_cald E hC24 (lo := 0) (hi := 2) gca (a := 2) (show (2 : Int32).toInt = 2 from by decide) (by omega) (by omega) (cr_c2 (by omega) (by omega)) dX12_readPlace_40 (fun v42 ev42 lv42 uv42 => ?_)
      refine q_icmp_lt hx hb (a := v41.toInt) (b := v42.toInt) rfl rfl (tgt := 50) dX12_readPlace_41 rfl (fun c43 => ?_) (fun c43 => ?_)
      · refine lv_aload_n hx hb dX12_readPlace_50 rfl (lv_at hl 2 rfl) ?_
        refine lv_iconst (v := 0) hx hb dX12_readPlace_51 rfl ?_
        refine lv_aload_n hx hb dX12_readPlace_52 rfl (lv_at hl 2 rfl) ?_
        refine q_getC E hC24 g0 fa_RX12_35 uc dX12_readPlace_53 ?_
        refine lv_iconst (v := 1) hx hb dX12_readPlace_56 rfl ?_
        refine q_cald E hC24 (lo := 0) (hi := 6) gca (a := 1) (show (1 : Int32).toInt = 1 from by decide) (by omega) (by omega) (cr_c0 (by omega) (by omega)) dX12_readPlace_57 (fun v44 ev44 lv44 uv44 => ?_)
        refine lv_iconst (v := 1) hx hb dX12_readPlace_58 rfl ?_
        refine lv_isub hx hb dX12_readPlace_59 (lv_topi (fun v45 ev45 => ?_))
        have ev45i : v45.toInt = (v44.toInt - 1) := i_sub ev45 rfl (by decide) (by omega) (by omega)
        refine q_goI (q_runV (As := [.int 0, .int v45]) (rest := []) E hC24 hS41 (m_X12_count l X Γ H24 hC24 h0 g0 0 (a1 := 0) (by decide) v45 (a2 := (v44.toInt - 1)) ev45i ca gca uc (by omega) (by omega) (by omega) (by omega)) cw_X12_count cl_RX12_248 g0 ⟨rfl, rfl⟩ rfl hl.1 rfl (Nat.zero_le _) (by decide) dX12_readPlace_60) hS41 (fun v46 H46 locs46 hr46 hC46 hS46 => ?_)
        obtain ⟨hp46, hr46⟩ := hr46
        have hKp46 := hKp24.tr (hp46.mono rfl)
        obtain ⟨f46_0, f46_1, f46_2, f46_3, f46_4, f46_5, f46_6, f46_7⟩ := hr46
        refine lv_istore hx hb dX12_readPlace_63 hl (by decide) rfl (fun ls hl => ?_)
        replace hl : lv_has ls 5 [(4, .int v46), (3, .int v24), (2, .int v21), (0, .ref h0), (1, .int p1)] := hl
        refine lv_bipush (v := 6) hx hb dX12_readPlace_65 rfl ?_
        refine lv_iload hx hb dX12_readPlace_67 (lv_at hl 0 rfl) ?_
        refine lv_imul hx hb dX12_readPlace_69 (lv_topi (fun v47 ev47 => ?_))
        have ev47i : v47.toInt = (6 * v46.toInt) := i_mul ev47 (by decide) rfl (by omega) (by omega)
        refine lv_iload_n hx hb dX12_readPlace_70 rfl (lv_at hl 1 rfl) ?_
        refine lv_iadd hx hb dX12_readPlace_71 (lv_topi (fun v48 ev48 => ?_))
        have ev48i : v48.toInt = ((6 * v46.toInt) + v24.toInt) := i_add ev48 ev47i rfl (by omega) (by omega)
        have hz8 := tk_nn (sI H46 h0 (X.1.2 11 14)).toInt
        have c49 : v48.toInt = ((6 * v46.toInt) + v24.toInt) := ev48i
        exact ret v48 H46 locs46 _ _ dX12_readPlace_72 ⟨hKp46, ⟨by omega, by omega, by omega, by omega, by omega, by omega⟩⟩ hC46 hS46
      · refine lv_aload_n hx hb dX12_readPlace_44 rfl (lv_at hl 2 rfl) ?_
        refine lv_iconst (v := 4) hx hb dX12_readPlace_45 rfl ?_
        refine lv_iload_n hx hb dX12_readPlace_46 rfl (lv_at hl 1 rfl) ?_
        refine q_goV (q_runV (As := [.int 4, .int v21]) (rest := []) E hC24 hS41 (m_X12_fail l X Γ H24 hC24 h0 g0 4 (a1 := 4) (by decide) v21 (a2 := v21.toInt) rfl ca gca uc (by omega) (by omega)) cw_X12_fail cl_RX12_224 g0 ⟨rfl, rfl⟩ rfl hl.1 rfl (Nat.zero_le _) (by decide) dX12_readPlace_47) hS41 (fun H50 locs50 hr50 hC50 hS50 => ?_)
        obtain ⟨hp50, hr50⟩ := hr50
        have hKp50 := hKp24.tr (hp50.mono rfl)
        obtain ⟨f50_0, f50_1, f50_2, f50_3⟩ := hr50
        refine lv_aload_n hx hb dX12_readPlace_50 rfl (lv_at hl 2 rfl) ?_
        refine lv_iconst (v := 0) hx hb dX12_readPlace_51 rfl ?_
        refine lv_aload_n hx hb dX12_readPlace_52 rfl (lv_at hl 2 rfl) ?_
        refine q_getC E hC50 g0 fa_RX12_35 uc dX12_readPlace_53 ?_
        refine lv_iconst (v := 1) hx hb dX12_readPlace_56 rfl ?_
        refine q_cald E hC50 (lo := 0) (hi := 6) gca (a := 1) (show (1 : Int32).toInt = 1 from by decide) (by omega) (by omega) (cr_c0 (by omega) (by omega)) dX12_readPlace_57 (fun v51 ev51 lv51 uv51 => ?_)
        refine lv_iconst (v := 1) hx hb dX12_readPlace_58 rfl ?_
        refine lv_isub hx hb dX12_readPlace_59 (lv_topi (fun v52 ev52 => ?_))
        have ev52i : v52.toInt = (v51.toInt - 1) := i_sub ev52 rfl (by decide) (by omega) (by omega)
        refine q_goI (q_runV (As := [.int 0, .int v52]) (rest := []) E hC50 hS50 (m_X12_count l X Γ H50 hC50 h0 g0 0 (a1 := 0) (by decide) v52 (a2 := (v51.toInt - 1)) ev52i ca gca uc (by omega) (by omega) (by omega) (by omega)) cw_X12_count cl_RX12_248 g0 ⟨rfl, rfl⟩ rfl hl.1 rfl (Nat.zero_le _) (by decide) dX12_readPlace_60) hS50 (fun v53 H53 locs53 hr53 hC53 hS53 => ?_)
        obtain ⟨hp53, hr53⟩ := hr53
        have hKp53 := hKp50.tr (hp53.mono rfl)
        obtain ⟨f53_0, f53_1, f53_2, f53_3, f53_4, f53_5, f53_6, f53_7⟩ := hr53
        refine lv_istore hx hb dX12_readPlace_63 hl (by decide) rfl (fun ls hl => ?_)
        replace hl : lv_has ls 5 [(4, .int v53), (3, .int v24), (2, .int v21), (0, .ref h0), (1, .int p1)] := hl
        refine lv_bipush (v := 6) hx hb dX12_readPlace_65 rfl ?_
        refine lv_iload hx hb dX12_readPlace_67 (lv_at hl 0 rfl) ?_
        refine lv_imul hx hb dX12_readPlace_69 (lv_topi (fun v54 ev54 => ?_))
        have ev54i : v54.toInt = (6 * v53.toInt) := i_mul ev54 (by decide) rfl (by omega) (by omega)
        refine lv_iload_n hx hb dX12_readPlace_70 rfl (lv_at hl 1 rfl) ?_
        refine lv_iadd hx hb dX12_readPlace_71 (lv_topi (fun v55 ev55 => ?_))
        have ev55i : v55.toInt = ((6 * v53.toInt) + v24.toInt) := i_add ev55 ev54i rfl (by omega) (by omega)
        have hz8 := tk_nn (sI H53 h0 (X.1.2 11 14)).toInt
        have c56 : v55.toInt = ((6 * v53.toInt) + v24.toInt) := ev55i
        exact ret v55 H53 locs53 _ _ dX12_readPlace_72 ⟨hKp53, ⟨by omega, by omega, by omega, by omega, by omega, by omega⟩⟩ hC53 hS53
set_option maxRecDepth 100000 in
set_option maxHeartbeats 4000000 in
theorem m_X12_readSteal (l : Launch) (X : xW) (Γ : Nat → Option Nat) (H0 : Heap) (hC0 : Conf X Γ H0) (h0 : Nat) (g0 : Γ h0 = some 11) (p1 : Int32) {a1 : Int} (e1 : p1.toInt = a1) (ca : Nat) (gca : Γ ca = some 64) (uc : ∀ a, Γ a = some 64 → a = ca) (r0 : 2324 ≤ a1) (r1 : a1 ≤ 2585) : Ctr l X Γ yX12_readSteal cX12_readSteal 5 none 4 [.ref h0, .int p1] H0 (QV X Γ (fun H1 => Kp X Γ [1, 6, 7, 8, 9, 10, 11, 12, 14, 16, 17, 19, 22, 24, 26, 28] H0 H1 ∧ (((sI H0 h0 (X.1.2 11 16)).toInt ≤ (sI H1 h0 (X.1.2 11 16)).toInt) ∧ ((sI H0 h0 (X.1.2 11 16)).toInt < (sI H1 h0 (X.1.2 11 16)).toInt + tk (sI H1 h0 (X.1.2 11 14)).toInt + 2000 * (sI H1 h0 (X.1.2 11 12)).toInt) ∧ ((sI H0 h0 (X.1.2 11 12)).toInt ≤ 7 * (sI H1 h0 (X.1.2 11 12)).toInt) ∧ (0 ≤ (sI H1 h0 (X.1.2 11 12)).toInt) ∧ (KB H0 H1 ca (a1 + 1)) ∧ (0 ≤ (sI H1 ca (a1 + 1).toNat).toInt) ∧ ((sI H1 ca (a1 + 1).toNat).toInt ≤ 35) ∧ (0 ≤ (sI H1 ca (a1 + 2).toNat).toInt) ∧ ((sI H1 ca (a1 + 2).toNat).toInt ≤ 35) ∧ (0 ≤ (sI H1 ca (a1 + 3).toNat).toInt)))) := by
  refine q_enterV (own := "SnowFortsModel") (by decide) rfl (Nat.le_of_ble_eq_true rfl) ?_
  intro p e s m args below meth c ls Qz E hl ret hS0
  have hx := E.1; have hb := E.2.1
  have hKp0 : Kp X Γ [1, 6, 7, 8, 9, 10, 11, 12, 14, 16, 17, 19, 22, 24, 26, 28] H0 H0 := Kp.rf
  have hl : lv_has ls 5 [(0, .ref h0), (1, .int p1)] := hl
  have hz1 := f_bd hC0 g0 (ci := 11) (k := 16) rfl rfl
  have hz2 := f_bd hC0 g0 (ci := 11) (k := 12) rfl rfl
  have kb : KB H0 H0 ca (a1 + 1) := KB.rf
  refine lv_aload_n hx hb dX12_readSteal_0 rfl (lv_at hl 0 rfl) ?_
  refine q_getC E hC0 g0 fa_RX12_35 uc dX12_readSteal_1 ?_
  refine lv_iload_n hx hb dX12_readSteal_4 rfl (lv_at hl 1 rfl) ?_
  refine lv_iconst (v := 1) hx hb dX12_readSteal_5 rfl ?_
  refine lv_iadd hx hb dX12_readSteal_6 (lv_topi (fun v21 ev21 => ?_))
  have ev21i : v21.toInt = (a1 + 1) := i_add ev21 e1 (by decide) (by omega) (by omega)
  refine lv_aload_n hx hb dX12_readSteal_7 rfl (lv_at hl 0 rfl) ?_
  refine lv_iconst (v := 1) hx hb dX12_readSteal_8 rfl ?_
  refine q_goI (q_runV (As := [.int 1]) (rest := [.int v21, .ref ca]) E hC0 hS0 (m_X12_readPlace l X Γ H0 hC0 h0 g0 1 (a1 := 1) (by decide) ca gca uc) cw_X12_readPlace cl_RX12_273 g0 ⟨rfl, rfl⟩ rfl hl.1 rfl (show _ ≤ _ from by simp [Value.category]) (by decide) dX12_readSteal_9) hS0 (fun v22 H22 locs22 hr22 hC22 hS22 => ?_)
  obtain ⟨hp22, hr22⟩ := hr22
  have hKp22 := hKp0.tr (hp22.mono rfl)
  replace kb : KB H0 H22 ca (a1 + 1) := KB.kp kb hp22 gca rfl
  obtain ⟨f22_0, f22_1, f22_2, f22_3, f22_4, f22_5⟩ := hr22
  refine q_cast E hC22 hS22 gca (a := (a1 + 1)) ev21i (by omega) (by omega) (cs_n244 (a := (a1 + 1)) (by omega) (by omega)) dX12_readSteal_12 (fun H23 locs23 hC23 hS23 U23 => ?_)
  have hKp23 := Kp.upD gca rfl rfl (fun _ => ⟨fun _ => nd4 (by omega) (by omega), fun _ => by unfold dpu; omega, fun _ => by unfold dpn; omega⟩) U23 hKp22
  replace kb : KB H0 H23 ca (a1 + 1) := KB.up kb U23 (by omega)
  have m24 : (sI H23 h0 (X.1.2 11 12)).toInt = (sI H22 h0 (X.1.2 11 12)).toInt := congrArg Int32.toInt (up_nI U23 (ne_k g0 gca (by decide)))
  have m25 : (sI H23 h0 (X.1.2 11 14)).toInt = (sI H22 h0 (X.1.2 11 14)).toInt := congrArg Int32.toInt (up_nI U23 (ne_k g0 gca (by decide)))
  have m26 := congrArg tk m25
  have m27 : (sI H23 h0 (X.1.2 11 16)).toInt = (sI H22 h0 (X.1.2 11 16)).toInt := congrArg Int32.toInt (up_nI U23 (ne_k g0 gca (by decide)))
  have e28 := up_I U23
  refine lv_aload_n hx hb dX12_readSteal_13 rfl (lv_at hl 0 rfl) ?_
  refine lv_aload_n hx hb dX12_readSteal_14 rfl (lv_at hl 0 rfl) ?_
  refine q_goIp (q_runV (As := []) (rest := [.ref h0]) E hC23 hS23 (m_X12_isFrom l X Γ H23 hC23 h0 g0 ca gca uc) cw_X12_isFrom cl_RX12_205 g0 ⟨rfl, rfl⟩ rfl hl.1 rfl (show _ ≤ _ from by simp [Value.category]) (by decide) dX12_readSteal_15) hS23 (fun v29 locs29 hr29 hS29 => ?_)
  have b29 : v29.toInt = 0 ∨ v29.toInt = 1 := hr29.imp (fun h => by rw [h]; decide) (fun h => by rw [h]; decide)
  refine q_goV (q_runV (As := [.int v29]) (rest := []) E hC23 hS29 (m_X12_must l X Γ H23 hC23 h0 g0 v29 (a1 := v29.toInt) rfl ca gca uc (by omega) (by omega)) cw_X12_must cl_RX12_244 g0 ⟨rfl, rfl⟩ rfl hl.1 rfl (Nat.zero_le _) (by decide) dX12_readSteal_18) hS29 (fun H30 locs30 hr30 hC30 hS30 => ?_)
  obtain ⟨hp30, hr30⟩ := hr30
  have hKp30 := hKp23.tr (hp30.mono rfl)
  replace kb : KB H0 H30 ca (a1 + 1) := KB.kp kb hp30 gca rfl
  obtain ⟨f30_0, f30_1, f30_2, f30_3, f30_4⟩ := hr30
  refine lv_aload_n hx hb dX12_readSteal_21 rfl (lv_at hl 0 rfl) ?_
  refine lv_iconst (v := 0) hx hb dX12_readSteal_22 rfl ?_
  refine lv_aload_n hx hb dX12_readSteal_23 rfl (lv_at hl 0 rfl) ?_
  refine q_getC E hC30 g0 fa_RX12_35 uc dX12_readSteal_24 ?_
  refine lv_iconst (v := 0) hx hb dX12_readSteal_27 rfl ?_
  refine q_cald E hC30 (lo := 0) (hi := 6) gca (a := 0) (show (0 : Int32).toInt = 0 from by decide) (by omega) (by omega) (cr_c0 (by omega) (by omega)) dX12_readSteal_28 (fun v31 ev31 lv31 uv31 => ?_)
  have m32 : (sI H30 ca (0 : Int).toNat).toInt = v31.toInt := congrArg Int32.toInt ev31
  refine lv_iconst (v := 1) hx hb dX12_readSteal_29 rfl ?_
  refine lv_isub hx hb dX12_readSteal_30 (lv_topi (fun v33 ev33 => ?_))
  have ev33i : v33.toInt = (v31.toInt - 1) := i_sub ev33 rfl (by decide) (by omega) (by omega)
  refine q_goI (q_runV (As := [.int 0, .int v33]) (rest := []) E hC30 hS30 (m_X12_count l X Γ H30 hC30 h0 g0 0 (a1 := 0) (by decide) v33 (a2 := (v31.toInt - 1)) ev33i ca gca uc (by omega) (by omega) (by omega) (by omega)) cw_X12_count cl_RX12_248 g0 ⟨rfl, rfl⟩ rfl hl.1 rfl (Nat.zero_le _) (by decide) dX12_readSteal_31) hS30 (fun v34 H34 locs34 hr34 hC34 hS34 => ?_)
  obtain ⟨hp34, hr34⟩ := hr34
  have hKp34 := hKp30.tr (hp34.mono rfl)
  replace kb : KB H0 H34 ca (a1 + 1) := KB.kp kb hp34 gca rfl
  obtain ⟨f34_0, f34_1, f34_2, f34_3, f34_4, f34_5, f34_6, f34_7⟩ := hr34
  refine lv_istore_n hx hb dX12_readSteal_34 rfl hl (by decide) rfl (fun ls hl => ?_)
  replace hl : lv_has ls 5 [(2, .int v34), (0, .ref h0), (1, .int p1)] := hl
  refine lv_aload_n hx hb dX12_readSteal_35 rfl (lv_at hl 1 rfl) ?_
  refine q_getI E hC34 g0 fa_RX12_114 dX12_readSteal_36 (fun v35 ev35 lv35 uv35 => ?_)
  refine lv_istore_n hx hb dX12_readSteal_39 rfl hl (by decide) rfl (fun ls hl => ?_)
  replace hl : lv_has ls 5 [(3, .int v35), (2, .int v34), (0, .ref h0), (1, .int p1)] := hl
  refine lv_aload_n hx hb dX12_readSteal_40 rfl (lv_at hl 2 rfl) ?_
  refine lv_iconst (v := 0) hx hb dX12_readSteal_41 rfl ?_
  refine lv_aload_n hx hb dX12_readSteal_42 rfl (lv_at hl 2 rfl) ?_
  refine q_getC E hC34 g0 fa_RX12_35 uc dX12_readSteal_43 ?_
  refine lv_iconst (v := 1) hx hb dX12_readSteal_46 rfl ?_
  refine q_cald E hC34 (lo := 0) (hi := 6) gca (a := 1) (show (1 : Int32).toInt = 1 from by decide) (by omega) (by omega) (cr_c0 (by omega) (by omega)) dX12_readSteal_47 (fun v36 ev36 lv36 uv36 => ?_)
  have m37 : (sI H34 ca (1 : Int).toNat).toInt = v36.toInt := congrArg Int32.toInt ev36
  refine lv_iconst (v := 1) hx hb dX12_readSteal_48 rfl ?_
  refine lv_isub hx hb dX12_readSteal_49 (lv_topi (fun v38 ev38 => ?_))
  have ev38i : v38.toInt = (v36.toInt - 1) := i_sub ev38 rfl (by decide) (by omega) (by omega)
  refine q_goI (q_runV (As := [.int 0, .int v38]) (rest := []) E hC34 hS34 (m_X12_count l X Γ H34 hC34 h0 g0 0 (a1 := 0) (by decide) v38 (a2 := (v36.toInt - 1)) ev38i ca gca uc (by omega) (by omega) (by omega) (by omega)) cw_X12_count cl_RX12_248 g0 ⟨rfl, rfl⟩ rfl hl.1 rfl (Nat.zero_le _) (by decide) dX12_readSteal_50) hS34 (fun v39 H39 locs39 hr39 hC39 hS39 => ?_)
  obtain ⟨hp39, hr39⟩ := hr39
  have hKp39 := hKp34.tr (hp39.mono rfl)
  replace kb : KB H0 H39 ca (a1 + 1) := KB.kp kb hp39 gca rfl
  obtain ⟨f39_0, f39_1, f39_2, f39_3, f39_4, f39_5, f39_6, f39_7⟩ := hr39
  refine lv_istore hx hb dX12_readSteal_53 hl (by decide) rfl (fun ls hl => ?_)
  replace hl : lv_has ls 5 [(4, .int v39), (3, .int v35), (2, .int v34), (0, .ref h0), (1, .int p1)] := hl
  refine lv_aload_n hx hb dX12_readSteal_55 rfl (lv_at hl 3 rfl) ?_
  refine q_getI E hC39 g0 fa_RX12_218 dX12_readSteal_56 (fun v40 ev40 lv40 uv40 => ?_)
  have m41 : (sI H39 h0 (X.1.2 11 12)).toInt = v40.toInt := (congrArg Int32.toInt ev40).trans rfl
  refine q_if_ne hx hb (a := v40.toInt) rfl (tgt := 91) dX12_readSteal_59 rfl (fun c42 => ?_) (fun c42 => ?_)
  · refine lv_aload_n hx hb dX12_readSteal_91 rfl (lv_at hl 3 rfl) ?_
    refine q_getC E hC39 g0 fa_RX12_35 uc dX12_readSteal_92 ?_
    refine lv_iload_n hx hb dX12_readSteal_95 rfl (lv_at hl 4 rfl) ?_
    refine lv_iconst (v := 2) hx hb dX12_readSteal_96 rfl ?_
    refine lv_iadd hx hb dX12_readSteal_97 (lv_topi (fun v43 ev43 => ?_))
    have ev43i : v43.toInt = (a1 + 2) := i_add ev43 e1 (by decide) (by omega) (by omega)
    refine lv_bipush (v := 6) hx hb dX12_readSteal_98 rfl ?_
    refine lv_iload hx hb dX12_readSteal_100 (lv_at hl 0 rfl) ?_
    refine lv_imul hx hb dX12_readSteal_102 (lv_topi (fun v44 ev44 => ?_))
    have ev44i : v44.toInt = (6 * v39.toInt) := i_mul ev44 (by decide) rfl (by omega) (by omega)
    refine lv_iload_n hx hb dX12_readSteal_103 rfl (lv_at hl 2 rfl) ?_
    refine lv_iadd hx hb dX12_readSteal_104 (lv_topi (fun v45 ev45 => ?_))
    have ev45i : v45.toInt = ((6 * v39.toInt) + v34.toInt) := i_add ev45 ev44i rfl (by omega) (by omega)
    refine q_cast E hC39 hS39 gca (a := (a1 + 2)) ev43i (by omega) (by omega) (cs_n244 (a := (a1 + 2)) (by omega) (by omega)) dX12_readSteal_105 (fun H46 locs46 hC46 hS46 U46 => ?_)
    have hKp46 := Kp.upD gca rfl rfl (fun _ => ⟨fun _ => nd4 (by omega) (by omega), fun _ => by unfold dpu; omega, fun _ => by unfold dpn; omega⟩) U46 hKp39
    replace kb : KB H0 H46 ca (a1 + 1) := KB.up kb U46 (by omega)
    have m47 : (sI H46 h0 (X.1.2 11 12)).toInt = (sI H39 h0 (X.1.2 11 12)).toInt := congrArg Int32.toInt (up_nI U46 (ne_k g0 gca (by decide)))
    have m48 : (sI H46 h0 (X.1.2 11 14)).toInt = (sI H39 h0 (X.1.2 11 14)).toInt := congrArg Int32.toInt (up_nI U46 (ne_k g0 gca (by decide)))
    have m49 := congrArg tk m48
    have m50 : (sI H46 h0 (X.1.2 11 16)).toInt = (sI H39 h0 (X.1.2 11 16)).toInt := congrArg Int32.toInt (up_nI U46 (ne_k g0 gca (by decide)))
    have e51 := up_I U46
    refine lv_aload_n hx hb dX12_readSteal_106 rfl (lv_at hl 3 rfl) ?_
    refine lv_aload_n hx hb dX12_readSteal_107 rfl (lv_at hl 3 rfl) ?_
    refine q_goIp (q_runV (As := []) (rest := [.ref h0]) E hC46 hS46 (m_X12_isBy l X Γ H46 hC46 h0 g0 ca gca uc) cw_X12_isBy cl_RX12_190 g0 ⟨rfl, rfl⟩ rfl hl.1 rfl (show _ ≤ _ from by simp [Value.category]) (by decide) dX12_readSteal_108) hS46 (fun v52 locs52 hr52 hS52 => ?_)
    have b52 : v52.toInt = 0 ∨ v52.toInt = 1 := hr52.imp (fun h => by rw [h]; decide) (fun h => by rw [h]; decide)
    refine q_goV (q_runV (As := [.int v52]) (rest := []) E hC46 hS52 (m_X12_must l X Γ H46 hC46 h0 g0 v52 (a1 := v52.toInt) rfl ca gca uc (by omega) (by omega)) cw_X12_must cl_RX12_244 g0 ⟨rfl, rfl⟩ rfl hl.1 rfl (Nat.zero_le _) (by decide) dX12_readSteal_111) hS52 (fun H53 locs53 hr53 hC53 hS53 => ?_)
    obtain ⟨hp53, hr53⟩ := hr53
    have hKp53 := hKp46.tr (hp53.mono rfl)
    replace kb : KB H0 H53 ca (a1 + 1) := KB.kp kb hp53 gca rfl
    obtain ⟨f53_0, f53_1, f53_2, f53_3, f53_4⟩ := hr53
    refine lv_aload_n hx hb dX12_readSteal_114 rfl (lv_at hl 3 rfl) ?_
    refine q_getC E hC53 g0 fa_RX12_35 uc dX12_readSteal_115 ?_
    refine lv_iload_n hx hb dX12_readSteal_118 rfl (lv_at hl 4 rfl) ?_
    refine lv_iconst (v := 3) hx hb dX12_readSteal_119 rfl ?_
    refine lv_iadd hx hb dX12_readSteal_120 (lv_topi (fun v54 ev54 => ?_))
    have ev54i : v54.toInt = (a1 + 3) := i_add ev54 e1 (by decide) (by omega) (by omega)
    refine lv_aload_n hx hb dX12_readSteal_121 rfl (lv_at hl 3 rfl) ?_
    refine lv_iconst (v := 1) hx hb dX12_readSteal_122 rfl ?_
    refine lv_bipush (v := 40) hx hb dX12_readSteal_123 rfl ?_
    refine q_goI (q_runV (As := [.int 1, .int 40]) (rest := [.int v54, .ref ca]) E hC53 hS53 (m_X12_count l X Γ H53 hC53 h0 g0 1 (a1 := 1) (by decide) 40 (a2 := 40) (by decide) ca gca uc (by omega) (by omega) (by omega) (by omega)) cw_X12_count cl_RX12_248 g0 ⟨rfl, rfl⟩ rfl hl.1 rfl (show _ ≤ _ from by simp [Value.category]) (by decide) dX12_readSteal_125) hS53 (fun v55 H55 locs55 hr55 hC55 hS55 => ?_)
    obtain ⟨hp55, hr55⟩ := hr55
    have hKp55 := hKp53.tr (hp55.mono rfl)
    replace kb : KB H0 H55 ca (a1 + 1) := KB.kp kb hp55 gca rfl
    obtain ⟨f55_0, f55_1, f55_2, f55_3, f55_4, f55_5, f55_6, f55_7⟩ := hr55
    refine q_cast E hC55 hS55 gca (a := (a1 + 3)) ev54i (by omega) (by omega) (cs_n244 (a := (a1 + 3)) (by omega) (by omega)) dX12_readSteal_128 (fun H56 locs56 hC56 hS56 U56 => ?_)
    have hKp56 := Kp.upD gca rfl rfl (fun _ => ⟨fun _ => nd4 (by omega) (by omega), fun _ => by unfold dpu; omega, fun _ => by unfold dpn; omega⟩) U56 hKp55
    replace kb : KB H0 H56 ca (a1 + 1) := KB.up kb U56 (by omega)
    have m57 : (sI H56 h0 (X.1.2 11 12)).toInt = (sI H55 h0 (X.1.2 11 12)).toInt := congrArg Int32.toInt (up_nI U56 (ne_k g0 gca (by decide)))
    have m58 : (sI H56 h0 (X.1.2 11 14)).toInt = (sI H55 h0 (X.1.2 11 14)).toInt := congrArg Int32.toInt (up_nI U56 (ne_k g0 gca (by decide)))
    have m59 := congrArg tk m58
    have m60 : (sI H56 h0 (X.1.2 11 16)).toInt = (sI H55 h0 (X.1.2 11 16)).toInt := congrArg Int32.toInt (up_nI U56 (ne_k g0 gca (by decide)))
    have e61 := up_I U56
    have e62 := (kp_c (j := ((a1 + 1) : Int).toNat) hp30 gca rfl).trans e28
    have e63 := (kp_c (j := ((a1 + 1) : Int).toNat) hp34 gca rfl).trans e62
    have e64 := (kp_c (j := ((a1 + 1) : Int).toNat) hp39 gca rfl).trans e63
    have e65 := (up_nI (a' := ca) (j' := ((a1 + 1) : Int).toNat) U46 (fun h => by have h2 := h.2; omega)).trans e64
    have e66 := (kp_c (j := ((a1 + 1) : Int).toNat) hp53 gca rfl).trans e65
    have e67 := (kp_c (j := ((a1 + 1) : Int).toNat) hp55 gca rfl).trans e66
    have e68 := (up_nI (a' := ca) (j' := ((a1 + 1) : Int).toNat) U56 (fun h => by have h2 := h.2; omega)).trans e67
    have m69 : (sI H56 ca ((a1 + 1)).toNat).toInt = v22.toInt := (congrArg Int32.toInt e68).trans rfl
    have e70 := (kp_c (j := ((a1 + 2) : Int).toNat) hp53 gca rfl).trans e51
    have e71 := (kp_c (j := ((a1 + 2) : Int).toNat) hp55 gca rfl).trans e70
    have e72 := (up_nI (a' := ca) (j' := ((a1 + 2) : Int).toNat) U56 (fun h => by have h2 := h.2; omega)).trans e71
    have m73 : (sI H56 ca ((a1 + 2)).toNat).toInt = ((6 * v39.toInt) + v34.toInt) := (congrArg Int32.toInt e72).trans ev45i
    have m74 : (sI H56 ca ((a1 + 3)).toNat).toInt = v55.toInt := (congrArg Int32.toInt e61).trans rfl
    have hz8 := tk_nn (sI H56 h0 (X.1.2 11 14)).toInt
    exact ret H56 locs56 _ _ dX12_readSteal_129 ⟨hKp56, ⟨by omega, by omega, by omega, by omega, kb, by omega, by omega, by omega, by omega, by omega⟩⟩ hC56 hS56
  · refine lv_aload_n hx hb dX12_readSteal_62 rfl (lv_at hl 3 rfl) ?_
    refine lv_iload_n hx hb dX12_readSteal_63 rfl (lv_at hl 2 rfl) ?_
    refine q_goIp (q_runV (As := [.int v34]) (rest := []) E hC39 hS39 (m_X12_halfOf l X Γ H39 hC39 h0 g0 v34 (a1 := v34.toInt) rfl ca gca uc) cw_X12_halfOf cl_RX12_270 g0 ⟨rfl, rfl⟩ rfl hl.1 rfl (Nat.zero_le _) (by decide) dX12_readSteal_64) hS39 (fun v75 locs75 hr75 hS75 => ?_)
    obtain ⟨f75_0, f75_1⟩ := hr75
    refine lv_aload_n hx hb dX12_readSteal_67 rfl (lv_at hl 3 rfl) ?_
    refine lv_aload_n hx hb dX12_readSteal_68 rfl (lv_at hl 3 rfl) ?_
    refine q_getC E hC39 g0 fa_RX12_35 uc dX12_readSteal_69 ?_
    refine lv_iload_n hx hb dX12_readSteal_72 rfl (lv_at hl 4 rfl) ?_
    refine lv_iconst (v := 1) hx hb dX12_readSteal_73 rfl ?_
    refine lv_iadd hx hb dX12_readSteal_74 (lv_topi (fun v76 ev76 => ?_))
    have ev76i : v76.toInt = (a1 + 1) := i_add ev76 e1 (by decide) (by omega) (by omega)
    have e78 := (kp_c (j := ((a1 + 1) : Int).toNat) hp30 gca rfl).trans e28
    have e79 := (kp_c (j := ((a1 + 1) : Int).toNat) hp34 gca rfl).trans e78
    have e80 := (kp_c (j := ((a1 + 1) : Int).toNat) hp39 gca rfl).trans e79
    refine q_cald E hC39 (lo := -2147483648) (hi := 2147483647) gca (a := (a1 + 1)) ev76i (by omega) (by omega) (cr_n244 (by omega) (by omega)) dX12_readSteal_75 (fun v77 ev77 _ _ => ?_)
    have qv77 := e80.symm.trans ev77; subst qv77
    refine lv_bipush (v := 6) hx hb dX12_readSteal_76 rfl ?_
    refine lv_irem hx hb dX12_readSteal_78 (by decide) (lv_topi (fun v81 ev81 => ?_))
    have ev81i : v81.toInt = (v22.toInt % 6) := i_rem ev81 rfl (by decide) (by omega) (by decide)
    refine q_goIp (q_runV (As := [.int v81]) (rest := [.int v75]) E hC39 hS75 (m_X12_halfOf l X Γ H39 hC39 h0 g0 v81 (a1 := (v22.toInt % 6)) ev81i ca gca uc) cw_X12_halfOf cl_RX12_270 g0 ⟨rfl, rfl⟩ rfl hl.1 rfl (show _ ≤ _ from by simp [Value.category]) (by decide) dX12_readSteal_79) hS75 (fun v82 locs82 hr82 hS82 => ?_)
    obtain ⟨f82_0, f82_1⟩ := hr82
    refine q_icmp_ne hx hb (a := v75.toInt) (b := v82.toInt) rfl rfl (tgt := 91) dX12_readSteal_82 rfl (fun c83 => ?_) (fun c83 => ?_)
    · refine lv_aload_n hx hb dX12_readSteal_91 rfl (lv_at hl 3 rfl) ?_
      refine q_getC E hC39 g0 fa_RX12_35 uc dX12_readSteal_92 ?_
      refine lv_iload_n hx hb dX12_readSteal_95 rfl (lv_at hl 4 rfl) ?_
      refine lv_iconst (v := 2) hx hb dX12_readSteal_96 rfl ?_
      refine lv_iadd hx hb dX12_readSteal_97 (lv_topi (fun v84 ev84 => ?_))
      have ev84i : v84.toInt = (a1 + 2) := i_add ev84 e1 (by decide) (by omega) (by omega)
      refine lv_bipush (v := 6) hx hb dX12_readSteal_98 rfl ?_
      refine lv_iload hx hb dX12_readSteal_100 (lv_at hl 0 rfl) ?_
      refine lv_imul hx hb dX12_readSteal_102 (lv_topi (fun v85 ev85 => ?_))
      have ev85i : v85.toInt = (6 * v39.toInt) := i_mul ev85 (by decide) rfl (by omega) (by omega)
      refine lv_iload_n hx hb dX12_readSteal_103 rfl (lv_at hl 2 rfl) ?_
      refine lv_iadd hx hb dX12_readSteal_104 (lv_topi (fun v86 ev86 => ?_))
      have ev86i : v86.toInt = ((6 * v39.toInt) + v34.toInt) := i_add ev86 ev85i rfl (by omega) (by omega)
      refine q_cast E hC39 hS82 gca (a := (a1 + 2)) ev84i (by omega) (by omega) (cs_n244 (a := (a1 + 2)) (by omega) (by omega)) dX12_readSteal_105 (fun H87 locs87 hC87 hS87 U87 => ?_)
      have hKp87 := Kp.upD gca rfl rfl (fun _ => ⟨fun _ => nd4 (by omega) (by omega), fun _ => by unfold dpu; omega, fun _ => by unfold dpn; omega⟩) U87 hKp39
      replace kb : KB H0 H87 ca (a1 + 1) := KB.up kb U87 (by omega)
      have m88 : (sI H87 h0 (X.1.2 11 12)).toInt = (sI H39 h0 (X.1.2 11 12)).toInt := congrArg Int32.toInt (up_nI U87 (ne_k g0 gca (by decide)))
      have m89 : (sI H87 h0 (X.1.2 11 14)).toInt = (sI H39 h0 (X.1.2 11 14)).toInt := congrArg Int32.toInt (up_nI U87 (ne_k g0 gca (by decide)))
      have m90 := congrArg tk m89
      have m91 : (sI H87 h0 (X.1.2 11 16)).toInt = (sI H39 h0 (X.1.2 11 16)).toInt := congrArg Int32.toInt (up_nI U87 (ne_k g0 gca (by decide)))
      have e92 := up_I U87
      refine lv_aload_n hx hb dX12_readSteal_106 rfl (lv_at hl 3 rfl) ?_
      refine lv_aload_n hx hb dX12_readSteal_107 rfl (lv_at hl 3 rfl) ?_
      refine q_goIp (q_runV (As := []) (rest := [.ref h0]) E hC87 hS87 (m_X12_isBy l X Γ H87 hC87 h0 g0 ca gca uc) cw_X12_isBy cl_RX12_190 g0 ⟨rfl, rfl⟩ rfl hl.1 rfl (show _ ≤ _ from by simp [Value.category]) (by decide) dX12_readSteal_108) hS87 (fun v93 locs93 hr93 hS93 => ?_)
      have b93 : v93.toInt = 0 ∨ v93.toInt = 1 := hr93.imp (fun h => by rw [h]; decide) (fun h => by rw [h]; decide)
      refine q_goV (q_runV (As := [.int v93]) (rest := []) E hC87 hS93 (m_X12_must l X Γ H87 hC87 h0 g0 v93 (a1 := v93.toInt) rfl ca gca uc (by omega) (by omega)) cw_X12_must cl_RX12_244 g0 ⟨rfl, rfl⟩ rfl hl.1 rfl (Nat.zero_le _) (by decide) dX12_readSteal_111) hS93 (fun H94 locs94 hr94 hC94 hS94 => ?_)
      obtain ⟨hp94, hr94⟩ := hr94
      have hKp94 := hKp87.tr (hp94.mono rfl)
      replace kb : KB H0 H94 ca (a1 + 1) := KB.kp kb hp94 gca rfl
      obtain ⟨f94_0, f94_1, f94_2, f94_3, f94_4⟩ := hr94
      refine lv_aload_n hx hb dX12_readSteal_114 rfl (lv_at hl 3 rfl) ?_
      refine q_getC E hC94 g0 fa_RX12_35 uc dX12_readSteal_115 ?_
      refine lv_iload_n hx hb dX12_readSteal_118 rfl (lv_at hl 4 rfl) ?_
      refine lv_iconst (v := 3) hx hb dX12_readSteal_119 rfl ?_
      refine lv_iadd hx hb dX12_readSteal_120 (lv_topi (fun v95 ev95 => ?_))
      have ev95i : v95.toInt = (a1 + 3) := i_add ev95 e1 (by decide) (by omega) (by omega)
      refine lv_aload_n hx hb dX12_readSteal_121 rfl (lv_at hl 3 rfl) ?_
      refine lv_iconst (v := 1) hx hb dX12_readSteal_122 rfl ?_
      refine lv_bipush (v := 40) hx hb dX12_readSteal_123 rfl ?_
      refine q_goI (q_runV (As := [.int 1, .int 40]) (rest := [.int v95, .ref ca]) E hC94 hS94 (m_X12_count l X Γ H94 hC94 h0 g0 1 (a1 := 1) (by decide) 40 (a2 := 40) (by decide) ca gca uc (by omega) (by omega) (by omega) (by omega)) cw_X12_count cl_RX12_248 g0 ⟨rfl, rfl⟩ rfl hl.1 rfl (show _ ≤ _ from by simp [Value.category]) (by decide) dX12_readSteal_125) hS94 (fun v96 H96 locs96 hr96 hC96 hS96 => ?_)
      obtain ⟨hp96, hr96⟩ := hr96
      have hKp96 := hKp94.tr (hp96.mono rfl)
      replace kb : KB H0 H96 ca (a1 + 1) := KB.kp kb hp96 gca rfl
      obtain ⟨f96_0, f96_1, f96_2, f96_3, f96_4, f96_5, f96_6, f96_7⟩ := hr96
      refine q_cast E hC96 hS96 gca (a := (a1 + 3)) ev95i (by omega) (by omega) (cs_n244 (a := (a1 + 3)) (by omega) (by omega)) dX12_readSteal_128 (fun H97 locs97 hC97 hS97 U97 => ?_)
      have hKp97 := Kp.upD gca rfl rfl (fun _ => ⟨fun _ => nd4 (by omega) (by omega), fun _ => by unfold dpu; omega, fun _ => by unfold dpn; omega⟩) U97 hKp96
      replace kb : KB H0 H97 ca (a1 + 1) := KB.up kb U97 (by omega)
      have m98 : (sI H97 h0 (X.1.2 11 12)).toInt = (sI H96 h0 (X.1.2 11 12)).toInt := congrArg Int32.toInt (up_nI U97 (ne_k g0 gca (by decide)))
      have m99 : (sI H97 h0 (X.1.2 11 14)).toInt = (sI H96 h0 (X.1.2 11 14)).toInt := congrArg Int32.toInt (up_nI U97 (ne_k g0 gca (by decide)))
      have m100 := congrArg tk m99
      have m101 : (sI H97 h0 (X.1.2 11 16)).toInt = (sI H96 h0 (X.1.2 11 16)).toInt := congrArg Int32.toInt (up_nI U97 (ne_k g0 gca (by decide)))
      have e102 := up_I U97
      have e103 := (up_nI (a' := ca) (j' := ((a1 + 1) : Int).toNat) U87 (fun h => by have h2 := h.2; omega)).trans e80
      have e104 := (kp_c (j := ((a1 + 1) : Int).toNat) hp94 gca rfl).trans e103
      have e105 := (kp_c (j := ((a1 + 1) : Int).toNat) hp96 gca rfl).trans e104
      have e106 := (up_nI (a' := ca) (j' := ((a1 + 1) : Int).toNat) U97 (fun h => by have h2 := h.2; omega)).trans e105
      have m107 : (sI H97 ca ((a1 + 1)).toNat).toInt = v22.toInt := (congrArg Int32.toInt e106).trans rfl
      have e108 := (kp_c (j := ((a1 + 2) : Int).toNat) hp94 gca rfl).trans e92
      have e109 := (kp_c (j := ((a1 + 2) : Int).toNat) hp96 gca rfl).trans e108
      have e110 := (up_nI (a' := ca) (j' := ((a1 + 2) : Int).toNat) U97 (fun h => by have h2 := h.2; omega)).trans e109
      have m111 : (sI H97 ca ((a1 + 2)).toNat).toInt = ((6 * v39.toInt) + v34.toInt) := (congrArg Int32.toInt e110).trans ev86i
      have m112 : (sI H97 ca ((a1 + 3)).toNat).toInt = v96.toInt := (congrArg Int32.toInt e102).trans rfl
      have hz8 := tk_nn (sI H97 h0 (X.1.2 11 14)).toInt
      exact ret H97 locs97 _ _ dX12_readSteal_129 ⟨hKp97, ⟨by omega, by omega, by omega, by omega, kb, by omega, by omega, by omega, by omega, by omega⟩⟩ hC97 hS97
    · refine lv_aload_n hx hb dX12_readSteal_85 rfl (lv_at hl 3 rfl) ?_
      refine lv_iconst (v := 4) hx hb dX12_readSteal_86 rfl ?_
      refine lv_iload_n hx hb dX12_readSteal_87 rfl (lv_at hl 1 rfl) ?_
      refine q_goV (q_runV (As := [.int 4, .int v35]) (rest := []) E hC39 hS82 (m_X12_fail l X Γ H39 hC39 h0 g0 4 (a1 := 4) (by decide) v35 (a2 := v35.toInt) rfl ca gca uc (by omega) (by omega)) cw_X12_fail cl_RX12_224 g0 ⟨rfl, rfl⟩ rfl hl.1 rfl (Nat.zero_le _) (by decide) dX12_readSteal_88) hS82 (fun H113 locs113 hr113 hC113 hS113 => ?_)
      obtain ⟨hp113, hr113⟩ := hr113
      have hKp113 := hKp39.tr (hp113.mono rfl)
      replace kb : KB H0 H113 ca (a1 + 1) := KB.kp kb hp113 gca rfl
      obtain ⟨f113_0, f113_1, f113_2, f113_3⟩ := hr113
      refine lv_aload_n hx hb dX12_readSteal_91 rfl (lv_at hl 3 rfl) ?_
      refine q_getC E hC113 g0 fa_RX12_35 uc dX12_readSteal_92 ?_
      refine lv_iload_n hx hb dX12_readSteal_95 rfl (lv_at hl 4 rfl) ?_
      refine lv_iconst (v := 2) hx hb dX12_readSteal_96 rfl ?_
      refine lv_iadd hx hb dX12_readSteal_97 (lv_topi (fun v114 ev114 => ?_))
      have ev114i : v114.toInt = (a1 + 2) := i_add ev114 e1 (by decide) (by omega) (by omega)
      refine lv_bipush (v := 6) hx hb dX12_readSteal_98 rfl ?_
      refine lv_iload hx hb dX12_readSteal_100 (lv_at hl 0 rfl) ?_
      refine lv_imul hx hb dX12_readSteal_102 (lv_topi (fun v115 ev115 => ?_))
      have ev115i : v115.toInt = (6 * v39.toInt) := i_mul ev115 (by decide) rfl (by omega) (by omega)
      refine lv_iload_n hx hb dX12_readSteal_103 rfl (lv_at hl 2 rfl) ?_
      refine lv_iadd hx hb dX12_readSteal_104 (lv_topi (fun v116 ev116 => ?_))
      have ev116i : v116.toInt = ((6 * v39.toInt) + v34.toInt) := i_add ev116 ev115i rfl (by omega) (by omega)
      refine q_cast E hC113 hS113 gca (a := (a1 + 2)) ev114i (by omega) (by omega) (cs_n244 (a := (a1 + 2)) (by omega) (by omega)) dX12_readSteal_105 (fun H117 locs117 hC117 hS117 U117 => ?_)
      have hKp117 := Kp.upD gca rfl rfl (fun _ => ⟨fun _ => nd4 (by omega) (by omega), fun _ => by unfold dpu; omega, fun _ => by unfold dpn; omega⟩) U117 hKp113
      replace kb : KB H0 H117 ca (a1 + 1) := KB.up kb U117 (by omega)
      have m118 : (sI H117 h0 (X.1.2 11 12)).toInt = (sI H113 h0 (X.1.2 11 12)).toInt := congrArg Int32.toInt (up_nI U117 (ne_k g0 gca (by decide)))
      have m119 : (sI H117 h0 (X.1.2 11 14)).toInt = (sI H113 h0 (X.1.2 11 14)).toInt := congrArg Int32.toInt (up_nI U117 (ne_k g0 gca (by decide)))
      have m120 := congrArg tk m119
      have m121 : (sI H117 h0 (X.1.2 11 16)).toInt = (sI H113 h0 (X.1.2 11 16)).toInt := congrArg Int32.toInt (up_nI U117 (ne_k g0 gca (by decide)))
      have e122 := up_I U117
      refine lv_aload_n hx hb dX12_readSteal_106 rfl (lv_at hl 3 rfl) ?_
      refine lv_aload_n hx hb dX12_readSteal_107 rfl (lv_at hl 3 rfl) ?_
      refine q_goIp (q_runV (As := []) (rest := [.ref h0]) E hC117 hS117 (m_X12_isBy l X Γ H117 hC117 h0 g0 ca gca uc) cw_X12_isBy cl_RX12_190 g0 ⟨rfl, rfl⟩ rfl hl.1 rfl (show _ ≤ _ from by simp [Value.category]) (by decide) dX12_readSteal_108) hS117 (fun v123 locs123 hr123 hS123 => ?_)
      have b123 : v123.toInt = 0 ∨ v123.toInt = 1 := hr123.imp (fun h => by rw [h]; decide) (fun h => by rw [h]; decide)
      refine q_goV (q_runV (As := [.int v123]) (rest := []) E hC117 hS123 (m_X12_must l X Γ H117 hC117 h0 g0 v123 (a1 := v123.toInt) rfl ca gca uc (by omega) (by omega)) cw_X12_must cl_RX12_244 g0 ⟨rfl, rfl⟩ rfl hl.1 rfl (Nat.zero_le _) (by decide) dX12_readSteal_111) hS123 (fun H124 locs124 hr124 hC124 hS124 => ?_)
      obtain ⟨hp124, hr124⟩ := hr124
      have hKp124 := hKp117.tr (hp124.mono rfl)
      replace kb : KB H0 H124 ca (a1 + 1) := KB.kp kb hp124 gca rfl
      obtain ⟨f124_0, f124_1, f124_2, f124_3, f124_4⟩ := hr124
      refine lv_aload_n hx hb dX12_readSteal_114 rfl (lv_at hl 3 rfl) ?_
      refine q_getC E hC124 g0 fa_RX12_35 uc dX12_readSteal_115 ?_
      refine lv_iload_n hx hb dX12_readSteal_118 rfl (lv_at hl 4 rfl) ?_
      refine lv_iconst (v := 3) hx hb dX12_readSteal_119 rfl ?_
      refine lv_iadd hx hb dX12_readSteal_120 (lv_topi (fun v125 ev125 => ?_))
      have ev125i : v125.toInt = (a1 + 3) := i_add ev125 e1 (by decide) (by omega) (by omega)
      refine lv_aload_n hx hb dX12_readSteal_121 rfl (lv_at hl 3 rfl) ?_
      refine lv_iconst (v := 1) hx hb dX12_readSteal_122 rfl ?_
      refine lv_bipush (v := 40) hx hb dX12_readSteal_123 rfl ?_
      refine q_goI (q_runV (As := [.int 1, .int 40]) (rest := [.int v125, .ref ca]) E hC124 hS124 (m_X12_count l X Γ H124 hC124 h0 g0 1 (a1 := 1) (by decide) 40 (a2 := 40) (by decide) ca gca uc (by omega) (by omega) (by omega) (by omega)) cw_X12_count cl_RX12_248 g0 ⟨rfl, rfl⟩ rfl hl.1 rfl (show _ ≤ _ from by simp [Value.category]) (by decide) dX12_readSteal_125) hS124 (fun v126 H126 locs126 hr126 hC126 hS126 => ?_)
      obtain ⟨hp126, hr126⟩ := hr126
      have hKp126 := hKp124.tr (hp126.mono rfl)
      replace kb : KB H0 H126 ca (a1 + 1) := KB.kp kb hp126 gca rfl
      obtain ⟨f126_0, f126_1, f126_2, f126_3, f126_4, f126_5, f126_6, f126_7⟩ := hr126
      refine q_cast E hC126 hS126 gca (a := (a1 + 3)) ev125i (by omega) (by omega) (cs_n244 (a := (a1 + 3)) (by omega) (by omega)) dX12_readSteal_128 (fun H127 locs127 hC127 hS127 U127 => ?_)
      have hKp127 := Kp.upD gca rfl rfl (fun _ => ⟨fun _ => nd4 (by omega) (by omega), fun _ => by unfold dpu; omega, fun _ => by unfold dpn; omega⟩) U127 hKp126
      replace kb : KB H0 H127 ca (a1 + 1) := KB.up kb U127 (by omega)
      have m128 : (sI H127 h0 (X.1.2 11 12)).toInt = (sI H126 h0 (X.1.2 11 12)).toInt := congrArg Int32.toInt (up_nI U127 (ne_k g0 gca (by decide)))
      have m129 : (sI H127 h0 (X.1.2 11 14)).toInt = (sI H126 h0 (X.1.2 11 14)).toInt := congrArg Int32.toInt (up_nI U127 (ne_k g0 gca (by decide)))
      have m130 := congrArg tk m129
      have m131 : (sI H127 h0 (X.1.2 11 16)).toInt = (sI H126 h0 (X.1.2 11 16)).toInt := congrArg Int32.toInt (up_nI U127 (ne_k g0 gca (by decide)))
      have e132 := up_I U127
      have e133 := (kp_c (j := ((a1 + 1) : Int).toNat) hp113 gca rfl).trans e80
      have e134 := (up_nI (a' := ca) (j' := ((a1 + 1) : Int).toNat) U117 (fun h => by have h2 := h.2; omega)).trans e133
      have e135 := (kp_c (j := ((a1 + 1) : Int).toNat) hp124 gca rfl).trans e134
      have e136 := (kp_c (j := ((a1 + 1) : Int).toNat) hp126 gca rfl).trans e135
      have e137 := (up_nI (a' := ca) (j' := ((a1 + 1) : Int).toNat) U127 (fun h => by have h2 := h.2; omega)).trans e136
      have m138 : (sI H127 ca ((a1 + 1)).toNat).toInt = v22.toInt := (congrArg Int32.toInt e137).trans rfl
      have e139 := (kp_c (j := ((a1 + 2) : Int).toNat) hp124 gca rfl).trans e122
      have e140 := (kp_c (j := ((a1 + 2) : Int).toNat) hp126 gca rfl).trans e139
      have e141 := (up_nI (a' := ca) (j' := ((a1 + 2) : Int).toNat) U127 (fun h => by have h2 := h.2; omega)).trans e140
      have m142 : (sI H127 ca ((a1 + 2)).toNat).toInt = ((6 * v39.toInt) + v34.toInt) := (congrArg Int32.toInt e141).trans ev116i
      have m143 : (sI H127 ca ((a1 + 3)).toNat).toInt = v126.toInt := (congrArg Int32.toInt e132).trans rfl
      have hz8 := tk_nn (sI H127 h0 (X.1.2 11 14)).toInt
      exact ret H127 locs127 _ _ dX12_readSteal_129 ⟨hKp127, ⟨by omega, by omega, by omega, by omega, kb, by omega, by omega, by omega, by omega, by omega⟩⟩ hC127 hS127
set_option maxRecDepth 100000 in
set_option maxHeartbeats 4000000 in
theorem m_X12_readTest (l : Launch) (X : xW) (Γ : Nat → Option Nat) (H0 : Heap) (hC0 : Conf X Γ H0) (h0 : Nat) (g0 : Γ h0 = some 11) (p1 : Int32) {a1 : Int} (e1 : p1.toInt = a1) (ca : Nat) (gca : Γ ca = some 64) (uc : ∀ a, Γ a = some 64 → a = ca) (r0 : 2324 ≤ a1) (r1 : a1 ≤ 2585) : Ctr l X Γ yX12_readTest cX12_readTest 3 none 4 [.ref h0, .int p1] H0 (QV X Γ (fun H1 => Kp X Γ [1, 6, 7, 8, 9, 10, 11, 12, 14, 16, 17, 19, 22, 24, 26, 28] H0 H1 ∧ (((sI H0 h0 (X.1.2 11 16)).toInt ≤ (sI H1 h0 (X.1.2 11 16)).toInt) ∧ ((sI H0 h0 (X.1.2 11 16)).toInt < (sI H1 h0 (X.1.2 11 16)).toInt + tk (sI H1 h0 (X.1.2 11 14)).toInt + 2000 * (sI H1 h0 (X.1.2 11 12)).toInt) ∧ ((sI H0 h0 (X.1.2 11 12)).toInt ≤ 7 * (sI H1 h0 (X.1.2 11 12)).toInt) ∧ (0 ≤ (sI H1 h0 (X.1.2 11 12)).toInt) ∧ (KB H0 H1 ca (a1 + 1)) ∧ ((sI H1 ca (a1 + 6).toNat).toInt = 1 → 0 ≤ (sI H1 ca (a1 + 1).toNat).toInt ∧ (sI H1 ca (a1 + 1).toNat).toInt ≤ 35)))) := by
  refine q_enterV (own := "SnowFortsModel") (by decide) rfl (Nat.le_of_ble_eq_true rfl) ?_
  intro p e s m args below meth c ls Qz E hl ret hS0
  have hx := E.1; have hb := E.2.1
  have hKp0 : Kp X Γ [1, 6, 7, 8, 9, 10, 11, 12, 14, 16, 17, 19, 22, 24, 26, 28] H0 H0 := Kp.rf
  have hl : lv_has ls 3 [(0, .ref h0), (1, .int p1)] := hl
  have hz1 := f_bd hC0 g0 (ci := 11) (k := 16) rfl rfl
  have hz2 := f_bd hC0 g0 (ci := 11) (k := 12) rfl rfl
  have kb : KB H0 H0 ca (a1 + 1) := KB.rf
  refine lv_aload_n hx hb dX12_readTest_0 rfl (lv_at hl 0 rfl) ?_
  refine q_goIp (q_runV (As := []) (rest := []) E hC0 hS0 (m_X12_testWord l X Γ H0 hC0 h0 g0 ca gca uc) cw_X12_testWord cl_RX12_212 g0 ⟨rfl, rfl⟩ rfl hl.1 rfl (Nat.zero_le _) (by decide) dX12_readTest_1) hS0 (fun v21 locs21 hr21 hS21 => ?_)
  obtain ⟨f21_0, f21_1⟩ := hr21
  refine lv_istore_n hx hb dX12_readTest_4 rfl hl (by decide) rfl (fun ls hl => ?_)
  replace hl : lv_has ls 3 [(2, .int v21), (0, .ref h0), (1, .int p1)] := hl
  refine lv_aload_n hx hb dX12_readTest_5 rfl (lv_at hl 1 rfl) ?_
  refine lv_iload_n hx hb dX12_readTest_6 rfl (lv_at hl 0 rfl) ?_
  refine q_if_lt hx hb (a := v21.toInt) rfl (tgt := 14) dX12_readTest_7 rfl (fun c22 => ?_) (fun c22 => ?_)
  · refine lv_iconst (v := 0) hx hb dX12_readTest_14 rfl ?_
    refine q_goV (q_runV (As := [.int 0]) (rest := []) E hC0 hS21 (m_X12_must l X Γ H0 hC0 h0 g0 0 (a1 := 0) (by decide) ca gca uc (by omega) (by omega)) cw_X12_must cl_RX12_244 g0 ⟨rfl, rfl⟩ rfl hl.1 rfl (Nat.zero_le _) (by decide) dX12_readTest_15) hS21 (fun H23 locs23 hr23 hC23 hS23 => ?_)
    obtain ⟨hp23, hr23⟩ := hr23
    have hKp23 := hKp0.tr (hp23.mono rfl)
    replace kb : KB H0 H23 ca (a1 + 1) := KB.kp kb hp23 gca rfl
    obtain ⟨f23_0, f23_1, f23_2, f23_3, f23_4⟩ := hr23
    refine lv_aload_n hx hb dX12_readTest_18 rfl (lv_at hl 1 rfl) ?_
    refine q_getC E hC23 g0 fa_RX12_35 uc dX12_readTest_19 ?_
    refine lv_iload_n hx hb dX12_readTest_22 rfl (lv_at hl 2 rfl) ?_
    refine lv_bipush (v := 6) hx hb dX12_readTest_23 rfl ?_
    refine lv_iadd hx hb dX12_readTest_25 (lv_topi (fun v24 ev24 => ?_))
    have ev24i : v24.toInt = (a1 + 6) := i_add ev24 e1 (by decide) (by omega) (by omega)
    refine lv_iload_n hx hb dX12_readTest_26 rfl (lv_at hl 0 rfl) ?_
    refine q_cast E hC23 hS23 gca (a := (a1 + 6)) ev24i (by omega) (by omega) (cs_n244 (a := (a1 + 6)) (by omega) (by omega)) dX12_readTest_27 (fun H25 locs25 hC25 hS25 U25 => ?_)
    have hKp25 := Kp.upD gca rfl rfl (fun _ => ⟨fun _ => nd4 (by omega) (by omega), fun _ => by unfold dpu; omega, fun _ => by unfold dpn; omega⟩) U25 hKp23
    replace kb : KB H0 H25 ca (a1 + 1) := KB.up kb U25 (by omega)
    have m26 : (sI H25 h0 (X.1.2 11 12)).toInt = (sI H23 h0 (X.1.2 11 12)).toInt := congrArg Int32.toInt (up_nI U25 (ne_k g0 gca (by decide)))
    have m27 : (sI H25 h0 (X.1.2 11 14)).toInt = (sI H23 h0 (X.1.2 11 14)).toInt := congrArg Int32.toInt (up_nI U25 (ne_k g0 gca (by decide)))
    have m28 := congrArg tk m27
    have m29 : (sI H25 h0 (X.1.2 11 16)).toInt = (sI H23 h0 (X.1.2 11 16)).toInt := congrArg Int32.toInt (up_nI U25 (ne_k g0 gca (by decide)))
    have e30 := up_I U25
    refine lv_iload_n hx hb dX12_readTest_28 rfl (lv_at hl 0 rfl) ?_
    refine lv_iconst (v := 1) hx hb dX12_readTest_29 rfl ?_
    refine q_icmp_ne hx hb (a := v21.toInt) (b := 1) rfl (by decide) (tgt := 46) dX12_readTest_30 rfl (fun c31 => ?_) (fun c31 => absurd c31 (by omega))
    refine lv_aload_n hx hb dX12_readTest_46 rfl (lv_at hl 1 rfl) ?_
    refine q_getI E hC25 g0 fa_RX12_218 dX12_readTest_47 (fun v32 ev32 lv32 uv32 => ?_)
    have m33 : (sI H25 h0 (X.1.2 11 12)).toInt = v32.toInt := (congrArg Int32.toInt ev32).trans rfl
    refine q_if_gt hx hb (a := v32.toInt) rfl (tgt := 58) dX12_readTest_50 rfl (fun c34 => ?_) (fun c34 => ?_)
    · have m35 : (sI H25 ca ((a1 + 6)).toNat).toInt = v21.toInt := (congrArg Int32.toInt e30).trans rfl
      have hz8 := tk_nn (sI H25 h0 (X.1.2 11 14)).toInt
      exact ret H25 locs25 _ _ dX12_readTest_58 ⟨hKp25, ⟨by omega, by omega, by omega, by omega, kb, by omega⟩⟩ hC25 hS25
    · refine lv_iload_n hx hb dX12_readTest_53 rfl (lv_at hl 0 rfl) ?_
      refine lv_iconst (v := 2) hx hb dX12_readTest_54 rfl ?_
      refine q_icmp_ne hx hb (a := v21.toInt) (b := 2) rfl (by decide) (tgt := 59) dX12_readTest_55 rfl (fun c36 => ?_) (fun c36 => absurd c36 (by omega))
      refine lv_aload_n hx hb dX12_readTest_59 rfl (lv_at hl 1 rfl) ?_
      refine q_getC E hC25 g0 fa_RX12_35 uc dX12_readTest_60 ?_
      refine lv_iload_n hx hb dX12_readTest_63 rfl (lv_at hl 2 rfl) ?_
      refine lv_bipush (v := 7) hx hb dX12_readTest_64 rfl ?_
      refine lv_iadd hx hb dX12_readTest_66 (lv_topi (fun v37 ev37 => ?_))
      have ev37i : v37.toInt = (a1 + 7) := i_add ev37 e1 (by decide) (by omega) (by omega)
      refine lv_aload_n hx hb dX12_readTest_67 rfl (lv_at hl 1 rfl) ?_
      refine q_getI E hC25 g0 fa_RX12_120 dX12_readTest_68 (fun v38 ev38 _ _ => ?_)
      have m39 : (sI H25 h0 (X.1.2 11 14)).toInt = v38.toInt := (congrArg Int32.toInt ev38).trans rfl
      refine lv_iconst (v := 3) hx hb dX12_readTest_71 rfl ?_
      refine q_icmp_ne hx hb (a := v38.toInt) (b := 3) rfl (by decide) (tgt := 82) dX12_readTest_72 rfl (fun c40 => ?_) (fun c40 => ?_)
      · refine lv_iconst (v := 0) hx hb dX12_readTest_82 rfl ?_
        refine q_cast E hC25 hS25 gca (a := (a1 + 7)) ev37i (by omega) (by omega) (cs_n244 (a := (a1 + 7)) (by omega) (by omega)) dX12_readTest_83 (fun H41 locs41 hC41 hS41 U41 => ?_)
        have hKp41 := Kp.upD gca rfl rfl (fun _ => ⟨fun _ => nd4 (by omega) (by omega), fun _ => by unfold dpu; omega, fun _ => by unfold dpn; omega⟩) U41 hKp25
        replace kb : KB H0 H41 ca (a1 + 1) := KB.up kb U41 (by omega)
        have m42 : (sI H41 h0 (X.1.2 11 12)).toInt = (sI H25 h0 (X.1.2 11 12)).toInt := congrArg Int32.toInt (up_nI U41 (ne_k g0 gca (by decide)))
        have m43 : (sI H41 h0 (X.1.2 11 14)).toInt = (sI H25 h0 (X.1.2 11 14)).toInt := congrArg Int32.toInt (up_nI U41 (ne_k g0 gca (by decide)))
        have m44 := congrArg tk m43
        have m45 : (sI H41 h0 (X.1.2 11 16)).toInt = (sI H25 h0 (X.1.2 11 16)).toInt := congrArg Int32.toInt (up_nI U41 (ne_k g0 gca (by decide)))
        have e46 := up_I U41
        refine lv_aload_n hx hb dX12_readTest_84 rfl (lv_at hl 1 rfl) ?_
        refine lv_aload_n hx hb dX12_readTest_85 rfl (lv_at hl 1 rfl) ?_
        refine lv_bipush (v := 60) hx hb dX12_readTest_86 rfl ?_
        refine q_goIp (q_runV (As := [.int 60]) (rest := [.ref h0]) E hC41 hS41 (m_X12_isSign l X Γ H41 hC41 h0 g0 60 (a1 := 60) (by decide) ca gca uc) cw_X12_isSign cl_RX12_255 g0 ⟨rfl, rfl⟩ rfl hl.1 rfl (show _ ≤ _ from by simp [Value.category]) (by decide) dX12_readTest_88) hS41 (fun v47 locs47 hr47 hS47 => ?_)
        rcases hr47 with ⟨rfl, f47a⟩ | ⟨rfl, -⟩
        · refine q_if_ne hx hb (a := 1) (by decide) (tgt := 112) dX12_readTest_91 rfl (fun c48 => ?_) (fun c48 => absurd c48 (by omega))
          refine lv_iconst (v := 1) hx hb dX12_readTest_112 rfl ?_
          refine lv_goto (tgt := 117) hx hb dX12_readTest_113 rfl ?_
          refine q_goV (q_runV (As := [.int 1]) (rest := []) E hC41 hS47 (m_X12_must l X Γ H41 hC41 h0 g0 1 (a1 := 1) (by decide) ca gca uc (by omega) (by omega)) cw_X12_must cl_RX12_244 g0 ⟨rfl, rfl⟩ rfl hl.1 rfl (Nat.zero_le _) (by decide) dX12_readTest_117) hS47 (fun H49 locs49 hr49 hC49 hS49 => ?_)
          obtain ⟨hp49, hr49⟩ := hr49
          have hKp49 := hKp41.tr (hp49.mono rfl)
          replace kb : KB H0 H49 ca (a1 + 1) := KB.kp kb hp49 gca rfl
          obtain ⟨f49_0, f49_1, f49_2, f49_3, f49_4⟩ := hr49
          refine lv_aload_n hx hb dX12_readTest_120 rfl (lv_at hl 1 rfl) ?_
          refine q_getC E hC49 g0 fa_RX12_35 uc dX12_readTest_121 ?_
          refine lv_iload_n hx hb dX12_readTest_124 rfl (lv_at hl 2 rfl) ?_
          refine lv_iconst (v := 2) hx hb dX12_readTest_125 rfl ?_
          refine lv_iadd hx hb dX12_readTest_126 (lv_topi (fun v50 ev50 => ?_))
          have ev50i : v50.toInt = (a1 + 2) := i_add ev50 e1 (by decide) (by omega) (by omega)
          refine lv_aload_n hx hb dX12_readTest_127 rfl (lv_at hl 1 rfl) ?_
          refine lv_iconst (v := 0) hx hb dX12_readTest_128 rfl ?_
          refine lv_iload_n hx hb dX12_readTest_129 rfl (lv_at hl 0 rfl) ?_
          refine lv_iconst (v := 1) hx hb dX12_readTest_130 rfl ?_
          refine q_icmp_ne hx hb (a := v21.toInt) (b := 1) rfl (by decide) (tgt := 139) dX12_readTest_131 rfl (fun c51 => ?_) (fun c51 => absurd c51 (by omega))
          refine lv_sipush (v := 999) hx hb dX12_readTest_139 rfl ?_
          refine q_goI (q_runV (As := [.int 0, .int 999]) (rest := [.int v50, .ref ca]) E hC49 hS49 (m_X12_count l X Γ H49 hC49 h0 g0 0 (a1 := 0) (by decide) 999 (a2 := 999) (by decide) ca gca uc (by omega) (by omega) (by omega) (by omega)) cw_X12_count cl_RX12_248 g0 ⟨rfl, rfl⟩ rfl hl.1 rfl (show _ ≤ _ from by simp [Value.category]) (by decide) dX12_readTest_142) hS49 (fun v52 H52 locs52 hr52 hC52 hS52 => ?_)
          obtain ⟨hp52, hr52⟩ := hr52
          have hKp52 := hKp49.tr (hp52.mono rfl)
          replace kb : KB H0 H52 ca (a1 + 1) := KB.kp kb hp52 gca rfl
          obtain ⟨f52_0, f52_1, f52_2, f52_3, f52_4, f52_5, f52_6, f52_7⟩ := hr52
          refine q_cast E hC52 hS52 gca (a := (a1 + 2)) ev50i (by omega) (by omega) (cs_n244 (a := (a1 + 2)) (by omega) (by omega)) dX12_readTest_145 (fun H53 locs53 hC53 hS53 U53 => ?_)
          have hKp53 := Kp.upD gca rfl rfl (fun _ => ⟨fun _ => nd4 (by omega) (by omega), fun _ => by unfold dpu; omega, fun _ => by unfold dpn; omega⟩) U53 hKp52
          replace kb : KB H0 H53 ca (a1 + 1) := KB.up kb U53 (by omega)
          have m54 : (sI H53 h0 (X.1.2 11 12)).toInt = (sI H52 h0 (X.1.2 11 12)).toInt := congrArg Int32.toInt (up_nI U53 (ne_k g0 gca (by decide)))
          have m55 : (sI H53 h0 (X.1.2 11 14)).toInt = (sI H52 h0 (X.1.2 11 14)).toInt := congrArg Int32.toInt (up_nI U53 (ne_k g0 gca (by decide)))
          have m56 := congrArg tk m55
          have m57 : (sI H53 h0 (X.1.2 11 16)).toInt = (sI H52 h0 (X.1.2 11 16)).toInt := congrArg Int32.toInt (up_nI U53 (ne_k g0 gca (by decide)))
          have e58 := up_I U53
          have e59 := (up_nI (a' := ca) (j' := ((a1 + 6) : Int).toNat) U41 (fun h => by have h2 := h.2; omega)).trans e30
          have e60 := (kp_c (j := ((a1 + 6) : Int).toNat) hp49 gca rfl).trans e59
          have e61 := (kp_c (j := ((a1 + 6) : Int).toNat) hp52 gca rfl).trans e60
          have e62 := (up_nI (a' := ca) (j' := ((a1 + 6) : Int).toNat) U53 (fun h => by have h2 := h.2; omega)).trans e61
          have m63 : (sI H53 ca ((a1 + 6)).toNat).toInt = v21.toInt := (congrArg Int32.toInt e62).trans rfl
          have hz8 := tk_nn (sI H53 h0 (X.1.2 11 14)).toInt
          exact ret H53 locs53 _ _ dX12_readTest_146 ⟨hKp53, ⟨by omega, by omega, by omega, by omega, kb, by omega⟩⟩ hC53 hS53
        · refine q_if_ne hx hb (a := 0) (by decide) (tgt := 112) dX12_readTest_91 rfl (fun c64 => absurd c64 (by omega)) (fun c64 => ?_)
          refine lv_aload_n hx hb dX12_readTest_94 rfl (lv_at hl 1 rfl) ?_
          refine lv_bipush (v := 62) hx hb dX12_readTest_95 rfl ?_
          refine q_goIp (q_runV (As := [.int 62]) (rest := [.ref h0]) E hC41 hS47 (m_X12_isSign l X Γ H41 hC41 h0 g0 62 (a1 := 62) (by decide) ca gca uc) cw_X12_isSign cl_RX12_255 g0 ⟨rfl, rfl⟩ rfl hl.1 rfl (show _ ≤ _ from by simp [Value.category]) (by decide) dX12_readTest_97) hS47 (fun v65 locs65 hr65 hS65 => ?_)
          rcases hr65 with ⟨rfl, f65a⟩ | ⟨rfl, -⟩
          · refine q_if_ne hx hb (a := 1) (by decide) (tgt := 112) dX12_readTest_100 rfl (fun c66 => ?_) (fun c66 => absurd c66 (by omega))
            refine lv_iconst (v := 1) hx hb dX12_readTest_112 rfl ?_
            refine lv_goto (tgt := 117) hx hb dX12_readTest_113 rfl ?_
            refine q_goV (q_runV (As := [.int 1]) (rest := []) E hC41 hS65 (m_X12_must l X Γ H41 hC41 h0 g0 1 (a1 := 1) (by decide) ca gca uc (by omega) (by omega)) cw_X12_must cl_RX12_244 g0 ⟨rfl, rfl⟩ rfl hl.1 rfl (Nat.zero_le _) (by decide) dX12_readTest_117) hS65 (fun H67 locs67 hr67 hC67 hS67 => ?_)
            obtain ⟨hp67, hr67⟩ := hr67
            have hKp67 := hKp41.tr (hp67.mono rfl)
            replace kb : KB H0 H67 ca (a1 + 1) := KB.kp kb hp67 gca rfl
            obtain ⟨f67_0, f67_1, f67_2, f67_3, f67_4⟩ := hr67
            refine lv_aload_n hx hb dX12_readTest_120 rfl (lv_at hl 1 rfl) ?_
            refine q_getC E hC67 g0 fa_RX12_35 uc dX12_readTest_121 ?_
            refine lv_iload_n hx hb dX12_readTest_124 rfl (lv_at hl 2 rfl) ?_
            refine lv_iconst (v := 2) hx hb dX12_readTest_125 rfl ?_
            refine lv_iadd hx hb dX12_readTest_126 (lv_topi (fun v68 ev68 => ?_))
            have ev68i : v68.toInt = (a1 + 2) := i_add ev68 e1 (by decide) (by omega) (by omega)
            refine lv_aload_n hx hb dX12_readTest_127 rfl (lv_at hl 1 rfl) ?_
            refine lv_iconst (v := 0) hx hb dX12_readTest_128 rfl ?_
            refine lv_iload_n hx hb dX12_readTest_129 rfl (lv_at hl 0 rfl) ?_
            refine lv_iconst (v := 1) hx hb dX12_readTest_130 rfl ?_
            refine q_icmp_ne hx hb (a := v21.toInt) (b := 1) rfl (by decide) (tgt := 139) dX12_readTest_131 rfl (fun c69 => ?_) (fun c69 => absurd c69 (by omega))
            refine lv_sipush (v := 999) hx hb dX12_readTest_139 rfl ?_
            refine q_goI (q_runV (As := [.int 0, .int 999]) (rest := [.int v68, .ref ca]) E hC67 hS67 (m_X12_count l X Γ H67 hC67 h0 g0 0 (a1 := 0) (by decide) 999 (a2 := 999) (by decide) ca gca uc (by omega) (by omega) (by omega) (by omega)) cw_X12_count cl_RX12_248 g0 ⟨rfl, rfl⟩ rfl hl.1 rfl (show _ ≤ _ from by simp [Value.category]) (by decide) dX12_readTest_142) hS67 (fun v70 H70 locs70 hr70 hC70 hS70 => ?_)
            obtain ⟨hp70, hr70⟩ := hr70
            have hKp70 := hKp67.tr (hp70.mono rfl)
            replace kb : KB H0 H70 ca (a1 + 1) := KB.kp kb hp70 gca rfl
            obtain ⟨f70_0, f70_1, f70_2, f70_3, f70_4, f70_5, f70_6, f70_7⟩ := hr70
            refine q_cast E hC70 hS70 gca (a := (a1 + 2)) ev68i (by omega) (by omega) (cs_n244 (a := (a1 + 2)) (by omega) (by omega)) dX12_readTest_145 (fun H71 locs71 hC71 hS71 U71 => ?_)
            have hKp71 := Kp.upD gca rfl rfl (fun _ => ⟨fun _ => nd4 (by omega) (by omega), fun _ => by unfold dpu; omega, fun _ => by unfold dpn; omega⟩) U71 hKp70
            replace kb : KB H0 H71 ca (a1 + 1) := KB.up kb U71 (by omega)
            have m72 : (sI H71 h0 (X.1.2 11 12)).toInt = (sI H70 h0 (X.1.2 11 12)).toInt := congrArg Int32.toInt (up_nI U71 (ne_k g0 gca (by decide)))
            have m73 : (sI H71 h0 (X.1.2 11 14)).toInt = (sI H70 h0 (X.1.2 11 14)).toInt := congrArg Int32.toInt (up_nI U71 (ne_k g0 gca (by decide)))
            have m74 := congrArg tk m73
            have m75 : (sI H71 h0 (X.1.2 11 16)).toInt = (sI H70 h0 (X.1.2 11 16)).toInt := congrArg Int32.toInt (up_nI U71 (ne_k g0 gca (by decide)))
            have e76 := up_I U71
            have e77 := (up_nI (a' := ca) (j' := ((a1 + 6) : Int).toNat) U41 (fun h => by have h2 := h.2; omega)).trans e30
            have e78 := (kp_c (j := ((a1 + 6) : Int).toNat) hp67 gca rfl).trans e77
            have e79 := (kp_c (j := ((a1 + 6) : Int).toNat) hp70 gca rfl).trans e78
            have e80 := (up_nI (a' := ca) (j' := ((a1 + 6) : Int).toNat) U71 (fun h => by have h2 := h.2; omega)).trans e79
            have m81 : (sI H71 ca ((a1 + 6)).toNat).toInt = v21.toInt := (congrArg Int32.toInt e80).trans rfl
            have hz8 := tk_nn (sI H71 h0 (X.1.2 11 14)).toInt
            exact ret H71 locs71 _ _ dX12_readTest_146 ⟨hKp71, ⟨by omega, by omega, by omega, by omega, kb, by omega⟩⟩ hC71 hS71
          · refine q_if_ne hx hb (a := 0) (by decide) (tgt := 112) dX12_readTest_100 rfl (fun c82 => absurd c82 (by omega)) (fun c82 => ?_)
            refine lv_aload_n hx hb dX12_readTest_103 rfl (lv_at hl 1 rfl) ?_
            refine lv_bipush (v := 61) hx hb dX12_readTest_104 rfl ?_
            refine q_goIp (q_runV (As := [.int 61]) (rest := [.ref h0]) E hC41 hS65 (m_X12_isSign l X Γ H41 hC41 h0 g0 61 (a1 := 61) (by decide) ca gca uc) cw_X12_isSign cl_RX12_255 g0 ⟨rfl, rfl⟩ rfl hl.1 rfl (show _ ≤ _ from by simp [Value.category]) (by decide) dX12_readTest_106) hS65 (fun v83 locs83 hr83 hS83 => ?_)
            rcases hr83 with ⟨rfl, f83a⟩ | ⟨rfl, -⟩
            · refine q_if_eq hx hb (a := 1) (by decide) (tgt := 116) dX12_readTest_109 rfl (fun c84 => absurd c84 (by omega)) (fun c84 => ?_)
              refine lv_iconst (v := 1) hx hb dX12_readTest_112 rfl ?_
              refine lv_goto (tgt := 117) hx hb dX12_readTest_113 rfl ?_
              refine q_goV (q_runV (As := [.int 1]) (rest := []) E hC41 hS83 (m_X12_must l X Γ H41 hC41 h0 g0 1 (a1 := 1) (by decide) ca gca uc (by omega) (by omega)) cw_X12_must cl_RX12_244 g0 ⟨rfl, rfl⟩ rfl hl.1 rfl (Nat.zero_le _) (by decide) dX12_readTest_117) hS83 (fun H85 locs85 hr85 hC85 hS85 => ?_)
              obtain ⟨hp85, hr85⟩ := hr85
              have hKp85 := hKp41.tr (hp85.mono rfl)
              replace kb : KB H0 H85 ca (a1 + 1) := KB.kp kb hp85 gca rfl
              obtain ⟨f85_0, f85_1, f85_2, f85_3, f85_4⟩ := hr85
              refine lv_aload_n hx hb dX12_readTest_120 rfl (lv_at hl 1 rfl) ?_
              refine q_getC E hC85 g0 fa_RX12_35 uc dX12_readTest_121 ?_
              refine lv_iload_n hx hb dX12_readTest_124 rfl (lv_at hl 2 rfl) ?_
              refine lv_iconst (v := 2) hx hb dX12_readTest_125 rfl ?_
              refine lv_iadd hx hb dX12_readTest_126 (lv_topi (fun v86 ev86 => ?_))
              have ev86i : v86.toInt = (a1 + 2) := i_add ev86 e1 (by decide) (by omega) (by omega)
              refine lv_aload_n hx hb dX12_readTest_127 rfl (lv_at hl 1 rfl) ?_
              refine lv_iconst (v := 0) hx hb dX12_readTest_128 rfl ?_
              refine lv_iload_n hx hb dX12_readTest_129 rfl (lv_at hl 0 rfl) ?_
              refine lv_iconst (v := 1) hx hb dX12_readTest_130 rfl ?_
              refine q_icmp_ne hx hb (a := v21.toInt) (b := 1) rfl (by decide) (tgt := 139) dX12_readTest_131 rfl (fun c87 => ?_) (fun c87 => absurd c87 (by omega))
              refine lv_sipush (v := 999) hx hb dX12_readTest_139 rfl ?_
              refine q_goI (q_runV (As := [.int 0, .int 999]) (rest := [.int v86, .ref ca]) E hC85 hS85 (m_X12_count l X Γ H85 hC85 h0 g0 0 (a1 := 0) (by decide) 999 (a2 := 999) (by decide) ca gca uc (by omega) (by omega) (by omega) (by omega)) cw_X12_count cl_RX12_248 g0 ⟨rfl, rfl⟩ rfl hl.1 rfl (show _ ≤ _ from by simp [Value.category]) (by decide) dX12_readTest_142) hS85 (fun v88 H88 locs88 hr88 hC88 hS88 => ?_)
              obtain ⟨hp88, hr88⟩ := hr88
              have hKp88 := hKp85.tr (hp88.mono rfl)
              replace kb : KB H0 H88 ca (a1 + 1) := KB.kp kb hp88 gca rfl
              obtain ⟨f88_0, f88_1, f88_2, f88_3, f88_4, f88_5, f88_6, f88_7⟩ := hr88
              refine q_cast E hC88 hS88 gca (a := (a1 + 2)) ev86i (by omega) (by omega) (cs_n244 (a := (a1 + 2)) (by omega) (by omega)) dX12_readTest_145 (fun H89 locs89 hC89 hS89 U89 => ?_)
              have hKp89 := Kp.upD gca rfl rfl (fun _ => ⟨fun _ => nd4 (by omega) (by omega), fun _ => by unfold dpu; omega, fun _ => by unfold dpn; omega⟩) U89 hKp88
              replace kb : KB H0 H89 ca (a1 + 1) := KB.up kb U89 (by omega)
              have m90 : (sI H89 h0 (X.1.2 11 12)).toInt = (sI H88 h0 (X.1.2 11 12)).toInt := congrArg Int32.toInt (up_nI U89 (ne_k g0 gca (by decide)))
              have m91 : (sI H89 h0 (X.1.2 11 14)).toInt = (sI H88 h0 (X.1.2 11 14)).toInt := congrArg Int32.toInt (up_nI U89 (ne_k g0 gca (by decide)))
              have m92 := congrArg tk m91
              have m93 : (sI H89 h0 (X.1.2 11 16)).toInt = (sI H88 h0 (X.1.2 11 16)).toInt := congrArg Int32.toInt (up_nI U89 (ne_k g0 gca (by decide)))
              have e94 := up_I U89
              have e95 := (up_nI (a' := ca) (j' := ((a1 + 6) : Int).toNat) U41 (fun h => by have h2 := h.2; omega)).trans e30
              have e96 := (kp_c (j := ((a1 + 6) : Int).toNat) hp85 gca rfl).trans e95
              have e97 := (kp_c (j := ((a1 + 6) : Int).toNat) hp88 gca rfl).trans e96
              have e98 := (up_nI (a' := ca) (j' := ((a1 + 6) : Int).toNat) U89 (fun h => by have h2 := h.2; omega)).trans e97
              have m99 : (sI H89 ca ((a1 + 6)).toNat).toInt = v21.toInt := (congrArg Int32.toInt e98).trans rfl
              have hz8 := tk_nn (sI H89 h0 (X.1.2 11 14)).toInt
              exact ret H89 locs89 _ _ dX12_readTest_146 ⟨hKp89, ⟨by omega, by omega, by omega, by omega, kb, by omega⟩⟩ hC89 hS89
            · refine q_if_eq hx hb (a := 0) (by decide) (tgt := 116) dX12_readTest_109 rfl (fun c100 => ?_) (fun c100 => absurd c100 (by omega))
              refine lv_iconst (v := 0) hx hb dX12_readTest_116 rfl ?_
              refine q_goV (q_runV (As := [.int 0]) (rest := []) E hC41 hS83 (m_X12_must l X Γ H41 hC41 h0 g0 0 (a1 := 0) (by decide) ca gca uc (by omega) (by omega)) cw_X12_must cl_RX12_244 g0 ⟨rfl, rfl⟩ rfl hl.1 rfl (Nat.zero_le _) (by decide) dX12_readTest_117) hS83 (fun H101 locs101 hr101 hC101 hS101 => ?_)
              obtain ⟨hp101, hr101⟩ := hr101
              have hKp101 := hKp41.tr (hp101.mono rfl)
              replace kb : KB H0 H101 ca (a1 + 1) := KB.kp kb hp101 gca rfl
              obtain ⟨f101_0, f101_1, f101_2, f101_3, f101_4⟩ := hr101
              refine lv_aload_n hx hb dX12_readTest_120 rfl (lv_at hl 1 rfl) ?_
              refine q_getC E hC101 g0 fa_RX12_35 uc dX12_readTest_121 ?_
              refine lv_iload_n hx hb dX12_readTest_124 rfl (lv_at hl 2 rfl) ?_
              refine lv_iconst (v := 2) hx hb dX12_readTest_125 rfl ?_
              refine lv_iadd hx hb dX12_readTest_126 (lv_topi (fun v102 ev102 => ?_))
              have ev102i : v102.toInt = (a1 + 2) := i_add ev102 e1 (by decide) (by omega) (by omega)
              refine lv_aload_n hx hb dX12_readTest_127 rfl (lv_at hl 1 rfl) ?_
              refine lv_iconst (v := 0) hx hb dX12_readTest_128 rfl ?_
              refine lv_iload_n hx hb dX12_readTest_129 rfl (lv_at hl 0 rfl) ?_
              refine lv_iconst (v := 1) hx hb dX12_readTest_130 rfl ?_
              refine q_icmp_ne hx hb (a := v21.toInt) (b := 1) rfl (by decide) (tgt := 139) dX12_readTest_131 rfl (fun c103 => ?_) (fun c103 => absurd c103 (by omega))
              refine lv_sipush (v := 999) hx hb dX12_readTest_139 rfl ?_
              refine q_goI (q_runV (As := [.int 0, .int 999]) (rest := [.int v102, .ref ca]) E hC101 hS101 (m_X12_count l X Γ H101 hC101 h0 g0 0 (a1 := 0) (by decide) 999 (a2 := 999) (by decide) ca gca uc (by omega) (by omega) (by omega) (by omega)) cw_X12_count cl_RX12_248 g0 ⟨rfl, rfl⟩ rfl hl.1 rfl (show _ ≤ _ from by simp [Value.category]) (by decide) dX12_readTest_142) hS101 (fun v104 H104 locs104 hr104 hC104 hS104 => ?_)
              obtain ⟨hp104, hr104⟩ := hr104
              have hKp104 := hKp101.tr (hp104.mono rfl)
              replace kb : KB H0 H104 ca (a1 + 1) := KB.kp kb hp104 gca rfl
              obtain ⟨f104_0, f104_1, f104_2, f104_3, f104_4, f104_5, f104_6, f104_7⟩ := hr104
              refine q_cast E hC104 hS104 gca (a := (a1 + 2)) ev102i (by omega) (by omega) (cs_n244 (a := (a1 + 2)) (by omega) (by omega)) dX12_readTest_145 (fun H105 locs105 hC105 hS105 U105 => ?_)
              have hKp105 := Kp.upD gca rfl rfl (fun _ => ⟨fun _ => nd4 (by omega) (by omega), fun _ => by unfold dpu; omega, fun _ => by unfold dpn; omega⟩) U105 hKp104
              replace kb : KB H0 H105 ca (a1 + 1) := KB.up kb U105 (by omega)
              have m106 : (sI H105 h0 (X.1.2 11 12)).toInt = (sI H104 h0 (X.1.2 11 12)).toInt := congrArg Int32.toInt (up_nI U105 (ne_k g0 gca (by decide)))
              have m107 : (sI H105 h0 (X.1.2 11 14)).toInt = (sI H104 h0 (X.1.2 11 14)).toInt := congrArg Int32.toInt (up_nI U105 (ne_k g0 gca (by decide)))
              have m108 := congrArg tk m107
              have m109 : (sI H105 h0 (X.1.2 11 16)).toInt = (sI H104 h0 (X.1.2 11 16)).toInt := congrArg Int32.toInt (up_nI U105 (ne_k g0 gca (by decide)))
              have e110 := up_I U105
              have e111 := (up_nI (a' := ca) (j' := ((a1 + 6) : Int).toNat) U41 (fun h => by have h2 := h.2; omega)).trans e30
              have e112 := (kp_c (j := ((a1 + 6) : Int).toNat) hp101 gca rfl).trans e111
              have e113 := (kp_c (j := ((a1 + 6) : Int).toNat) hp104 gca rfl).trans e112
              have e114 := (up_nI (a' := ca) (j' := ((a1 + 6) : Int).toNat) U105 (fun h => by have h2 := h.2; omega)).trans e113
              have m115 : (sI H105 ca ((a1 + 6)).toNat).toInt = v21.toInt := (congrArg Int32.toInt e114).trans rfl
              have hz8 := tk_nn (sI H105 h0 (X.1.2 11 14)).toInt
              exact ret H105 locs105 _ _ dX12_readTest_146 ⟨hKp105, ⟨by omega, by omega, by omega, by omega, kb, by omega⟩⟩ hC105 hS105
      · refine lv_aload_n hx hb dX12_readTest_75 rfl (lv_at hl 1 rfl) ?_
        refine q_getI E hC25 g0 fa_RX12_139 dX12_readTest_76 (fun v116 ev116 _ _ => ?_)
        refine lv_goto (tgt := 83) hx hb dX12_readTest_79 rfl ?_
        refine q_cast E hC25 hS25 gca (a := (a1 + 7)) ev37i (by omega) (by omega) (cs_n244 (a := (a1 + 7)) (by omega) (by omega)) dX12_readTest_83 (fun H117 locs117 hC117 hS117 U117 => ?_)
        have hKp117 := Kp.upD gca rfl rfl (fun _ => ⟨fun _ => nd4 (by omega) (by omega), fun _ => by unfold dpu; omega, fun _ => by unfold dpn; omega⟩) U117 hKp25
        replace kb : KB H0 H117 ca (a1 + 1) := KB.up kb U117 (by omega)
        have m118 : (sI H117 h0 (X.1.2 11 12)).toInt = (sI H25 h0 (X.1.2 11 12)).toInt := congrArg Int32.toInt (up_nI U117 (ne_k g0 gca (by decide)))
        have m119 : (sI H117 h0 (X.1.2 11 14)).toInt = (sI H25 h0 (X.1.2 11 14)).toInt := congrArg Int32.toInt (up_nI U117 (ne_k g0 gca (by decide)))
        have m120 := congrArg tk m119
        have m121 : (sI H117 h0 (X.1.2 11 16)).toInt = (sI H25 h0 (X.1.2 11 16)).toInt := congrArg Int32.toInt (up_nI U117 (ne_k g0 gca (by decide)))
        have e122 := up_I U117
        refine lv_aload_n hx hb dX12_readTest_84 rfl (lv_at hl 1 rfl) ?_
        refine lv_aload_n hx hb dX12_readTest_85 rfl (lv_at hl 1 rfl) ?_
        refine lv_bipush (v := 60) hx hb dX12_readTest_86 rfl ?_
        refine q_goIp (q_runV (As := [.int 60]) (rest := [.ref h0]) E hC117 hS117 (m_X12_isSign l X Γ H117 hC117 h0 g0 60 (a1 := 60) (by decide) ca gca uc) cw_X12_isSign cl_RX12_255 g0 ⟨rfl, rfl⟩ rfl hl.1 rfl (show _ ≤ _ from by simp [Value.category]) (by decide) dX12_readTest_88) hS117 (fun v123 locs123 hr123 hS123 => ?_)
        rcases hr123 with ⟨rfl, f123a⟩ | ⟨rfl, -⟩
        · refine q_if_ne hx hb (a := 1) (by decide) (tgt := 112) dX12_readTest_91 rfl (fun c124 => ?_) (fun c124 => absurd c124 (by omega))
          refine lv_iconst (v := 1) hx hb dX12_readTest_112 rfl ?_
          refine lv_goto (tgt := 117) hx hb dX12_readTest_113 rfl ?_
          refine q_goV (q_runV (As := [.int 1]) (rest := []) E hC117 hS123 (m_X12_must l X Γ H117 hC117 h0 g0 1 (a1 := 1) (by decide) ca gca uc (by omega) (by omega)) cw_X12_must cl_RX12_244 g0 ⟨rfl, rfl⟩ rfl hl.1 rfl (Nat.zero_le _) (by decide) dX12_readTest_117) hS123 (fun H125 locs125 hr125 hC125 hS125 => ?_)
          obtain ⟨hp125, hr125⟩ := hr125
          have hKp125 := hKp117.tr (hp125.mono rfl)
          replace kb : KB H0 H125 ca (a1 + 1) := KB.kp kb hp125 gca rfl
          obtain ⟨f125_0, f125_1, f125_2, f125_3, f125_4⟩ := hr125
          refine lv_aload_n hx hb dX12_readTest_120 rfl (lv_at hl 1 rfl) ?_
          refine q_getC E hC125 g0 fa_RX12_35 uc dX12_readTest_121 ?_
          refine lv_iload_n hx hb dX12_readTest_124 rfl (lv_at hl 2 rfl) ?_
          refine lv_iconst (v := 2) hx hb dX12_readTest_125 rfl ?_
          refine lv_iadd hx hb dX12_readTest_126 (lv_topi (fun v126 ev126 => ?_))
          have ev126i : v126.toInt = (a1 + 2) := i_add ev126 e1 (by decide) (by omega) (by omega)
          refine lv_aload_n hx hb dX12_readTest_127 rfl (lv_at hl 1 rfl) ?_
          refine lv_iconst (v := 0) hx hb dX12_readTest_128 rfl ?_
          refine lv_iload_n hx hb dX12_readTest_129 rfl (lv_at hl 0 rfl) ?_
          refine lv_iconst (v := 1) hx hb dX12_readTest_130 rfl ?_
          refine q_icmp_ne hx hb (a := v21.toInt) (b := 1) rfl (by decide) (tgt := 139) dX12_readTest_131 rfl (fun c127 => ?_) (fun c127 => absurd c127 (by omega))
          refine lv_sipush (v := 999) hx hb dX12_readTest_139 rfl ?_
          refine q_goI (q_runV (As := [.int 0, .int 999]) (rest := [.int v126, .ref ca]) E hC125 hS125 (m_X12_count l X Γ H125 hC125 h0 g0 0 (a1 := 0) (by decide) 999 (a2 := 999) (by decide) ca gca uc (by omega) (by omega) (by omega) (by omega)) cw_X12_count cl_RX12_248 g0 ⟨rfl, rfl⟩ rfl hl.1 rfl (show _ ≤ _ from by simp [Value.category]) (by decide) dX12_readTest_142) hS125 (fun v128 H128 locs128 hr128 hC128 hS128 => ?_)
          obtain ⟨hp128, hr128⟩ := hr128
          have hKp128 := hKp125.tr (hp128.mono rfl)
          replace kb : KB H0 H128 ca (a1 + 1) := KB.kp kb hp128 gca rfl
          obtain ⟨f128_0, f128_1, f128_2, f128_3, f128_4, f128_5, f128_6, f128_7⟩ := hr128
          refine q_cast E hC128 hS128 gca (a := (a1 + 2)) ev126i (by omega) (by omega) (cs_n244 (a := (a1 + 2)) (by omega) (by omega)) dX12_readTest_145 (fun H129 locs129 hC129 hS129 U129 => ?_)
          have hKp129 := Kp.upD gca rfl rfl (fun _ => ⟨fun _ => nd4 (by omega) (by omega), fun _ => by unfold dpu; omega, fun _ => by unfold dpn; omega⟩) U129 hKp128
          replace kb : KB H0 H129 ca (a1 + 1) := KB.up kb U129 (by omega)
          have m130 : (sI H129 h0 (X.1.2 11 12)).toInt = (sI H128 h0 (X.1.2 11 12)).toInt := congrArg Int32.toInt (up_nI U129 (ne_k g0 gca (by decide)))
          have m131 : (sI H129 h0 (X.1.2 11 14)).toInt = (sI H128 h0 (X.1.2 11 14)).toInt := congrArg Int32.toInt (up_nI U129 (ne_k g0 gca (by decide)))
          have m132 := congrArg tk m131
          have m133 : (sI H129 h0 (X.1.2 11 16)).toInt = (sI H128 h0 (X.1.2 11 16)).toInt := congrArg Int32.toInt (up_nI U129 (ne_k g0 gca (by decide)))
          have e134 := up_I U129
          have e135 := (up_nI (a' := ca) (j' := ((a1 + 6) : Int).toNat) U117 (fun h => by have h2 := h.2; omega)).trans e30
          have e136 := (kp_c (j := ((a1 + 6) : Int).toNat) hp125 gca rfl).trans e135
          have e137 := (kp_c (j := ((a1 + 6) : Int).toNat) hp128 gca rfl).trans e136
          have e138 := (up_nI (a' := ca) (j' := ((a1 + 6) : Int).toNat) U129 (fun h => by have h2 := h.2; omega)).trans e137
          have m139 : (sI H129 ca ((a1 + 6)).toNat).toInt = v21.toInt := (congrArg Int32.toInt e138).trans rfl
          have hz8 := tk_nn (sI H129 h0 (X.1.2 11 14)).toInt
          exact ret H129 locs129 _ _ dX12_readTest_146 ⟨hKp129, ⟨by omega, by omega, by omega, by omega, kb, by omega⟩⟩ hC129 hS129
        · refine q_if_ne hx hb (a := 0) (by decide) (tgt := 112) dX12_readTest_91 rfl (fun c140 => absurd c140 (by omega)) (fun c140 => ?_)
          refine lv_aload_n hx hb dX12_readTest_94 rfl (lv_at hl 1 rfl) ?_
          refine lv_bipush (v := 62) hx hb dX12_readTest_95 rfl ?_
          refine q_goIp (q_runV (As := [.int 62]) (rest := [.ref h0]) E hC117 hS123 (m_X12_isSign l X Γ H117 hC117 h0 g0 62 (a1 := 62) (by decide) ca gca uc) cw_X12_isSign cl_RX12_255 g0 ⟨rfl, rfl⟩ rfl hl.1 rfl (show _ ≤ _ from by simp [Value.category]) (by decide) dX12_readTest_97) hS123 (fun v141 locs141 hr141 hS141 => ?_)
          rcases hr141 with ⟨rfl, f141a⟩ | ⟨rfl, -⟩
          · refine q_if_ne hx hb (a := 1) (by decide) (tgt := 112) dX12_readTest_100 rfl (fun c142 => ?_) (fun c142 => absurd c142 (by omega))
            refine lv_iconst (v := 1) hx hb dX12_readTest_112 rfl ?_
            refine lv_goto (tgt := 117) hx hb dX12_readTest_113 rfl ?_
            refine q_goV (q_runV (As := [.int 1]) (rest := []) E hC117 hS141 (m_X12_must l X Γ H117 hC117 h0 g0 1 (a1 := 1) (by decide) ca gca uc (by omega) (by omega)) cw_X12_must cl_RX12_244 g0 ⟨rfl, rfl⟩ rfl hl.1 rfl (Nat.zero_le _) (by decide) dX12_readTest_117) hS141 (fun H143 locs143 hr143 hC143 hS143 => ?_)
            obtain ⟨hp143, hr143⟩ := hr143
            have hKp143 := hKp117.tr (hp143.mono rfl)
            replace kb : KB H0 H143 ca (a1 + 1) := KB.kp kb hp143 gca rfl
            obtain ⟨f143_0, f143_1, f143_2, f143_3, f143_4⟩ := hr143
            refine lv_aload_n hx hb dX12_readTest_120 rfl (lv_at hl 1 rfl) ?_
            refine q_getC E hC143 g0 fa_RX12_35 uc dX12_readTest_121 ?_
            refine lv_iload_n hx hb dX12_readTest_124 rfl (lv_at hl 2 rfl) ?_
            refine lv_iconst (v := 2) hx hb dX12_readTest_125 rfl ?_
            refine lv_iadd hx hb dX12_readTest_126 (lv_topi (fun v144 ev144 => ?_))
            have ev144i : v144.toInt = (a1 + 2) := i_add ev144 e1 (by decide) (by omega) (by omega)
            refine lv_aload_n hx hb dX12_readTest_127 rfl (lv_at hl 1 rfl) ?_
            refine lv_iconst (v := 0) hx hb dX12_readTest_128 rfl ?_
            refine lv_iload_n hx hb dX12_readTest_129 rfl (lv_at hl 0 rfl) ?_
            refine lv_iconst (v := 1) hx hb dX12_readTest_130 rfl ?_
            refine q_icmp_ne hx hb (a := v21.toInt) (b := 1) rfl (by decide) (tgt := 139) dX12_readTest_131 rfl (fun c145 => ?_) (fun c145 => absurd c145 (by omega))
            refine lv_sipush (v := 999) hx hb dX12_readTest_139 rfl ?_
            refine q_goI (q_runV (As := [.int 0, .int 999]) (rest := [.int v144, .ref ca]) E hC143 hS143 (m_X12_count l X Γ H143 hC143 h0 g0 0 (a1 := 0) (by decide) 999 (a2 := 999) (by decide) ca gca uc (by omega) (by omega) (by omega) (by omega)) cw_X12_count cl_RX12_248 g0 ⟨rfl, rfl⟩ rfl hl.1 rfl (show _ ≤ _ from by simp [Value.category]) (by decide) dX12_readTest_142) hS143 (fun v146 H146 locs146 hr146 hC146 hS146 => ?_)
            obtain ⟨hp146, hr146⟩ := hr146
            have hKp146 := hKp143.tr (hp146.mono rfl)
            replace kb : KB H0 H146 ca (a1 + 1) := KB.kp kb hp146 gca rfl
            obtain ⟨f146_0, f146_1, f146_2, f146_3, f146_4, f146_5, f146_6, f146_7⟩ := hr146
            refine q_cast E hC146 hS146 gca (a := (a1 + 2)) ev144i (by omega) (by omega) (cs_n244 (a := (a1 + 2)) (by omega) (by omega)) dX12_readTest_145 (fun H147 locs147 hC147 hS147 U147 => ?_)
            have hKp147 := Kp.upD gca rfl rfl (fun _ => ⟨fun _ => nd4 (by omega) (by omega), fun _ => by unfold dpu; omega, fun _ => by unfold dpn; omega⟩) U147 hKp146
            replace kb : KB H0 H147 ca (a1 + 1) := KB.up kb U147 (by omega)
            have m148 : (sI H147 h0 (X.1.2 11 12)).toInt = (sI H146 h0 (X.1.2 11 12)).toInt := congrArg Int32.toInt (up_nI U147 (ne_k g0 gca (by decide)))
            have m149 : (sI H147 h0 (X.1.2 11 14)).toInt = (sI H146 h0 (X.1.2 11 14)).toInt := congrArg Int32.toInt (up_nI U147 (ne_k g0 gca (by decide)))
            have m150 := congrArg tk m149
            have m151 : (sI H147 h0 (X.1.2 11 16)).toInt = (sI H146 h0 (X.1.2 11 16)).toInt := congrArg Int32.toInt (up_nI U147 (ne_k g0 gca (by decide)))
            have e152 := up_I U147
            have e153 := (up_nI (a' := ca) (j' := ((a1 + 6) : Int).toNat) U117 (fun h => by have h2 := h.2; omega)).trans e30
            have e154 := (kp_c (j := ((a1 + 6) : Int).toNat) hp143 gca rfl).trans e153
            have e155 := (kp_c (j := ((a1 + 6) : Int).toNat) hp146 gca rfl).trans e154
            have e156 := (up_nI (a' := ca) (j' := ((a1 + 6) : Int).toNat) U147 (fun h => by have h2 := h.2; omega)).trans e155
            have m157 : (sI H147 ca ((a1 + 6)).toNat).toInt = v21.toInt := (congrArg Int32.toInt e156).trans rfl
            have hz8 := tk_nn (sI H147 h0 (X.1.2 11 14)).toInt
            exact ret H147 locs147 _ _ dX12_readTest_146 ⟨hKp147, ⟨by omega, by omega, by omega, by omega, kb, by omega⟩⟩ hC147 hS147
          · refine q_if_ne hx hb (a := 0) (by decide) (tgt := 112) dX12_readTest_100 rfl (fun c158 => absurd c158 (by omega)) (fun c158 => ?_)
            refine lv_aload_n hx hb dX12_readTest_103 rfl (lv_at hl 1 rfl) ?_
            refine lv_bipush (v := 61) hx hb dX12_readTest_104 rfl ?_
            refine q_goIp (q_runV (As := [.int 61]) (rest := [.ref h0]) E hC117 hS141 (m_X12_isSign l X Γ H117 hC117 h0 g0 61 (a1 := 61) (by decide) ca gca uc) cw_X12_isSign cl_RX12_255 g0 ⟨rfl, rfl⟩ rfl hl.1 rfl (show _ ≤ _ from by simp [Value.category]) (by decide) dX12_readTest_106) hS141 (fun v159 locs159 hr159 hS159 => ?_)
            rcases hr159 with ⟨rfl, f159a⟩ | ⟨rfl, -⟩
            · refine q_if_eq hx hb (a := 1) (by decide) (tgt := 116) dX12_readTest_109 rfl (fun c160 => absurd c160 (by omega)) (fun c160 => ?_)
              refine lv_iconst (v := 1) hx hb dX12_readTest_112 rfl ?_
              refine lv_goto (tgt := 117) hx hb dX12_readTest_113 rfl ?_
              refine q_goV (q_runV (As := [.int 1]) (rest := []) E hC117 hS159 (m_X12_must l X Γ H117 hC117 h0 g0 1 (a1 := 1) (by decide) ca gca uc (by omega) (by omega)) cw_X12_must cl_RX12_244 g0 ⟨rfl, rfl⟩ rfl hl.1 rfl (Nat.zero_le _) (by decide) dX12_readTest_117) hS159 (fun H161 locs161 hr161 hC161 hS161 => ?_)
              obtain ⟨hp161, hr161⟩ := hr161
              have hKp161 := hKp117.tr (hp161.mono rfl)
              replace kb : KB H0 H161 ca (a1 + 1) := KB.kp kb hp161 gca rfl
              obtain ⟨f161_0, f161_1, f161_2, f161_3, f161_4⟩ := hr161
              refine lv_aload_n hx hb dX12_readTest_120 rfl (lv_at hl 1 rfl) ?_
              refine q_getC E hC161 g0 fa_RX12_35 uc dX12_readTest_121 ?_
              refine lv_iload_n hx hb dX12_readTest_124 rfl (lv_at hl 2 rfl) ?_
              refine lv_iconst (v := 2) hx hb dX12_readTest_125 rfl ?_
              refine lv_iadd hx hb dX12_readTest_126 (lv_topi (fun v162 ev162 => ?_))
              have ev162i : v162.toInt = (a1 + 2) := i_add ev162 e1 (by decide) (by omega) (by omega)
              refine lv_aload_n hx hb dX12_readTest_127 rfl (lv_at hl 1 rfl) ?_
              refine lv_iconst (v := 0) hx hb dX12_readTest_128 rfl ?_
              refine lv_iload_n hx hb dX12_readTest_129 rfl (lv_at hl 0 rfl) ?_
              refine lv_iconst (v := 1) hx hb dX12_readTest_130 rfl ?_
              refine q_icmp_ne hx hb (a := v21.toInt) (b := 1) rfl (by decide) (tgt := 139) dX12_readTest_131 rfl (fun c163 => ?_) (fun c163 => absurd c163 (by omega))
              refine lv_sipush (v := 999) hx hb dX12_readTest_139 rfl ?_
              refine q_goI (q_runV (As := [.int 0, .int 999]) (rest := [.int v162, .ref ca]) E hC161 hS161 (m_X12_count l X Γ H161 hC161 h0 g0 0 (a1 := 0) (by decide) 999 (a2 := 999) (by decide) ca gca uc (by omega) (by omega) (by omega) (by omega)) cw_X12_count cl_RX12_248 g0 ⟨rfl, rfl⟩ rfl hl.1 rfl (show _ ≤ _ from by simp [Value.category]) (by decide) dX12_readTest_142) hS161 (fun v164 H164 locs164 hr164 hC164 hS164 => ?_)
              obtain ⟨hp164, hr164⟩ := hr164
              have hKp164 := hKp161.tr (hp164.mono rfl)
              replace kb : KB H0 H164 ca (a1 + 1) := KB.kp kb hp164 gca rfl
              obtain ⟨f164_0, f164_1, f164_2, f164_3, f164_4, f164_5, f164_6, f164_7⟩ := hr164
              refine q_cast E hC164 hS164 gca (a := (a1 + 2)) ev162i (by omega) (by omega) (cs_n244 (a := (a1 + 2)) (by omega) (by omega)) dX12_readTest_145 (fun H165 locs165 hC165 hS165 U165 => ?_)
              have hKp165 := Kp.upD gca rfl rfl (fun _ => ⟨fun _ => nd4 (by omega) (by omega), fun _ => by unfold dpu; omega, fun _ => by unfold dpn; omega⟩) U165 hKp164
              replace kb : KB H0 H165 ca (a1 + 1) := KB.up kb U165 (by omega)
              have m166 : (sI H165 h0 (X.1.2 11 12)).toInt = (sI H164 h0 (X.1.2 11 12)).toInt := congrArg Int32.toInt (up_nI U165 (ne_k g0 gca (by decide)))
              have m167 : (sI H165 h0 (X.1.2 11 14)).toInt = (sI H164 h0 (X.1.2 11 14)).toInt := congrArg Int32.toInt (up_nI U165 (ne_k g0 gca (by decide)))
              have m168 := congrArg tk m167
              have m169 : (sI H165 h0 (X.1.2 11 16)).toInt = (sI H164 h0 (X.1.2 11 16)).toInt := congrArg Int32.toInt (up_nI U165 (ne_k g0 gca (by decide)))
              have e170 := up_I U165
              have e171 := (up_nI (a' := ca) (j' := ((a1 + 6) : Int).toNat) U117 (fun h => by have h2 := h.2; omega)).trans e30
              have e172 := (kp_c (j := ((a1 + 6) : Int).toNat) hp161 gca rfl).trans e171
              have e173 := (kp_c (j := ((a1 + 6) : Int).toNat) hp164 gca rfl).trans e172
              have e174 := (up_nI (a' := ca) (j' := ((a1 + 6) : Int).toNat) U165 (fun h => by have h2 := h.2; omega)).trans e173
              have m175 : (sI H165 ca ((a1 + 6)).toNat).toInt = v21.toInt := (congrArg Int32.toInt e174).trans rfl
              have hz8 := tk_nn (sI H165 h0 (X.1.2 11 14)).toInt
              exact ret H165 locs165 _ _ dX12_readTest_146 ⟨hKp165, ⟨by omega, by omega, by omega, by omega, kb, by omega⟩⟩ hC165 hS165
            · refine q_if_eq hx hb (a := 0) (by decide) (tgt := 116) dX12_readTest_109 rfl (fun c176 => ?_) (fun c176 => absurd c176 (by omega))
              refine lv_iconst (v := 0) hx hb dX12_readTest_116 rfl ?_
              refine q_goV (q_runV (As := [.int 0]) (rest := []) E hC117 hS159 (m_X12_must l X Γ H117 hC117 h0 g0 0 (a1 := 0) (by decide) ca gca uc (by omega) (by omega)) cw_X12_must cl_RX12_244 g0 ⟨rfl, rfl⟩ rfl hl.1 rfl (Nat.zero_le _) (by decide) dX12_readTest_117) hS159 (fun H177 locs177 hr177 hC177 hS177 => ?_)
              obtain ⟨hp177, hr177⟩ := hr177
              have hKp177 := hKp117.tr (hp177.mono rfl)
              replace kb : KB H0 H177 ca (a1 + 1) := KB.kp kb hp177 gca rfl
              obtain ⟨f177_0, f177_1, f177_2, f177_3, f177_4⟩ := hr177
              refine lv_aload_n hx hb dX12_readTest_120 rfl (lv_at hl 1 rfl) ?_
              refine q_getC E hC177 g0 fa_RX12_35 uc dX12_readTest_121 ?_
              refine lv_iload_n hx hb dX12_readTest_124 rfl (lv_at hl 2 rfl) ?_
              refine lv_iconst (v := 2) hx hb dX12_readTest_125 rfl ?_
              refine lv_iadd hx hb dX12_readTest_126 (lv_topi (fun v178 ev178 => ?_))
              have ev178i : v178.toInt = (a1 + 2) := i_add ev178 e1 (by decide) (by omega) (by omega)
              refine lv_aload_n hx hb dX12_readTest_127 rfl (lv_at hl 1 rfl) ?_
              refine lv_iconst (v := 0) hx hb dX12_readTest_128 rfl ?_
              refine lv_iload_n hx hb dX12_readTest_129 rfl (lv_at hl 0 rfl) ?_
              refine lv_iconst (v := 1) hx hb dX12_readTest_130 rfl ?_
              refine q_icmp_ne hx hb (a := v21.toInt) (b := 1) rfl (by decide) (tgt := 139) dX12_readTest_131 rfl (fun c179 => ?_) (fun c179 => absurd c179 (by omega))
              refine lv_sipush (v := 999) hx hb dX12_readTest_139 rfl ?_
              refine q_goI (q_runV (As := [.int 0, .int 999]) (rest := [.int v178, .ref ca]) E hC177 hS177 (m_X12_count l X Γ H177 hC177 h0 g0 0 (a1 := 0) (by decide) 999 (a2 := 999) (by decide) ca gca uc (by omega) (by omega) (by omega) (by omega)) cw_X12_count cl_RX12_248 g0 ⟨rfl, rfl⟩ rfl hl.1 rfl (show _ ≤ _ from by simp [Value.category]) (by decide) dX12_readTest_142) hS177 (fun v180 H180 locs180 hr180 hC180 hS180 => ?_)
              obtain ⟨hp180, hr180⟩ := hr180
              have hKp180 := hKp177.tr (hp180.mono rfl)
              replace kb : KB H0 H180 ca (a1 + 1) := KB.kp kb hp180 gca rfl
              obtain ⟨f180_0, f180_1, f180_2, f180_3, f180_4, f180_5, f180_6, f180_7⟩ := hr180
              refine q_cast E hC180 hS180 gca (a := (a1 + 2)) ev178i (by omega) (by omega) (cs_n244 (a := (a1 + 2)) (by omega) (by omega)) dX12_readTest_145 (fun H181 locs181 hC181 hS181 U181 => ?_)
              have hKp181 := Kp.upD gca rfl rfl (fun _ => ⟨fun _ => nd4 (by omega) (by omega), fun _ => by unfold dpu; omega, fun _ => by unfold dpn; omega⟩) U181 hKp180
              replace kb : KB H0 H181 ca (a1 + 1) := KB.up kb U181 (by omega)
              have m182 : (sI H181 h0 (X.1.2 11 12)).toInt = (sI H180 h0 (X.1.2 11 12)).toInt := congrArg Int32.toInt (up_nI U181 (ne_k g0 gca (by decide)))
              have m183 : (sI H181 h0 (X.1.2 11 14)).toInt = (sI H180 h0 (X.1.2 11 14)).toInt := congrArg Int32.toInt (up_nI U181 (ne_k g0 gca (by decide)))
              have m184 := congrArg tk m183
              have m185 : (sI H181 h0 (X.1.2 11 16)).toInt = (sI H180 h0 (X.1.2 11 16)).toInt := congrArg Int32.toInt (up_nI U181 (ne_k g0 gca (by decide)))
              have e186 := up_I U181
              have e187 := (up_nI (a' := ca) (j' := ((a1 + 6) : Int).toNat) U117 (fun h => by have h2 := h.2; omega)).trans e30
              have e188 := (kp_c (j := ((a1 + 6) : Int).toNat) hp177 gca rfl).trans e187
              have e189 := (kp_c (j := ((a1 + 6) : Int).toNat) hp180 gca rfl).trans e188
              have e190 := (up_nI (a' := ca) (j' := ((a1 + 6) : Int).toNat) U181 (fun h => by have h2 := h.2; omega)).trans e189
              have m191 : (sI H181 ca ((a1 + 6)).toNat).toInt = v21.toInt := (congrArg Int32.toInt e190).trans rfl
              have hz8 := tk_nn (sI H181 h0 (X.1.2 11 14)).toInt
              exact ret H181 locs181 _ _ dX12_readTest_146 ⟨hKp181, ⟨by omega, by omega, by omega, by omega, kb, by omega⟩⟩ hC181 hS181
  · refine lv_iconst (v := 1) hx hb dX12_readTest_10 rfl ?_
    refine lv_goto (tgt := 15) hx hb dX12_readTest_11 rfl ?_
    refine q_goV (q_runV (As := [.int 1]) (rest := []) E hC0 hS21 (m_X12_must l X Γ H0 hC0 h0 g0 1 (a1 := 1) (by decide) ca gca uc (by omega) (by omega)) cw_X12_must cl_RX12_244 g0 ⟨rfl, rfl⟩ rfl hl.1 rfl (Nat.zero_le _) (by decide) dX12_readTest_15) hS21 (fun H192 locs192 hr192 hC192 hS192 => ?_)
    obtain ⟨hp192, hr192⟩ := hr192
    have hKp192 := hKp0.tr (hp192.mono rfl)
    replace kb : KB H0 H192 ca (a1 + 1) := KB.kp kb hp192 gca rfl
    obtain ⟨f192_0, f192_1, f192_2, f192_3, f192_4⟩ := hr192
    refine lv_aload_n hx hb dX12_readTest_18 rfl (lv_at hl 1 rfl) ?_
    refine q_getC E hC192 g0 fa_RX12_35 uc dX12_readTest_19 ?_
    refine lv_iload_n hx hb dX12_readTest_22 rfl (lv_at hl 2 rfl) ?_
    refine lv_bipush (v := 6) hx hb dX12_readTest_23 rfl ?_
    refine lv_iadd hx hb dX12_readTest_25 (lv_topi (fun v193 ev193 => ?_))
    have ev193i : v193.toInt = (a1 + 6) := i_add ev193 e1 (by decide) (by omega) (by omega)
    refine lv_iload_n hx hb dX12_readTest_26 rfl (lv_at hl 0 rfl) ?_
    refine q_cast E hC192 hS192 gca (a := (a1 + 6)) ev193i (by omega) (by omega) (cs_n244 (a := (a1 + 6)) (by omega) (by omega)) dX12_readTest_27 (fun H194 locs194 hC194 hS194 U194 => ?_)
    have hKp194 := Kp.upD gca rfl rfl (fun _ => ⟨fun _ => nd4 (by omega) (by omega), fun _ => by unfold dpu; omega, fun _ => by unfold dpn; omega⟩) U194 hKp192
    replace kb : KB H0 H194 ca (a1 + 1) := KB.up kb U194 (by omega)
    have m195 : (sI H194 h0 (X.1.2 11 12)).toInt = (sI H192 h0 (X.1.2 11 12)).toInt := congrArg Int32.toInt (up_nI U194 (ne_k g0 gca (by decide)))
    have m196 : (sI H194 h0 (X.1.2 11 14)).toInt = (sI H192 h0 (X.1.2 11 14)).toInt := congrArg Int32.toInt (up_nI U194 (ne_k g0 gca (by decide)))
    have m197 := congrArg tk m196
    have m198 : (sI H194 h0 (X.1.2 11 16)).toInt = (sI H192 h0 (X.1.2 11 16)).toInt := congrArg Int32.toInt (up_nI U194 (ne_k g0 gca (by decide)))
    have e199 := up_I U194
    refine lv_iload_n hx hb dX12_readTest_28 rfl (lv_at hl 0 rfl) ?_
    refine lv_iconst (v := 1) hx hb dX12_readTest_29 rfl ?_
    refine q_icmp_ne hx hb (a := v21.toInt) (b := 1) rfl (by decide) (tgt := 46) dX12_readTest_30 rfl (fun c200 => ?_) (fun c200 => ?_)
    · refine lv_aload_n hx hb dX12_readTest_46 rfl (lv_at hl 1 rfl) ?_
      refine q_getI E hC194 g0 fa_RX12_218 dX12_readTest_47 (fun v201 ev201 lv201 uv201 => ?_)
      have m202 : (sI H194 h0 (X.1.2 11 12)).toInt = v201.toInt := (congrArg Int32.toInt ev201).trans rfl
      refine q_if_gt hx hb (a := v201.toInt) rfl (tgt := 58) dX12_readTest_50 rfl (fun c203 => ?_) (fun c203 => ?_)
      · have m204 : (sI H194 ca ((a1 + 6)).toNat).toInt = v21.toInt := (congrArg Int32.toInt e199).trans rfl
        have hz8 := tk_nn (sI H194 h0 (X.1.2 11 14)).toInt
        exact ret H194 locs194 _ _ dX12_readTest_58 ⟨hKp194, ⟨by omega, by omega, by omega, by omega, kb, by omega⟩⟩ hC194 hS194
      · refine lv_iload_n hx hb dX12_readTest_53 rfl (lv_at hl 0 rfl) ?_
        refine lv_iconst (v := 2) hx hb dX12_readTest_54 rfl ?_
        refine q_icmp_ne hx hb (a := v21.toInt) (b := 2) rfl (by decide) (tgt := 59) dX12_readTest_55 rfl (fun c205 => ?_) (fun c205 => ?_)
        · refine lv_aload_n hx hb dX12_readTest_59 rfl (lv_at hl 1 rfl) ?_
          refine q_getC E hC194 g0 fa_RX12_35 uc dX12_readTest_60 ?_
          refine lv_iload_n hx hb dX12_readTest_63 rfl (lv_at hl 2 rfl) ?_
          refine lv_bipush (v := 7) hx hb dX12_readTest_64 rfl ?_
          refine lv_iadd hx hb dX12_readTest_66 (lv_topi (fun v206 ev206 => ?_))
          have ev206i : v206.toInt = (a1 + 7) := i_add ev206 e1 (by decide) (by omega) (by omega)
          refine lv_aload_n hx hb dX12_readTest_67 rfl (lv_at hl 1 rfl) ?_
          refine q_getI E hC194 g0 fa_RX12_120 dX12_readTest_68 (fun v207 ev207 _ _ => ?_)
          have m208 : (sI H194 h0 (X.1.2 11 14)).toInt = v207.toInt := (congrArg Int32.toInt ev207).trans rfl
          refine lv_iconst (v := 3) hx hb dX12_readTest_71 rfl ?_
          refine q_icmp_ne hx hb (a := v207.toInt) (b := 3) rfl (by decide) (tgt := 82) dX12_readTest_72 rfl (fun c209 => ?_) (fun c209 => ?_)
          · refine lv_iconst (v := 0) hx hb dX12_readTest_82 rfl ?_
            refine q_cast E hC194 hS194 gca (a := (a1 + 7)) ev206i (by omega) (by omega) (cs_n244 (a := (a1 + 7)) (by omega) (by omega)) dX12_readTest_83 (fun H210 locs210 hC210 hS210 U210 => ?_)
            have hKp210 := Kp.upD gca rfl rfl (fun _ => ⟨fun _ => nd4 (by omega) (by omega), fun _ => by unfold dpu; omega, fun _ => by unfold dpn; omega⟩) U210 hKp194
            replace kb : KB H0 H210 ca (a1 + 1) := KB.up kb U210 (by omega)
            have m211 : (sI H210 h0 (X.1.2 11 12)).toInt = (sI H194 h0 (X.1.2 11 12)).toInt := congrArg Int32.toInt (up_nI U210 (ne_k g0 gca (by decide)))
            have m212 : (sI H210 h0 (X.1.2 11 14)).toInt = (sI H194 h0 (X.1.2 11 14)).toInt := congrArg Int32.toInt (up_nI U210 (ne_k g0 gca (by decide)))
            have m213 := congrArg tk m212
            have m214 : (sI H210 h0 (X.1.2 11 16)).toInt = (sI H194 h0 (X.1.2 11 16)).toInt := congrArg Int32.toInt (up_nI U210 (ne_k g0 gca (by decide)))
            have e215 := up_I U210
            refine lv_aload_n hx hb dX12_readTest_84 rfl (lv_at hl 1 rfl) ?_
            refine lv_aload_n hx hb dX12_readTest_85 rfl (lv_at hl 1 rfl) ?_
            refine lv_bipush (v := 60) hx hb dX12_readTest_86 rfl ?_
            refine q_goIp (q_runV (As := [.int 60]) (rest := [.ref h0]) E hC210 hS210 (m_X12_isSign l X Γ H210 hC210 h0 g0 60 (a1 := 60) (by decide) ca gca uc) cw_X12_isSign cl_RX12_255 g0 ⟨rfl, rfl⟩ rfl hl.1 rfl (show _ ≤ _ from by simp [Value.category]) (by decide) dX12_readTest_88) hS210 (fun v216 locs216 hr216 hS216 => ?_)
            rcases hr216 with ⟨rfl, f216a⟩ | ⟨rfl, -⟩
            · refine q_if_ne hx hb (a := 1) (by decide) (tgt := 112) dX12_readTest_91 rfl (fun c217 => ?_) (fun c217 => absurd c217 (by omega))
              refine lv_iconst (v := 1) hx hb dX12_readTest_112 rfl ?_
              refine lv_goto (tgt := 117) hx hb dX12_readTest_113 rfl ?_
              refine q_goV (q_runV (As := [.int 1]) (rest := []) E hC210 hS216 (m_X12_must l X Γ H210 hC210 h0 g0 1 (a1 := 1) (by decide) ca gca uc (by omega) (by omega)) cw_X12_must cl_RX12_244 g0 ⟨rfl, rfl⟩ rfl hl.1 rfl (Nat.zero_le _) (by decide) dX12_readTest_117) hS216 (fun H218 locs218 hr218 hC218 hS218 => ?_)
              obtain ⟨hp218, hr218⟩ := hr218
              have hKp218 := hKp210.tr (hp218.mono rfl)
              replace kb : KB H0 H218 ca (a1 + 1) := KB.kp kb hp218 gca rfl
              obtain ⟨f218_0, f218_1, f218_2, f218_3, f218_4⟩ := hr218
              refine lv_aload_n hx hb dX12_readTest_120 rfl (lv_at hl 1 rfl) ?_
              refine q_getC E hC218 g0 fa_RX12_35 uc dX12_readTest_121 ?_
              refine lv_iload_n hx hb dX12_readTest_124 rfl (lv_at hl 2 rfl) ?_
              refine lv_iconst (v := 2) hx hb dX12_readTest_125 rfl ?_
              refine lv_iadd hx hb dX12_readTest_126 (lv_topi (fun v219 ev219 => ?_))
              have ev219i : v219.toInt = (a1 + 2) := i_add ev219 e1 (by decide) (by omega) (by omega)
              refine lv_aload_n hx hb dX12_readTest_127 rfl (lv_at hl 1 rfl) ?_
              refine lv_iconst (v := 0) hx hb dX12_readTest_128 rfl ?_
              refine lv_iload_n hx hb dX12_readTest_129 rfl (lv_at hl 0 rfl) ?_
              refine lv_iconst (v := 1) hx hb dX12_readTest_130 rfl ?_
              refine q_icmp_ne hx hb (a := v21.toInt) (b := 1) rfl (by decide) (tgt := 139) dX12_readTest_131 rfl (fun c220 => ?_) (fun c220 => ?_)
              · refine lv_sipush (v := 999) hx hb dX12_readTest_139 rfl ?_
                refine q_goI (q_runV (As := [.int 0, .int 999]) (rest := [.int v219, .ref ca]) E hC218 hS218 (m_X12_count l X Γ H218 hC218 h0 g0 0 (a1 := 0) (by decide) 999 (a2 := 999) (by decide) ca gca uc (by omega) (by omega) (by omega) (by omega)) cw_X12_count cl_RX12_248 g0 ⟨rfl, rfl⟩ rfl hl.1 rfl (show _ ≤ _ from by simp [Value.category]) (by decide) dX12_readTest_142) hS218 (fun v221 H221 locs221 hr221 hC221 hS221 => ?_)
                obtain ⟨hp221, hr221⟩ := hr221
                have hKp221 := hKp218.tr (hp221.mono rfl)
                replace kb : KB H0 H221 ca (a1 + 1) := KB.kp kb hp221 gca rfl
                obtain ⟨f221_0, f221_1, f221_2, f221_3, f221_4, f221_5, f221_6, f221_7⟩ := hr221
                refine q_cast E hC221 hS221 gca (a := (a1 + 2)) ev219i (by omega) (by omega) (cs_n244 (a := (a1 + 2)) (by omega) (by omega)) dX12_readTest_145 (fun H222 locs222 hC222 hS222 U222 => ?_)
                have hKp222 := Kp.upD gca rfl rfl (fun _ => ⟨fun _ => nd4 (by omega) (by omega), fun _ => by unfold dpu; omega, fun _ => by unfold dpn; omega⟩) U222 hKp221
                replace kb : KB H0 H222 ca (a1 + 1) := KB.up kb U222 (by omega)
                have m223 : (sI H222 h0 (X.1.2 11 12)).toInt = (sI H221 h0 (X.1.2 11 12)).toInt := congrArg Int32.toInt (up_nI U222 (ne_k g0 gca (by decide)))
                have m224 : (sI H222 h0 (X.1.2 11 14)).toInt = (sI H221 h0 (X.1.2 11 14)).toInt := congrArg Int32.toInt (up_nI U222 (ne_k g0 gca (by decide)))
                have m225 := congrArg tk m224
                have m226 : (sI H222 h0 (X.1.2 11 16)).toInt = (sI H221 h0 (X.1.2 11 16)).toInt := congrArg Int32.toInt (up_nI U222 (ne_k g0 gca (by decide)))
                have e227 := up_I U222
                have e228 := (up_nI (a' := ca) (j' := ((a1 + 6) : Int).toNat) U210 (fun h => by have h2 := h.2; omega)).trans e199
                have e229 := (kp_c (j := ((a1 + 6) : Int).toNat) hp218 gca rfl).trans e228
                have e230 := (kp_c (j := ((a1 + 6) : Int).toNat) hp221 gca rfl).trans e229
                have e231 := (up_nI (a' := ca) (j' := ((a1 + 6) : Int).toNat) U222 (fun h => by have h2 := h.2; omega)).trans e230
                have m232 : (sI H222 ca ((a1 + 6)).toNat).toInt = v21.toInt := (congrArg Int32.toInt e231).trans rfl
                have hz8 := tk_nn (sI H222 h0 (X.1.2 11 14)).toInt
                exact ret H222 locs222 _ _ dX12_readTest_146 ⟨hKp222, ⟨by omega, by omega, by omega, by omega, kb, by omega⟩⟩ hC222 hS222
              · refine lv_bipush (v := 99) hx hb dX12_readTest_134 rfl ?_
                refine lv_goto (tgt := 142) hx hb dX12_readTest_136 rfl ?_
                refine q_goI (q_runV (As := [.int 0, .int 99]) (rest := [.int v219, .ref ca]) E hC218 hS218 (m_X12_count l X Γ H218 hC218 h0 g0 0 (a1 := 0) (by decide) 99 (a2 := 99) (by decide) ca gca uc (by omega) (by omega) (by omega) (by omega)) cw_X12_count cl_RX12_248 g0 ⟨rfl, rfl⟩ rfl hl.1 rfl (show _ ≤ _ from by simp [Value.category]) (by decide) dX12_readTest_142) hS218 (fun v233 H233 locs233 hr233 hC233 hS233 => ?_)
                obtain ⟨hp233, hr233⟩ := hr233
                have hKp233 := hKp218.tr (hp233.mono rfl)
                replace kb : KB H0 H233 ca (a1 + 1) := KB.kp kb hp233 gca rfl
                obtain ⟨f233_0, f233_1, f233_2, f233_3, f233_4, f233_5, f233_6, f233_7⟩ := hr233
                refine q_cast E hC233 hS233 gca (a := (a1 + 2)) ev219i (by omega) (by omega) (cs_n244 (a := (a1 + 2)) (by omega) (by omega)) dX12_readTest_145 (fun H234 locs234 hC234 hS234 U234 => ?_)
                have hKp234 := Kp.upD gca rfl rfl (fun _ => ⟨fun _ => nd4 (by omega) (by omega), fun _ => by unfold dpu; omega, fun _ => by unfold dpn; omega⟩) U234 hKp233
                replace kb : KB H0 H234 ca (a1 + 1) := KB.up kb U234 (by omega)
                have m235 : (sI H234 h0 (X.1.2 11 12)).toInt = (sI H233 h0 (X.1.2 11 12)).toInt := congrArg Int32.toInt (up_nI U234 (ne_k g0 gca (by decide)))
                have m236 : (sI H234 h0 (X.1.2 11 14)).toInt = (sI H233 h0 (X.1.2 11 14)).toInt := congrArg Int32.toInt (up_nI U234 (ne_k g0 gca (by decide)))
                have m237 := congrArg tk m236
                have m238 : (sI H234 h0 (X.1.2 11 16)).toInt = (sI H233 h0 (X.1.2 11 16)).toInt := congrArg Int32.toInt (up_nI U234 (ne_k g0 gca (by decide)))
                have e239 := up_I U234
                have e240 := (up_nI (a' := ca) (j' := ((a1 + 6) : Int).toNat) U210 (fun h => by have h2 := h.2; omega)).trans e199
                have e241 := (kp_c (j := ((a1 + 6) : Int).toNat) hp218 gca rfl).trans e240
                have e242 := (kp_c (j := ((a1 + 6) : Int).toNat) hp233 gca rfl).trans e241
                have e243 := (up_nI (a' := ca) (j' := ((a1 + 6) : Int).toNat) U234 (fun h => by have h2 := h.2; omega)).trans e242
                have m244 : (sI H234 ca ((a1 + 6)).toNat).toInt = v21.toInt := (congrArg Int32.toInt e243).trans rfl
                have hz8 := tk_nn (sI H234 h0 (X.1.2 11 14)).toInt
                exact ret H234 locs234 _ _ dX12_readTest_146 ⟨hKp234, ⟨by omega, by omega, by omega, by omega, kb, by omega⟩⟩ hC234 hS234
            · refine q_if_ne hx hb (a := 0) (by decide) (tgt := 112) dX12_readTest_91 rfl (fun c245 => absurd c245 (by omega)) (fun c245 => ?_)
              refine lv_aload_n hx hb dX12_readTest_94 rfl (lv_at hl 1 rfl) ?_
              refine lv_bipush (v := 62) hx hb dX12_readTest_95 rfl ?_
              refine q_goIp (q_runV (As := [.int 62]) (rest := [.ref h0]) E hC210 hS216 (m_X12_isSign l X Γ H210 hC210 h0 g0 62 (a1 := 62) (by decide) ca gca uc) cw_X12_isSign cl_RX12_255 g0 ⟨rfl, rfl⟩ rfl hl.1 rfl (show _ ≤ _ from by simp [Value.category]) (by decide) dX12_readTest_97) hS216 (fun v246 locs246 hr246 hS246 => ?_)
              rcases hr246 with ⟨rfl, f246a⟩ | ⟨rfl, -⟩
              · refine q_if_ne hx hb (a := 1) (by decide) (tgt := 112) dX12_readTest_100 rfl (fun c247 => ?_) (fun c247 => absurd c247 (by omega))
                refine lv_iconst (v := 1) hx hb dX12_readTest_112 rfl ?_
                refine lv_goto (tgt := 117) hx hb dX12_readTest_113 rfl ?_
                refine q_goV (q_runV (As := [.int 1]) (rest := []) E hC210 hS246 (m_X12_must l X Γ H210 hC210 h0 g0 1 (a1 := 1) (by decide) ca gca uc (by omega) (by omega)) cw_X12_must cl_RX12_244 g0 ⟨rfl, rfl⟩ rfl hl.1 rfl (Nat.zero_le _) (by decide) dX12_readTest_117) hS246 (fun H248 locs248 hr248 hC248 hS248 => ?_)
                obtain ⟨hp248, hr248⟩ := hr248
                have hKp248 := hKp210.tr (hp248.mono rfl)
                replace kb : KB H0 H248 ca (a1 + 1) := KB.kp kb hp248 gca rfl
                obtain ⟨f248_0, f248_1, f248_2, f248_3, f248_4⟩ := hr248
                refine lv_aload_n hx hb dX12_readTest_120 rfl (lv_at hl 1 rfl) ?_
                refine q_getC E hC248 g0 fa_RX12_35 uc dX12_readTest_121 ?_
                refine lv_iload_n hx hb dX12_readTest_124 rfl (lv_at hl 2 rfl) ?_
                refine lv_iconst (v := 2) hx hb dX12_readTest_125 rfl ?_
                refine lv_iadd hx hb dX12_readTest_126 (lv_topi (fun v249 ev249 => ?_))
                have ev249i : v249.toInt = (a1 + 2) := i_add ev249 e1 (by decide) (by omega) (by omega)
                refine lv_aload_n hx hb dX12_readTest_127 rfl (lv_at hl 1 rfl) ?_
                refine lv_iconst (v := 0) hx hb dX12_readTest_128 rfl ?_
                refine lv_iload_n hx hb dX12_readTest_129 rfl (lv_at hl 0 rfl) ?_
                refine lv_iconst (v := 1) hx hb dX12_readTest_130 rfl ?_
                refine q_icmp_ne hx hb (a := v21.toInt) (b := 1) rfl (by decide) (tgt := 139) dX12_readTest_131 rfl (fun c250 => ?_) (fun c250 => ?_)
                · refine lv_sipush (v := 999) hx hb dX12_readTest_139 rfl ?_
                  refine q_goI (q_runV (As := [.int 0, .int 999]) (rest := [.int v249, .ref ca]) E hC248 hS248 (m_X12_count l X Γ H248 hC248 h0 g0 0 (a1 := 0) (by decide) 999 (a2 := 999) (by decide) ca gca uc (by omega) (by omega) (by omega) (by omega)) cw_X12_count cl_RX12_248 g0 ⟨rfl, rfl⟩ rfl hl.1 rfl (show _ ≤ _ from by simp [Value.category]) (by decide) dX12_readTest_142) hS248 (fun v251 H251 locs251 hr251 hC251 hS251 => ?_)
                  obtain ⟨hp251, hr251⟩ := hr251
                  have hKp251 := hKp248.tr (hp251.mono rfl)
                  replace kb : KB H0 H251 ca (a1 + 1) := KB.kp kb hp251 gca rfl
                  obtain ⟨f251_0, f251_1, f251_2, f251_3, f251_4, f251_5, f251_6, f251_7⟩ := hr251
                  refine q_cast E hC251 hS251 gca (a := (a1 + 2)) ev249i (by omega) (by omega) (cs_n244 (a := (a1 + 2)) (by omega) (by omega)) dX12_readTest_145 (fun H252 locs252 hC252 hS252 U252 => ?_)
                  have hKp252 := Kp.upD gca rfl rfl (fun _ => ⟨fun _ => nd4 (by omega) (by omega), fun _ => by unfold dpu; omega, fun _ => by unfold dpn; omega⟩) U252 hKp251
                  replace kb : KB H0 H252 ca (a1 + 1) := KB.up kb U252 (by omega)
                  have m253 : (sI H252 h0 (X.1.2 11 12)).toInt = (sI H251 h0 (X.1.2 11 12)).toInt := congrArg Int32.toInt (up_nI U252 (ne_k g0 gca (by decide)))
                  have m254 : (sI H252 h0 (X.1.2 11 14)).toInt = (sI H251 h0 (X.1.2 11 14)).toInt := congrArg Int32.toInt (up_nI U252 (ne_k g0 gca (by decide)))
                  have m255 := congrArg tk m254
                  have m256 : (sI H252 h0 (X.1.2 11 16)).toInt = (sI H251 h0 (X.1.2 11 16)).toInt := congrArg Int32.toInt (up_nI U252 (ne_k g0 gca (by decide)))
                  have e257 := up_I U252
                  have e258 := (up_nI (a' := ca) (j' := ((a1 + 6) : Int).toNat) U210 (fun h => by have h2 := h.2; omega)).trans e199
                  have e259 := (kp_c (j := ((a1 + 6) : Int).toNat) hp248 gca rfl).trans e258
                  have e260 := (kp_c (j := ((a1 + 6) : Int).toNat) hp251 gca rfl).trans e259
                  have e261 := (up_nI (a' := ca) (j' := ((a1 + 6) : Int).toNat) U252 (fun h => by have h2 := h.2; omega)).trans e260
                  have m262 : (sI H252 ca ((a1 + 6)).toNat).toInt = v21.toInt := (congrArg Int32.toInt e261).trans rfl
                  have hz8 := tk_nn (sI H252 h0 (X.1.2 11 14)).toInt
                  exact ret H252 locs252 _ _ dX12_readTest_146 ⟨hKp252, ⟨by omega, by omega, by omega, by omega, kb, by omega⟩⟩ hC252 hS252
                · refine lv_bipush (v := 99) hx hb dX12_readTest_134 rfl ?_
                  refine lv_goto (tgt := 142) hx hb dX12_readTest_136 rfl ?_
                  refine q_goI (q_runV (As := [.int 0, .int 99]) (rest := [.int v249, .ref ca]) E hC248 hS248 (m_X12_count l X Γ H248 hC248 h0 g0 0 (a1 := 0) (by decide) 99 (a2 := 99) (by decide) ca gca uc (by omega) (by omega) (by omega) (by omega)) cw_X12_count cl_RX12_248 g0 ⟨rfl, rfl⟩ rfl hl.1 rfl (show _ ≤ _ from by simp [Value.category]) (by decide) dX12_readTest_142) hS248 (fun v263 H263 locs263 hr263 hC263 hS263 => ?_)
                  obtain ⟨hp263, hr263⟩ := hr263
                  have hKp263 := hKp248.tr (hp263.mono rfl)
                  replace kb : KB H0 H263 ca (a1 + 1) := KB.kp kb hp263 gca rfl
                  obtain ⟨f263_0, f263_1, f263_2, f263_3, f263_4, f263_5, f263_6, f263_7⟩ := hr263
                  refine q_cast E hC263 hS263 gca (a := (a1 + 2)) ev249i (by omega) (by omega) (cs_n244 (a := (a1 + 2)) (by omega) (by omega)) dX12_readTest_145 (fun H264 locs264 hC264 hS264 U264 => ?_)
                  have hKp264 := Kp.upD gca rfl rfl (fun _ => ⟨fun _ => nd4 (by omega) (by omega), fun _ => by unfold dpu; omega, fun _ => by unfold dpn; omega⟩) U264 hKp263
                  replace kb : KB H0 H264 ca (a1 + 1) := KB.up kb U264 (by omega)
                  have m265 : (sI H264 h0 (X.1.2 11 12)).toInt = (sI H263 h0 (X.1.2 11 12)).toInt := congrArg Int32.toInt (up_nI U264 (ne_k g0 gca (by decide)))
                  have m266 : (sI H264 h0 (X.1.2 11 14)).toInt = (sI H263 h0 (X.1.2 11 14)).toInt := congrArg Int32.toInt (up_nI U264 (ne_k g0 gca (by decide)))
                  have m267 := congrArg tk m266
                  have m268 : (sI H264 h0 (X.1.2 11 16)).toInt = (sI H263 h0 (X.1.2 11 16)).toInt := congrArg Int32.toInt (up_nI U264 (ne_k g0 gca (by decide)))
                  have e269 := up_I U264
                  have e270 := (up_nI (a' := ca) (j' := ((a1 + 6) : Int).toNat) U210 (fun h => by have h2 := h.2; omega)).trans e199
                  have e271 := (kp_c (j := ((a1 + 6) : Int).toNat) hp248 gca rfl).trans e270
                  have e272 := (kp_c (j := ((a1 + 6) : Int).toNat) hp263 gca rfl).trans e271
                  have e273 := (up_nI (a' := ca) (j' := ((a1 + 6) : Int).toNat) U264 (fun h => by have h2 := h.2; omega)).trans e272
                  have m274 : (sI H264 ca ((a1 + 6)).toNat).toInt = v21.toInt := (congrArg Int32.toInt e273).trans rfl
                  have hz8 := tk_nn (sI H264 h0 (X.1.2 11 14)).toInt
                  exact ret H264 locs264 _ _ dX12_readTest_146 ⟨hKp264, ⟨by omega, by omega, by omega, by omega, kb, by omega⟩⟩ hC264 hS264
              · refine q_if_ne hx hb (a := 0) (by decide) (tgt := 112) dX12_readTest_100 rfl (fun c275 => absurd c275 (by omega)) (fun c275 => ?_)
                refine lv_aload_n hx hb dX12_readTest_103 rfl (lv_at hl 1 rfl) ?_
                refine lv_bipush (v := 61) hx hb dX12_readTest_104 rfl ?_
                refine q_goIp (q_runV (As := [.int 61]) (rest := [.ref h0]) E hC210 hS246 (m_X12_isSign l X Γ H210 hC210 h0 g0 61 (a1 := 61) (by decide) ca gca uc) cw_X12_isSign cl_RX12_255 g0 ⟨rfl, rfl⟩ rfl hl.1 rfl (show _ ≤ _ from by simp [Value.category]) (by decide) dX12_readTest_106) hS246 (fun v276 locs276 hr276 hS276 => ?_)
                rcases hr276 with ⟨rfl, f276a⟩ | ⟨rfl, -⟩
                · refine q_if_eq hx hb (a := 1) (by decide) (tgt := 116) dX12_readTest_109 rfl (fun c277 => absurd c277 (by omega)) (fun c277 => ?_)
                  refine lv_iconst (v := 1) hx hb dX12_readTest_112 rfl ?_
                  refine lv_goto (tgt := 117) hx hb dX12_readTest_113 rfl ?_
                  refine q_goV (q_runV (As := [.int 1]) (rest := []) E hC210 hS276 (m_X12_must l X Γ H210 hC210 h0 g0 1 (a1 := 1) (by decide) ca gca uc (by omega) (by omega)) cw_X12_must cl_RX12_244 g0 ⟨rfl, rfl⟩ rfl hl.1 rfl (Nat.zero_le _) (by decide) dX12_readTest_117) hS276 (fun H278 locs278 hr278 hC278 hS278 => ?_)
                  obtain ⟨hp278, hr278⟩ := hr278
                  have hKp278 := hKp210.tr (hp278.mono rfl)
                  replace kb : KB H0 H278 ca (a1 + 1) := KB.kp kb hp278 gca rfl
                  obtain ⟨f278_0, f278_1, f278_2, f278_3, f278_4⟩ := hr278
                  refine lv_aload_n hx hb dX12_readTest_120 rfl (lv_at hl 1 rfl) ?_
                  refine q_getC E hC278 g0 fa_RX12_35 uc dX12_readTest_121 ?_
                  refine lv_iload_n hx hb dX12_readTest_124 rfl (lv_at hl 2 rfl) ?_
                  refine lv_iconst (v := 2) hx hb dX12_readTest_125 rfl ?_
                  refine lv_iadd hx hb dX12_readTest_126 (lv_topi (fun v279 ev279 => ?_))
                  have ev279i : v279.toInt = (a1 + 2) := i_add ev279 e1 (by decide) (by omega) (by omega)
                  refine lv_aload_n hx hb dX12_readTest_127 rfl (lv_at hl 1 rfl) ?_
                  refine lv_iconst (v := 0) hx hb dX12_readTest_128 rfl ?_
                  refine lv_iload_n hx hb dX12_readTest_129 rfl (lv_at hl 0 rfl) ?_
                  refine lv_iconst (v := 1) hx hb dX12_readTest_130 rfl ?_
                  refine q_icmp_ne hx hb (a := v21.toInt) (b := 1) rfl (by decide) (tgt := 139) dX12_readTest_131 rfl (fun c280 => ?_) (fun c280 => ?_)
                  · refine lv_sipush (v := 999) hx hb dX12_readTest_139 rfl ?_
                    refine q_goI (q_runV (As := [.int 0, .int 999]) (rest := [.int v279, .ref ca]) E hC278 hS278 (m_X12_count l X Γ H278 hC278 h0 g0 0 (a1 := 0) (by decide) 999 (a2 := 999) (by decide) ca gca uc (by omega) (by omega) (by omega) (by omega)) cw_X12_count cl_RX12_248 g0 ⟨rfl, rfl⟩ rfl hl.1 rfl (show _ ≤ _ from by simp [Value.category]) (by decide) dX12_readTest_142) hS278 (fun v281 H281 locs281 hr281 hC281 hS281 => ?_)
                    obtain ⟨hp281, hr281⟩ := hr281
                    have hKp281 := hKp278.tr (hp281.mono rfl)
                    replace kb : KB H0 H281 ca (a1 + 1) := KB.kp kb hp281 gca rfl
                    obtain ⟨f281_0, f281_1, f281_2, f281_3, f281_4, f281_5, f281_6, f281_7⟩ := hr281
                    refine q_cast E hC281 hS281 gca (a := (a1 + 2)) ev279i (by omega) (by omega) (cs_n244 (a := (a1 + 2)) (by omega) (by omega)) dX12_readTest_145 (fun H282 locs282 hC282 hS282 U282 => ?_)
                    have hKp282 := Kp.upD gca rfl rfl (fun _ => ⟨fun _ => nd4 (by omega) (by omega), fun _ => by unfold dpu; omega, fun _ => by unfold dpn; omega⟩) U282 hKp281
                    replace kb : KB H0 H282 ca (a1 + 1) := KB.up kb U282 (by omega)
                    have m283 : (sI H282 h0 (X.1.2 11 12)).toInt = (sI H281 h0 (X.1.2 11 12)).toInt := congrArg Int32.toInt (up_nI U282 (ne_k g0 gca (by decide)))
                    have m284 : (sI H282 h0 (X.1.2 11 14)).toInt = (sI H281 h0 (X.1.2 11 14)).toInt := congrArg Int32.toInt (up_nI U282 (ne_k g0 gca (by decide)))
                    have m285 := congrArg tk m284
                    have m286 : (sI H282 h0 (X.1.2 11 16)).toInt = (sI H281 h0 (X.1.2 11 16)).toInt := congrArg Int32.toInt (up_nI U282 (ne_k g0 gca (by decide)))
                    have e287 := up_I U282
                    have e288 := (up_nI (a' := ca) (j' := ((a1 + 6) : Int).toNat) U210 (fun h => by have h2 := h.2; omega)).trans e199
                    have e289 := (kp_c (j := ((a1 + 6) : Int).toNat) hp278 gca rfl).trans e288
                    have e290 := (kp_c (j := ((a1 + 6) : Int).toNat) hp281 gca rfl).trans e289
                    have e291 := (up_nI (a' := ca) (j' := ((a1 + 6) : Int).toNat) U282 (fun h => by have h2 := h.2; omega)).trans e290
                    have m292 : (sI H282 ca ((a1 + 6)).toNat).toInt = v21.toInt := (congrArg Int32.toInt e291).trans rfl
                    have hz8 := tk_nn (sI H282 h0 (X.1.2 11 14)).toInt
                    exact ret H282 locs282 _ _ dX12_readTest_146 ⟨hKp282, ⟨by omega, by omega, by omega, by omega, kb, by omega⟩⟩ hC282 hS282
                  · refine lv_bipush (v := 99) hx hb dX12_readTest_134 rfl ?_
                    refine lv_goto (tgt := 142) hx hb dX12_readTest_136 rfl ?_
                    refine q_goI (q_runV (As := [.int 0, .int 99]) (rest := [.int v279, .ref ca]) E hC278 hS278 (m_X12_count l X Γ H278 hC278 h0 g0 0 (a1 := 0) (by decide) 99 (a2 := 99) (by decide) ca gca uc (by omega) (by omega) (by omega) (by omega)) cw_X12_count cl_RX12_248 g0 ⟨rfl, rfl⟩ rfl hl.1 rfl (show _ ≤ _ from by simp [Value.category]) (by decide) dX12_readTest_142) hS278 (fun v293 H293 locs293 hr293 hC293 hS293 => ?_)
                    obtain ⟨hp293, hr293⟩ := hr293
                    have hKp293 := hKp278.tr (hp293.mono rfl)
                    replace kb : KB H0 H293 ca (a1 + 1) := KB.kp kb hp293 gca rfl
                    obtain ⟨f293_0, f293_1, f293_2, f293_3, f293_4, f293_5, f293_6, f293_7⟩ := hr293
                    refine q_cast E hC293 hS293 gca (a := (a1 + 2)) ev279i (by omega) (by omega) (cs_n244 (a := (a1 + 2)) (by omega) (by omega)) dX12_readTest_145 (fun H294 locs294 hC294 hS294 U294 => ?_)
                    have hKp294 := Kp.upD gca rfl rfl (fun _ => ⟨fun _ => nd4 (by omega) (by omega), fun _ => by unfold dpu; omega, fun _ => by unfold dpn; omega⟩) U294 hKp293
                    replace kb : KB H0 H294 ca (a1 + 1) := KB.up kb U294 (by omega)
                    have m295 : (sI H294 h0 (X.1.2 11 12)).toInt = (sI H293 h0 (X.1.2 11 12)).toInt := congrArg Int32.toInt (up_nI U294 (ne_k g0 gca (by decide)))
                    have m296 : (sI H294 h0 (X.1.2 11 14)).toInt = (sI H293 h0 (X.1.2 11 14)).toInt := congrArg Int32.toInt (up_nI U294 (ne_k g0 gca (by decide)))
                    have m297 := congrArg tk m296
                    have m298 : (sI H294 h0 (X.1.2 11 16)).toInt = (sI H293 h0 (X.1.2 11 16)).toInt := congrArg Int32.toInt (up_nI U294 (ne_k g0 gca (by decide)))
                    have e299 := up_I U294
                    have e300 := (up_nI (a' := ca) (j' := ((a1 + 6) : Int).toNat) U210 (fun h => by have h2 := h.2; omega)).trans e199
                    have e301 := (kp_c (j := ((a1 + 6) : Int).toNat) hp278 gca rfl).trans e300
                    have e302 := (kp_c (j := ((a1 + 6) : Int).toNat) hp293 gca rfl).trans e301
                    have e303 := (up_nI (a' := ca) (j' := ((a1 + 6) : Int).toNat) U294 (fun h => by have h2 := h.2; omega)).trans e302
                    have m304 : (sI H294 ca ((a1 + 6)).toNat).toInt = v21.toInt := (congrArg Int32.toInt e303).trans rfl
                    have hz8 := tk_nn (sI H294 h0 (X.1.2 11 14)).toInt
                    exact ret H294 locs294 _ _ dX12_readTest_146 ⟨hKp294, ⟨by omega, by omega, by omega, by omega, kb, by omega⟩⟩ hC294 hS294
                · refine q_if_eq hx hb (a := 0) (by decide) (tgt := 116) dX12_readTest_109 rfl (fun c305 => ?_) (fun c305 => absurd c305 (by omega))
                  refine lv_iconst (v := 0) hx hb dX12_readTest_116 rfl ?_
                  refine q_goV (q_runV (As := [.int 0]) (rest := []) E hC210 hS276 (m_X12_must l X Γ H210 hC210 h0 g0 0 (a1 := 0) (by decide) ca gca uc (by omega) (by omega)) cw_X12_must cl_RX12_244 g0 ⟨rfl, rfl⟩ rfl hl.1 rfl (Nat.zero_le _) (by decide) dX12_readTest_117) hS276 (fun H306 locs306 hr306 hC306 hS306 => ?_)
                  obtain ⟨hp306, hr306⟩ := hr306
                  have hKp306 := hKp210.tr (hp306.mono rfl)
                  replace kb : KB H0 H306 ca (a1 + 1) := KB.kp kb hp306 gca rfl
                  obtain ⟨f306_0, f306_1, f306_2, f306_3, f306_4⟩ := hr306
                  refine lv_aload_n hx hb dX12_readTest_120 rfl (lv_at hl 1 rfl) ?_
                  refine q_getC E hC306 g0 fa_RX12_35 uc dX12_readTest_121 ?_
                  refine lv_iload_n hx hb dX12_readTest_124 rfl (lv_at hl 2 rfl) ?_
                  refine lv_iconst (v := 2) hx hb dX12_readTest_125 rfl ?_
                  refine lv_iadd hx hb dX12_readTest_126 (lv_topi (fun v307 ev307 => ?_))
                  have ev307i : v307.toInt = (a1 + 2) := i_add ev307 e1 (by decide) (by omega) (by omega)
                  refine lv_aload_n hx hb dX12_readTest_127 rfl (lv_at hl 1 rfl) ?_
                  refine lv_iconst (v := 0) hx hb dX12_readTest_128 rfl ?_
                  refine lv_iload_n hx hb dX12_readTest_129 rfl (lv_at hl 0 rfl) ?_
                  refine lv_iconst (v := 1) hx hb dX12_readTest_130 rfl ?_
                  refine q_icmp_ne hx hb (a := v21.toInt) (b := 1) rfl (by decide) (tgt := 139) dX12_readTest_131 rfl (fun c308 => ?_) (fun c308 => ?_)
                  · refine lv_sipush (v := 999) hx hb dX12_readTest_139 rfl ?_
                    refine q_goI (q_runV (As := [.int 0, .int 999]) (rest := [.int v307, .ref ca]) E hC306 hS306 (m_X12_count l X Γ H306 hC306 h0 g0 0 (a1 := 0) (by decide) 999 (a2 := 999) (by decide) ca gca uc (by omega) (by omega) (by omega) (by omega)) cw_X12_count cl_RX12_248 g0 ⟨rfl, rfl⟩ rfl hl.1 rfl (show _ ≤ _ from by simp [Value.category]) (by decide) dX12_readTest_142) hS306 (fun v309 H309 locs309 hr309 hC309 hS309 => ?_)
                    obtain ⟨hp309, hr309⟩ := hr309
                    have hKp309 := hKp306.tr (hp309.mono rfl)
                    replace kb : KB H0 H309 ca (a1 + 1) := KB.kp kb hp309 gca rfl
                    obtain ⟨f309_0, f309_1, f309_2, f309_3, f309_4, f309_5, f309_6, f309_7⟩ := hr309
                    refine q_cast E hC309 hS309 gca (a := (a1 + 2)) ev307i (by omega) (by omega) (cs_n244 (a := (a1 + 2)) (by omega) (by omega)) dX12_readTest_145 (fun H310 locs310 hC310 hS310 U310 => ?_)
                    have hKp310 := Kp.upD gca rfl rfl (fun _ => ⟨fun _ => nd4 (by omega) (by omega), fun _ => by unfold dpu; omega, fun _ => by unfold dpn; omega⟩) U310 hKp309
                    replace kb : KB H0 H310 ca (a1 + 1) := KB.up kb U310 (by omega)
                    have m311 : (sI H310 h0 (X.1.2 11 12)).toInt = (sI H309 h0 (X.1.2 11 12)).toInt := congrArg Int32.toInt (up_nI U310 (ne_k g0 gca (by decide)))
                    have m312 : (sI H310 h0 (X.1.2 11 14)).toInt = (sI H309 h0 (X.1.2 11 14)).toInt := congrArg Int32.toInt (up_nI U310 (ne_k g0 gca (by decide)))
                    have m313 := congrArg tk m312
                    have m314 : (sI H310 h0 (X.1.2 11 16)).toInt = (sI H309 h0 (X.1.2 11 16)).toInt := congrArg Int32.toInt (up_nI U310 (ne_k g0 gca (by decide)))
                    have e315 := up_I U310
                    have e316 := (up_nI (a' := ca) (j' := ((a1 + 6) : Int).toNat) U210 (fun h => by have h2 := h.2; omega)).trans e199
                    have e317 := (kp_c (j := ((a1 + 6) : Int).toNat) hp306 gca rfl).trans e316
                    have e318 := (kp_c (j := ((a1 + 6) : Int).toNat) hp309 gca rfl).trans e317
                    have e319 := (up_nI (a' := ca) (j' := ((a1 + 6) : Int).toNat) U310 (fun h => by have h2 := h.2; omega)).trans e318
                    have m320 : (sI H310 ca ((a1 + 6)).toNat).toInt = v21.toInt := (congrArg Int32.toInt e319).trans rfl
                    have hz8 := tk_nn (sI H310 h0 (X.1.2 11 14)).toInt
                    exact ret H310 locs310 _ _ dX12_readTest_146 ⟨hKp310, ⟨by omega, by omega, by omega, by omega, kb, by omega⟩⟩ hC310 hS310
                  · refine lv_bipush (v := 99) hx hb dX12_readTest_134 rfl ?_
                    refine lv_goto (tgt := 142) hx hb dX12_readTest_136 rfl ?_
                    refine q_goI (q_runV (As := [.int 0, .int 99]) (rest := [.int v307, .ref ca]) E hC306 hS306 (m_X12_count l X Γ H306 hC306 h0 g0 0 (a1 := 0) (by decide) 99 (a2 := 99) (by decide) ca gca uc (by omega) (by omega) (by omega) (by omega)) cw_X12_count cl_RX12_248 g0 ⟨rfl, rfl⟩ rfl hl.1 rfl (show _ ≤ _ from by simp [Value.category]) (by decide) dX12_readTest_142) hS306 (fun v321 H321 locs321 hr321 hC321 hS321 => ?_)
                    obtain ⟨hp321, hr321⟩ := hr321
                    have hKp321 := hKp306.tr (hp321.mono rfl)
                    replace kb : KB H0 H321 ca (a1 + 1) := KB.kp kb hp321 gca rfl
                    obtain ⟨f321_0, f321_1, f321_2, f321_3, f321_4, f321_5, f321_6, f321_7⟩ := hr321
                    refine q_cast E hC321 hS321 gca (a := (a1 + 2)) ev307i (by omega) (by omega) (cs_n244 (a := (a1 + 2)) (by omega) (by omega)) dX12_readTest_145 (fun H322 locs322 hC322 hS322 U322 => ?_)
                    have hKp322 := Kp.upD gca rfl rfl (fun _ => ⟨fun _ => nd4 (by omega) (by omega), fun _ => by unfold dpu; omega, fun _ => by unfold dpn; omega⟩) U322 hKp321
                    replace kb : KB H0 H322 ca (a1 + 1) := KB.up kb U322 (by omega)
                    have m323 : (sI H322 h0 (X.1.2 11 12)).toInt = (sI H321 h0 (X.1.2 11 12)).toInt := congrArg Int32.toInt (up_nI U322 (ne_k g0 gca (by decide)))
                    have m324 : (sI H322 h0 (X.1.2 11 14)).toInt = (sI H321 h0 (X.1.2 11 14)).toInt := congrArg Int32.toInt (up_nI U322 (ne_k g0 gca (by decide)))
                    have m325 := congrArg tk m324
                    have m326 : (sI H322 h0 (X.1.2 11 16)).toInt = (sI H321 h0 (X.1.2 11 16)).toInt := congrArg Int32.toInt (up_nI U322 (ne_k g0 gca (by decide)))
                    have e327 := up_I U322
                    have e328 := (up_nI (a' := ca) (j' := ((a1 + 6) : Int).toNat) U210 (fun h => by have h2 := h.2; omega)).trans e199
                    have e329 := (kp_c (j := ((a1 + 6) : Int).toNat) hp306 gca rfl).trans e328
                    have e330 := (kp_c (j := ((a1 + 6) : Int).toNat) hp321 gca rfl).trans e329
                    have e331 := (up_nI (a' := ca) (j' := ((a1 + 6) : Int).toNat) U322 (fun h => by have h2 := h.2; omega)).trans e330
                    have m332 : (sI H322 ca ((a1 + 6)).toNat).toInt = v21.toInt := (congrArg Int32.toInt e331).trans rfl
                    have hz8 := tk_nn (sI H322 h0 (X.1.2 11 14)).toInt
                    exact ret H322 locs322 _ _ dX12_readTest_146 ⟨hKp322, ⟨by omega, by omega, by omega, by omega, kb, by omega⟩⟩ hC322 hS322
          · refine lv_aload_n hx hb dX12_readTest_75 rfl (lv_at hl 1 rfl) ?_
            refine q_getI E hC194 g0 fa_RX12_139 dX12_readTest_76 (fun v333 ev333 _ _ => ?_)
            refine lv_goto (tgt := 83) hx hb dX12_readTest_79 rfl ?_
            refine q_cast E hC194 hS194 gca (a := (a1 + 7)) ev206i (by omega) (by omega) (cs_n244 (a := (a1 + 7)) (by omega) (by omega)) dX12_readTest_83 (fun H334 locs334 hC334 hS334 U334 => ?_)
            have hKp334 := Kp.upD gca rfl rfl (fun _ => ⟨fun _ => nd4 (by omega) (by omega), fun _ => by unfold dpu; omega, fun _ => by unfold dpn; omega⟩) U334 hKp194
            replace kb : KB H0 H334 ca (a1 + 1) := KB.up kb U334 (by omega)
            have m335 : (sI H334 h0 (X.1.2 11 12)).toInt = (sI H194 h0 (X.1.2 11 12)).toInt := congrArg Int32.toInt (up_nI U334 (ne_k g0 gca (by decide)))
            have m336 : (sI H334 h0 (X.1.2 11 14)).toInt = (sI H194 h0 (X.1.2 11 14)).toInt := congrArg Int32.toInt (up_nI U334 (ne_k g0 gca (by decide)))
            have m337 := congrArg tk m336
            have m338 : (sI H334 h0 (X.1.2 11 16)).toInt = (sI H194 h0 (X.1.2 11 16)).toInt := congrArg Int32.toInt (up_nI U334 (ne_k g0 gca (by decide)))
            have e339 := up_I U334
            refine lv_aload_n hx hb dX12_readTest_84 rfl (lv_at hl 1 rfl) ?_
            refine lv_aload_n hx hb dX12_readTest_85 rfl (lv_at hl 1 rfl) ?_
            refine lv_bipush (v := 60) hx hb dX12_readTest_86 rfl ?_
            refine q_goIp (q_runV (As := [.int 60]) (rest := [.ref h0]) E hC334 hS334 (m_X12_isSign l X Γ H334 hC334 h0 g0 60 (a1 := 60) (by decide) ca gca uc) cw_X12_isSign cl_RX12_255 g0 ⟨rfl, rfl⟩ rfl hl.1 rfl (show _ ≤ _ from by simp [Value.category]) (by decide) dX12_readTest_88) hS334 (fun v340 locs340 hr340 hS340 => ?_)
            rcases hr340 with ⟨rfl, f340a⟩ | ⟨rfl, -⟩
            · refine q_if_ne hx hb (a := 1) (by decide) (tgt := 112) dX12_readTest_91 rfl (fun c341 => ?_) (fun c341 => absurd c341 (by omega))
              refine lv_iconst (v := 1) hx hb dX12_readTest_112 rfl ?_
              refine lv_goto (tgt := 117) hx hb dX12_readTest_113 rfl ?_
              refine q_goV (q_runV (As := [.int 1]) (rest := []) E hC334 hS340 (m_X12_must l X Γ H334 hC334 h0 g0 1 (a1 := 1) (by decide) ca gca uc (by omega) (by omega)) cw_X12_must cl_RX12_244 g0 ⟨rfl, rfl⟩ rfl hl.1 rfl (Nat.zero_le _) (by decide) dX12_readTest_117) hS340 (fun H342 locs342 hr342 hC342 hS342 => ?_)
              obtain ⟨hp342, hr342⟩ := hr342
              have hKp342 := hKp334.tr (hp342.mono rfl)
              replace kb : KB H0 H342 ca (a1 + 1) := KB.kp kb hp342 gca rfl
              obtain ⟨f342_0, f342_1, f342_2, f342_3, f342_4⟩ := hr342
              refine lv_aload_n hx hb dX12_readTest_120 rfl (lv_at hl 1 rfl) ?_
              refine q_getC E hC342 g0 fa_RX12_35 uc dX12_readTest_121 ?_
              refine lv_iload_n hx hb dX12_readTest_124 rfl (lv_at hl 2 rfl) ?_
              refine lv_iconst (v := 2) hx hb dX12_readTest_125 rfl ?_
              refine lv_iadd hx hb dX12_readTest_126 (lv_topi (fun v343 ev343 => ?_))
              have ev343i : v343.toInt = (a1 + 2) := i_add ev343 e1 (by decide) (by omega) (by omega)
              refine lv_aload_n hx hb dX12_readTest_127 rfl (lv_at hl 1 rfl) ?_
              refine lv_iconst (v := 0) hx hb dX12_readTest_128 rfl ?_
              refine lv_iload_n hx hb dX12_readTest_129 rfl (lv_at hl 0 rfl) ?_
              refine lv_iconst (v := 1) hx hb dX12_readTest_130 rfl ?_
              refine q_icmp_ne hx hb (a := v21.toInt) (b := 1) rfl (by decide) (tgt := 139) dX12_readTest_131 rfl (fun c344 => ?_) (fun c344 => ?_)
              · refine lv_sipush (v := 999) hx hb dX12_readTest_139 rfl ?_
                refine q_goI (q_runV (As := [.int 0, .int 999]) (rest := [.int v343, .ref ca]) E hC342 hS342 (m_X12_count l X Γ H342 hC342 h0 g0 0 (a1 := 0) (by decide) 999 (a2 := 999) (by decide) ca gca uc (by omega) (by omega) (by omega) (by omega)) cw_X12_count cl_RX12_248 g0 ⟨rfl, rfl⟩ rfl hl.1 rfl (show _ ≤ _ from by simp [Value.category]) (by decide) dX12_readTest_142) hS342 (fun v345 H345 locs345 hr345 hC345 hS345 => ?_)
                obtain ⟨hp345, hr345⟩ := hr345
                have hKp345 := hKp342.tr (hp345.mono rfl)
                replace kb : KB H0 H345 ca (a1 + 1) := KB.kp kb hp345 gca rfl
                obtain ⟨f345_0, f345_1, f345_2, f345_3, f345_4, f345_5, f345_6, f345_7⟩ := hr345
                refine q_cast E hC345 hS345 gca (a := (a1 + 2)) ev343i (by omega) (by omega) (cs_n244 (a := (a1 + 2)) (by omega) (by omega)) dX12_readTest_145 (fun H346 locs346 hC346 hS346 U346 => ?_)
                have hKp346 := Kp.upD gca rfl rfl (fun _ => ⟨fun _ => nd4 (by omega) (by omega), fun _ => by unfold dpu; omega, fun _ => by unfold dpn; omega⟩) U346 hKp345
                replace kb : KB H0 H346 ca (a1 + 1) := KB.up kb U346 (by omega)
                have m347 : (sI H346 h0 (X.1.2 11 12)).toInt = (sI H345 h0 (X.1.2 11 12)).toInt := congrArg Int32.toInt (up_nI U346 (ne_k g0 gca (by decide)))
                have m348 : (sI H346 h0 (X.1.2 11 14)).toInt = (sI H345 h0 (X.1.2 11 14)).toInt := congrArg Int32.toInt (up_nI U346 (ne_k g0 gca (by decide)))
                have m349 := congrArg tk m348
                have m350 : (sI H346 h0 (X.1.2 11 16)).toInt = (sI H345 h0 (X.1.2 11 16)).toInt := congrArg Int32.toInt (up_nI U346 (ne_k g0 gca (by decide)))
                have e351 := up_I U346
                have e352 := (up_nI (a' := ca) (j' := ((a1 + 6) : Int).toNat) U334 (fun h => by have h2 := h.2; omega)).trans e199
                have e353 := (kp_c (j := ((a1 + 6) : Int).toNat) hp342 gca rfl).trans e352
                have e354 := (kp_c (j := ((a1 + 6) : Int).toNat) hp345 gca rfl).trans e353
                have e355 := (up_nI (a' := ca) (j' := ((a1 + 6) : Int).toNat) U346 (fun h => by have h2 := h.2; omega)).trans e354
                have m356 : (sI H346 ca ((a1 + 6)).toNat).toInt = v21.toInt := (congrArg Int32.toInt e355).trans rfl
                have hz8 := tk_nn (sI H346 h0 (X.1.2 11 14)).toInt
                exact ret H346 locs346 _ _ dX12_readTest_146 ⟨hKp346, ⟨by omega, by omega, by omega, by omega, kb, by omega⟩⟩ hC346 hS346
              · refine lv_bipush (v := 99) hx hb dX12_readTest_134 rfl ?_
                refine lv_goto (tgt := 142) hx hb dX12_readTest_136 rfl ?_
                refine q_goI (q_runV (As := [.int 0, .int 99]) (rest := [.int v343, .ref ca]) E hC342 hS342 (m_X12_count l X Γ H342 hC342 h0 g0 0 (a1 := 0) (by decide) 99 (a2 := 99) (by decide) ca gca uc (by omega) (by omega) (by omega) (by omega)) cw_X12_count cl_RX12_248 g0 ⟨rfl, rfl⟩ rfl hl.1 rfl (show _ ≤ _ from by simp [Value.category]) (by decide) dX12_readTest_142) hS342 (fun v357 H357 locs357 hr357 hC357 hS357 => ?_)
                obtain ⟨hp357, hr357⟩ := hr357
                have hKp357 := hKp342.tr (hp357.mono rfl)
                replace kb : KB H0 H357 ca (a1 + 1) := KB.kp kb hp357 gca rfl
                obtain ⟨f357_0, f357_1, f357_2, f357_3, f357_4, f357_5, f357_6, f357_7⟩ := hr357
                refine q_cast E hC357 hS357 gca (a := (a1 + 2)) ev343i (by omega) (by omega) (cs_n244 (a := (a1 + 2)) (by omega) (by omega)) dX12_readTest_145 (fun H358 locs358 hC358 hS358 U358 => ?_)
                have hKp358 := Kp.upD gca rfl rfl (fun _ => ⟨fun _ => nd4 (by omega) (by omega), fun _ => by unfold dpu; omega, fun _ => by unfold dpn; omega⟩) U358 hKp357
                replace kb : KB H0 H358 ca (a1 + 1) := KB.up kb U358 (by omega)
                have m359 : (sI H358 h0 (X.1.2 11 12)).toInt = (sI H357 h0 (X.1.2 11 12)).toInt := congrArg Int32.toInt (up_nI U358 (ne_k g0 gca (by decide)))
                have m360 : (sI H358 h0 (X.1.2 11 14)).toInt = (sI H357 h0 (X.1.2 11 14)).toInt := congrArg Int32.toInt (up_nI U358 (ne_k g0 gca (by decide)))
                have m361 := congrArg tk m360
                have m362 : (sI H358 h0 (X.1.2 11 16)).toInt = (sI H357 h0 (X.1.2 11 16)).toInt := congrArg Int32.toInt (up_nI U358 (ne_k g0 gca (by decide)))
                have e363 := up_I U358
                have e364 := (up_nI (a' := ca) (j' := ((a1 + 6) : Int).toNat) U334 (fun h => by have h2 := h.2; omega)).trans e199
                have e365 := (kp_c (j := ((a1 + 6) : Int).toNat) hp342 gca rfl).trans e364
                have e366 := (kp_c (j := ((a1 + 6) : Int).toNat) hp357 gca rfl).trans e365
                have e367 := (up_nI (a' := ca) (j' := ((a1 + 6) : Int).toNat) U358 (fun h => by have h2 := h.2; omega)).trans e366
                have m368 : (sI H358 ca ((a1 + 6)).toNat).toInt = v21.toInt := (congrArg Int32.toInt e367).trans rfl
                have hz8 := tk_nn (sI H358 h0 (X.1.2 11 14)).toInt
                exact ret H358 locs358 _ _ dX12_readTest_146 ⟨hKp358, ⟨by omega, by omega, by omega, by omega, kb, by omega⟩⟩ hC358 hS358
            · refine q_if_ne hx hb (a := 0) (by decide) (tgt := 112) dX12_readTest_91 rfl (fun c369 => absurd c369 (by omega)) (fun c369 => ?_)
              refine lv_aload_n hx hb dX12_readTest_94 rfl (lv_at hl 1 rfl) ?_
              refine lv_bipush (v := 62) hx hb dX12_readTest_95 rfl ?_
              refine q_goIp (q_runV (As := [.int 62]) (rest := [.ref h0]) E hC334 hS340 (m_X12_isSign l X Γ H334 hC334 h0 g0 62 (a1 := 62) (by decide) ca gca uc) cw_X12_isSign cl_RX12_255 g0 ⟨rfl, rfl⟩ rfl hl.1 rfl (show _ ≤ _ from by simp [Value.category]) (by decide) dX12_readTest_97) hS340 (fun v370 locs370 hr370 hS370 => ?_)
              rcases hr370 with ⟨rfl, f370a⟩ | ⟨rfl, -⟩
              · refine q_if_ne hx hb (a := 1) (by decide) (tgt := 112) dX12_readTest_100 rfl (fun c371 => ?_) (fun c371 => absurd c371 (by omega))
                refine lv_iconst (v := 1) hx hb dX12_readTest_112 rfl ?_
                refine lv_goto (tgt := 117) hx hb dX12_readTest_113 rfl ?_
                refine q_goV (q_runV (As := [.int 1]) (rest := []) E hC334 hS370 (m_X12_must l X Γ H334 hC334 h0 g0 1 (a1 := 1) (by decide) ca gca uc (by omega) (by omega)) cw_X12_must cl_RX12_244 g0 ⟨rfl, rfl⟩ rfl hl.1 rfl (Nat.zero_le _) (by decide) dX12_readTest_117) hS370 (fun H372 locs372 hr372 hC372 hS372 => ?_)
                obtain ⟨hp372, hr372⟩ := hr372
                have hKp372 := hKp334.tr (hp372.mono rfl)
                replace kb : KB H0 H372 ca (a1 + 1) := KB.kp kb hp372 gca rfl
                obtain ⟨f372_0, f372_1, f372_2, f372_3, f372_4⟩ := hr372
                refine lv_aload_n hx hb dX12_readTest_120 rfl (lv_at hl 1 rfl) ?_
                refine q_getC E hC372 g0 fa_RX12_35 uc dX12_readTest_121 ?_
                refine lv_iload_n hx hb dX12_readTest_124 rfl (lv_at hl 2 rfl) ?_
                refine lv_iconst (v := 2) hx hb dX12_readTest_125 rfl ?_
                refine lv_iadd hx hb dX12_readTest_126 (lv_topi (fun v373 ev373 => ?_))
                have ev373i : v373.toInt = (a1 + 2) := i_add ev373 e1 (by decide) (by omega) (by omega)
                refine lv_aload_n hx hb dX12_readTest_127 rfl (lv_at hl 1 rfl) ?_
                refine lv_iconst (v := 0) hx hb dX12_readTest_128 rfl ?_
                refine lv_iload_n hx hb dX12_readTest_129 rfl (lv_at hl 0 rfl) ?_
                refine lv_iconst (v := 1) hx hb dX12_readTest_130 rfl ?_
                refine q_icmp_ne hx hb (a := v21.toInt) (b := 1) rfl (by decide) (tgt := 139) dX12_readTest_131 rfl (fun c374 => ?_) (fun c374 => ?_)
                · refine lv_sipush (v := 999) hx hb dX12_readTest_139 rfl ?_
                  refine q_goI (q_runV (As := [.int 0, .int 999]) (rest := [.int v373, .ref ca]) E hC372 hS372 (m_X12_count l X Γ H372 hC372 h0 g0 0 (a1 := 0) (by decide) 999 (a2 := 999) (by decide) ca gca uc (by omega) (by omega) (by omega) (by omega)) cw_X12_count cl_RX12_248 g0 ⟨rfl, rfl⟩ rfl hl.1 rfl (show _ ≤ _ from by simp [Value.category]) (by decide) dX12_readTest_142) hS372 (fun v375 H375 locs375 hr375 hC375 hS375 => ?_)
                  obtain ⟨hp375, hr375⟩ := hr375
                  have hKp375 := hKp372.tr (hp375.mono rfl)
                  replace kb : KB H0 H375 ca (a1 + 1) := KB.kp kb hp375 gca rfl
                  obtain ⟨f375_0, f375_1, f375_2, f375_3, f375_4, f375_5, f375_6, f375_7⟩ := hr375
                  refine q_cast E hC375 hS375 gca (a := (a1 + 2)) ev373i (by omega) (by omega) (cs_n244 (a := (a1 + 2)) (by omega) (by omega)) dX12_readTest_145 (fun H376 locs376 hC376 hS376 U376 => ?_)
                  have hKp376 := Kp.upD gca rfl rfl (fun _ => ⟨fun _ => nd4 (by omega) (by omega), fun _ => by unfold dpu; omega, fun _ => by unfold dpn; omega⟩) U376 hKp375
                  replace kb : KB H0 H376 ca (a1 + 1) := KB.up kb U376 (by omega)
                  have m377 : (sI H376 h0 (X.1.2 11 12)).toInt = (sI H375 h0 (X.1.2 11 12)).toInt := congrArg Int32.toInt (up_nI U376 (ne_k g0 gca (by decide)))
                  have m378 : (sI H376 h0 (X.1.2 11 14)).toInt = (sI H375 h0 (X.1.2 11 14)).toInt := congrArg Int32.toInt (up_nI U376 (ne_k g0 gca (by decide)))
                  have m379 := congrArg tk m378
                  have m380 : (sI H376 h0 (X.1.2 11 16)).toInt = (sI H375 h0 (X.1.2 11 16)).toInt := congrArg Int32.toInt (up_nI U376 (ne_k g0 gca (by decide)))
                  have e381 := up_I U376
                  have e382 := (up_nI (a' := ca) (j' := ((a1 + 6) : Int).toNat) U334 (fun h => by have h2 := h.2; omega)).trans e199
                  have e383 := (kp_c (j := ((a1 + 6) : Int).toNat) hp372 gca rfl).trans e382
                  have e384 := (kp_c (j := ((a1 + 6) : Int).toNat) hp375 gca rfl).trans e383
                  have e385 := (up_nI (a' := ca) (j' := ((a1 + 6) : Int).toNat) U376 (fun h => by have h2 := h.2; omega)).trans e384
                  have m386 : (sI H376 ca ((a1 + 6)).toNat).toInt = v21.toInt := (congrArg Int32.toInt e385).trans rfl
                  have hz8 := tk_nn (sI H376 h0 (X.1.2 11 14)).toInt
                  exact ret H376 locs376 _ _ dX12_readTest_146 ⟨hKp376, ⟨by omega, by omega, by omega, by omega, kb, by omega⟩⟩ hC376 hS376
                · refine lv_bipush (v := 99) hx hb dX12_readTest_134 rfl ?_
                  refine lv_goto (tgt := 142) hx hb dX12_readTest_136 rfl ?_
                  refine q_goI (q_runV (As := [.int 0, .int 99]) (rest := [.int v373, .ref ca]) E hC372 hS372 (m_X12_count l X Γ H372 hC372 h0 g0 0 (a1 := 0) (by decide) 99 (a2 := 99) (by decide) ca gca uc (by omega) (by omega) (by omega) (by omega)) cw_X12_count cl_RX12_248 g0 ⟨rfl, rfl⟩ rfl hl.1 rfl (show _ ≤ _ from by simp [Value.category]) (by decide) dX12_readTest_142) hS372 (fun v387 H387 locs387 hr387 hC387 hS387 => ?_)
                  obtain ⟨hp387, hr387⟩ := hr387
                  have hKp387 := hKp372.tr (hp387.mono rfl)
                  replace kb : KB H0 H387 ca (a1 + 1) := KB.kp kb hp387 gca rfl
                  obtain ⟨f387_0, f387_1, f387_2, f387_3, f387_4, f387_5, f387_6, f387_7⟩ := hr387
                  refine q_cast E hC387 hS387 gca (a := (a1 + 2)) ev373i (by omega) (by omega) (cs_n244 (a := (a1 + 2)) (by omega) (by omega)) dX12_readTest_145 (fun H388 locs388 hC388 hS388 U388 => ?_)
                  have hKp388 := Kp.upD gca rfl rfl (fun _ => ⟨fun _ => nd4 (by omega) (by omega), fun _ => by unfold dpu; omega, fun _ => by unfold dpn; omega⟩) U388 hKp387
                  replace kb : KB H0 H388 ca (a1 + 1) := KB.up kb U388 (by omega)
                  have m389 : (sI H388 h0 (X.1.2 11 12)).toInt = (sI H387 h0 (X.1.2 11 12)).toInt := congrArg Int32.toInt (up_nI U388 (ne_k g0 gca (by decide)))
                  have m390 : (sI H388 h0 (X.1.2 11 14)).toInt = (sI H387 h0 (X.1.2 11 14)).toInt := congrArg Int32.toInt (up_nI U388 (ne_k g0 gca (by decide)))
                  have m391 := congrArg tk m390
                  have m392 : (sI H388 h0 (X.1.2 11 16)).toInt = (sI H387 h0 (X.1.2 11 16)).toInt := congrArg Int32.toInt (up_nI U388 (ne_k g0 gca (by decide)))
                  have e393 := up_I U388
                  have e394 := (up_nI (a' := ca) (j' := ((a1 + 6) : Int).toNat) U334 (fun h => by have h2 := h.2; omega)).trans e199
                  have e395 := (kp_c (j := ((a1 + 6) : Int).toNat) hp372 gca rfl).trans e394
                  have e396 := (kp_c (j := ((a1 + 6) : Int).toNat) hp387 gca rfl).trans e395
                  have e397 := (up_nI (a' := ca) (j' := ((a1 + 6) : Int).toNat) U388 (fun h => by have h2 := h.2; omega)).trans e396
                  have m398 : (sI H388 ca ((a1 + 6)).toNat).toInt = v21.toInt := (congrArg Int32.toInt e397).trans rfl
                  have hz8 := tk_nn (sI H388 h0 (X.1.2 11 14)).toInt
                  exact ret H388 locs388 _ _ dX12_readTest_146 ⟨hKp388, ⟨by omega, by omega, by omega, by omega, kb, by omega⟩⟩ hC388 hS388
              · refine q_if_ne hx hb (a := 0) (by decide) (tgt := 112) dX12_readTest_100 rfl (fun c399 => absurd c399 (by omega)) (fun c399 => ?_)
                refine lv_aload_n hx hb dX12_readTest_103 rfl (lv_at hl 1 rfl) ?_
                refine lv_bipush (v := 61) hx hb dX12_readTest_104 rfl ?_
                refine q_goIp (q_runV (As := [.int 61]) (rest := [.ref h0]) E hC334 hS370 (m_X12_isSign l X Γ H334 hC334 h0 g0 61 (a1 := 61) (by decide) ca gca uc) cw_X12_isSign cl_RX12_255 g0 ⟨rfl, rfl⟩ rfl hl.1 rfl (show _ ≤ _ from by simp [Value.category]) (by decide) dX12_readTest_106) hS370 (fun v400 locs400 hr400 hS400 => ?_)
                rcases hr400 with ⟨rfl, f400a⟩ | ⟨rfl, -⟩
                · refine q_if_eq hx hb (a := 1) (by decide) (tgt := 116) dX12_readTest_109 rfl (fun c401 => absurd c401 (by omega)) (fun c401 => ?_)
                  refine lv_iconst (v := 1) hx hb dX12_readTest_112 rfl ?_
                  refine lv_goto (tgt := 117) hx hb dX12_readTest_113 rfl ?_
                  refine q_goV (q_runV (As := [.int 1]) (rest := []) E hC334 hS400 (m_X12_must l X Γ H334 hC334 h0 g0 1 (a1 := 1) (by decide) ca gca uc (by omega) (by omega)) cw_X12_must cl_RX12_244 g0 ⟨rfl, rfl⟩ rfl hl.1 rfl (Nat.zero_le _) (by decide) dX12_readTest_117) hS400 (fun H402 locs402 hr402 hC402 hS402 => ?_)
                  obtain ⟨hp402, hr402⟩ := hr402
                  have hKp402 := hKp334.tr (hp402.mono rfl)
                  replace kb : KB H0 H402 ca (a1 + 1) := KB.kp kb hp402 gca rfl
                  obtain ⟨f402_0, f402_1, f402_2, f402_3, f402_4⟩ := hr402
                  refine lv_aload_n hx hb dX12_readTest_120 rfl (lv_at hl 1 rfl) ?_
                  refine q_getC E hC402 g0 fa_RX12_35 uc dX12_readTest_121 ?_
                  refine lv_iload_n hx hb dX12_readTest_124 rfl (lv_at hl 2 rfl) ?_
                  refine lv_iconst (v := 2) hx hb dX12_readTest_125 rfl ?_
                  refine lv_iadd hx hb dX12_readTest_126 (lv_topi (fun v403 ev403 => ?_))
                  have ev403i : v403.toInt = (a1 + 2) := i_add ev403 e1 (by decide) (by omega) (by omega)
                  refine lv_aload_n hx hb dX12_readTest_127 rfl (lv_at hl 1 rfl) ?_
                  refine lv_iconst (v := 0) hx hb dX12_readTest_128 rfl ?_
                  refine lv_iload_n hx hb dX12_readTest_129 rfl (lv_at hl 0 rfl) ?_
                  refine lv_iconst (v := 1) hx hb dX12_readTest_130 rfl ?_
                  refine q_icmp_ne hx hb (a := v21.toInt) (b := 1) rfl (by decide) (tgt := 139) dX12_readTest_131 rfl (fun c404 => ?_) (fun c404 => ?_)
                  · refine lv_sipush (v := 999) hx hb dX12_readTest_139 rfl ?_
                    refine q_goI (q_runV (As := [.int 0, .int 999]) (rest := [.int v403, .ref ca]) E hC402 hS402 (m_X12_count l X Γ H402 hC402 h0 g0 0 (a1 := 0) (by decide) 999 (a2 := 999) (by decide) ca gca uc (by omega) (by omega) (by omega) (by omega)) cw_X12_count cl_RX12_248 g0 ⟨rfl, rfl⟩ rfl hl.1 rfl (show _ ≤ _ from by simp [Value.category]) (by decide) dX12_readTest_142) hS402 (fun v405 H405 locs405 hr405 hC405 hS405 => ?_)
                    obtain ⟨hp405, hr405⟩ := hr405
                    have hKp405 := hKp402.tr (hp405.mono rfl)
                    replace kb : KB H0 H405 ca (a1 + 1) := KB.kp kb hp405 gca rfl
                    obtain ⟨f405_0, f405_1, f405_2, f405_3, f405_4, f405_5, f405_6, f405_7⟩ := hr405
                    refine q_cast E hC405 hS405 gca (a := (a1 + 2)) ev403i (by omega) (by omega) (cs_n244 (a := (a1 + 2)) (by omega) (by omega)) dX12_readTest_145 (fun H406 locs406 hC406 hS406 U406 => ?_)
                    have hKp406 := Kp.upD gca rfl rfl (fun _ => ⟨fun _ => nd4 (by omega) (by omega), fun _ => by unfold dpu; omega, fun _ => by unfold dpn; omega⟩) U406 hKp405
                    replace kb : KB H0 H406 ca (a1 + 1) := KB.up kb U406 (by omega)
                    have m407 : (sI H406 h0 (X.1.2 11 12)).toInt = (sI H405 h0 (X.1.2 11 12)).toInt := congrArg Int32.toInt (up_nI U406 (ne_k g0 gca (by decide)))
                    have m408 : (sI H406 h0 (X.1.2 11 14)).toInt = (sI H405 h0 (X.1.2 11 14)).toInt := congrArg Int32.toInt (up_nI U406 (ne_k g0 gca (by decide)))
                    have m409 := congrArg tk m408
                    have m410 : (sI H406 h0 (X.1.2 11 16)).toInt = (sI H405 h0 (X.1.2 11 16)).toInt := congrArg Int32.toInt (up_nI U406 (ne_k g0 gca (by decide)))
                    have e411 := up_I U406
                    have e412 := (up_nI (a' := ca) (j' := ((a1 + 6) : Int).toNat) U334 (fun h => by have h2 := h.2; omega)).trans e199
                    have e413 := (kp_c (j := ((a1 + 6) : Int).toNat) hp402 gca rfl).trans e412
                    have e414 := (kp_c (j := ((a1 + 6) : Int).toNat) hp405 gca rfl).trans e413
                    have e415 := (up_nI (a' := ca) (j' := ((a1 + 6) : Int).toNat) U406 (fun h => by have h2 := h.2; omega)).trans e414
                    have m416 : (sI H406 ca ((a1 + 6)).toNat).toInt = v21.toInt := (congrArg Int32.toInt e415).trans rfl
                    have hz8 := tk_nn (sI H406 h0 (X.1.2 11 14)).toInt
                    exact ret H406 locs406 _ _ dX12_readTest_146 ⟨hKp406, ⟨by omega, by omega, by omega, by omega, kb, by omega⟩⟩ hC406 hS406
                  · refine lv_bipush (v := 99) hx hb dX12_readTest_134 rfl ?_
                    refine lv_goto (tgt := 142) hx hb dX12_readTest_136 rfl ?_
                    refine q_goI (q_runV (As := [.int 0, .int 99]) (rest := [.int v403, .ref ca]) E hC402 hS402 (m_X12_count l X Γ H402 hC402 h0 g0 0 (a1 := 0) (by decide) 99 (a2 := 99) (by decide) ca gca uc (by omega) (by omega) (by omega) (by omega)) cw_X12_count cl_RX12_248 g0 ⟨rfl, rfl⟩ rfl hl.1 rfl (show _ ≤ _ from by simp [Value.category]) (by decide) dX12_readTest_142) hS402 (fun v417 H417 locs417 hr417 hC417 hS417 => ?_)
                    obtain ⟨hp417, hr417⟩ := hr417
                    have hKp417 := hKp402.tr (hp417.mono rfl)
                    replace kb : KB H0 H417 ca (a1 + 1) := KB.kp kb hp417 gca rfl
                    obtain ⟨f417_0, f417_1, f417_2, f417_3, f417_4, f417_5, f417_6, f417_7⟩ := hr417
                    refine q_cast E hC417 hS417 gca (a := (a1 + 2)) ev403i (by omega) (by omega) (cs_n244 (a := (a1 + 2)) (by omega) (by omega)) dX12_readTest_145 (fun H418 locs418 hC418 hS418 U418 => ?_)
                    have hKp418 := Kp.upD gca rfl rfl (fun _ => ⟨fun _ => nd4 (by omega) (by omega), fun _ => by unfold dpu; omega, fun _ => by unfold dpn; omega⟩) U418 hKp417
                    replace kb : KB H0 H418 ca (a1 + 1) := KB.up kb U418 (by omega)
                    have m419 : (sI H418 h0 (X.1.2 11 12)).toInt = (sI H417 h0 (X.1.2 11 12)).toInt := congrArg Int32.toInt (up_nI U418 (ne_k g0 gca (by decide)))
                    have m420 : (sI H418 h0 (X.1.2 11 14)).toInt = (sI H417 h0 (X.1.2 11 14)).toInt := congrArg Int32.toInt (up_nI U418 (ne_k g0 gca (by decide)))
                    have m421 := congrArg tk m420
                    have m422 : (sI H418 h0 (X.1.2 11 16)).toInt = (sI H417 h0 (X.1.2 11 16)).toInt := congrArg Int32.toInt (up_nI U418 (ne_k g0 gca (by decide)))
                    have e423 := up_I U418
                    have e424 := (up_nI (a' := ca) (j' := ((a1 + 6) : Int).toNat) U334 (fun h => by have h2 := h.2; omega)).trans e199
                    have e425 := (kp_c (j := ((a1 + 6) : Int).toNat) hp402 gca rfl).trans e424
                    have e426 := (kp_c (j := ((a1 + 6) : Int).toNat) hp417 gca rfl).trans e425
                    have e427 := (up_nI (a' := ca) (j' := ((a1 + 6) : Int).toNat) U418 (fun h => by have h2 := h.2; omega)).trans e426
                    have m428 : (sI H418 ca ((a1 + 6)).toNat).toInt = v21.toInt := (congrArg Int32.toInt e427).trans rfl
                    have hz8 := tk_nn (sI H418 h0 (X.1.2 11 14)).toInt
                    exact ret H418 locs418 _ _ dX12_readTest_146 ⟨hKp418, ⟨by omega, by omega, by omega, by omega, kb, by omega⟩⟩ hC418 hS418
                · refine q_if_eq hx hb (a := 0) (by decide) (tgt := 116) dX12_readTest_109 rfl (fun c429 => ?_) (fun c429 => absurd c429 (by omega))
                  refine lv_iconst (v := 0) hx hb dX12_readTest_116 rfl ?_
                  refine q_goV (q_runV (As := [.int 0]) (rest := []) E hC334 hS400 (m_X12_must l X Γ H334 hC334 h0 g0 0 (a1 := 0) (by decide) ca gca uc (by omega) (by omega)) cw_X12_must cl_RX12_244 g0 ⟨rfl, rfl⟩ rfl hl.1 rfl (Nat.zero_le _) (by decide) dX12_readTest_117) hS400 (fun H430 locs430 hr430 hC430 hS430 => ?_)
                  obtain ⟨hp430, hr430⟩ := hr430
                  have hKp430 := hKp334.tr (hp430.mono rfl)
                  replace kb : KB H0 H430 ca (a1 + 1) := KB.kp kb hp430 gca rfl
                  obtain ⟨f430_0, f430_1, f430_2, f430_3, f430_4⟩ := hr430
                  refine lv_aload_n hx hb dX12_readTest_120 rfl (lv_at hl 1 rfl) ?_
                  refine q_getC E hC430 g0 fa_RX12_35 uc dX12_readTest_121 ?_
                  refine lv_iload_n hx hb dX12_readTest_124 rfl (lv_at hl 2 rfl) ?_
                  refine lv_iconst (v := 2) hx hb dX12_readTest_125 rfl ?_
                  refine lv_iadd hx hb dX12_readTest_126 (lv_topi (fun v431 ev431 => ?_))
                  have ev431i : v431.toInt = (a1 + 2) := i_add ev431 e1 (by decide) (by omega) (by omega)
                  refine lv_aload_n hx hb dX12_readTest_127 rfl (lv_at hl 1 rfl) ?_
                  refine lv_iconst (v := 0) hx hb dX12_readTest_128 rfl ?_
                  refine lv_iload_n hx hb dX12_readTest_129 rfl (lv_at hl 0 rfl) ?_
                  refine lv_iconst (v := 1) hx hb dX12_readTest_130 rfl ?_
                  refine q_icmp_ne hx hb (a := v21.toInt) (b := 1) rfl (by decide) (tgt := 139) dX12_readTest_131 rfl (fun c432 => ?_) (fun c432 => ?_)
                  · refine lv_sipush (v := 999) hx hb dX12_readTest_139 rfl ?_
                    refine q_goI (q_runV (As := [.int 0, .int 999]) (rest := [.int v431, .ref ca]) E hC430 hS430 (m_X12_count l X Γ H430 hC430 h0 g0 0 (a1 := 0) (by decide) 999 (a2 := 999) (by decide) ca gca uc (by omega) (by omega) (by omega) (by omega)) cw_X12_count cl_RX12_248 g0 ⟨rfl, rfl⟩ rfl hl.1 rfl (show _ ≤ _ from by simp [Value.category]) (by decide) dX12_readTest_142) hS430 (fun v433 H433 locs433 hr433 hC433 hS433 => ?_)
                    obtain ⟨hp433, hr433⟩ := hr433
                    have hKp433 := hKp430.tr (hp433.mono rfl)
                    replace kb : KB H0 H433 ca (a1 + 1) := KB.kp kb hp433 gca rfl
                    obtain ⟨f433_0, f433_1, f433_2, f433_3, f433_4, f433_5, f433_6, f433_7⟩ := hr433
                    refine q_cast E hC433 hS433 gca (a := (a1 + 2)) ev431i (by omega) (by omega) (cs_n244 (a := (a1 + 2)) (by omega) (by omega)) dX12_readTest_145 (fun H434 locs434 hC434 hS434 U434 => ?_)
                    have hKp434 := Kp.upD gca rfl rfl (fun _ => ⟨fun _ => nd4 (by omega) (by omega), fun _ => by unfold dpu; omega, fun _ => by unfold dpn; omega⟩) U434 hKp433
                    replace kb : KB H0 H434 ca (a1 + 1) := KB.up kb U434 (by omega)
                    have m435 : (sI H434 h0 (X.1.2 11 12)).toInt = (sI H433 h0 (X.1.2 11 12)).toInt := congrArg Int32.toInt (up_nI U434 (ne_k g0 gca (by decide)))
                    have m436 : (sI H434 h0 (X.1.2 11 14)).toInt = (sI H433 h0 (X.1.2 11 14)).toInt := congrArg Int32.toInt (up_nI U434 (ne_k g0 gca (by decide)))
                    have m437 := congrArg tk m436
                    have m438 : (sI H434 h0 (X.1.2 11 16)).toInt = (sI H433 h0 (X.1.2 11 16)).toInt := congrArg Int32.toInt (up_nI U434 (ne_k g0 gca (by decide)))
                    have e439 := up_I U434
                    have e440 := (up_nI (a' := ca) (j' := ((a1 + 6) : Int).toNat) U334 (fun h => by have h2 := h.2; omega)).trans e199
                    have e441 := (kp_c (j := ((a1 + 6) : Int).toNat) hp430 gca rfl).trans e440
                    have e442 := (kp_c (j := ((a1 + 6) : Int).toNat) hp433 gca rfl).trans e441
                    have e443 := (up_nI (a' := ca) (j' := ((a1 + 6) : Int).toNat) U434 (fun h => by have h2 := h.2; omega)).trans e442
                    have m444 : (sI H434 ca ((a1 + 6)).toNat).toInt = v21.toInt := (congrArg Int32.toInt e443).trans rfl
                    have hz8 := tk_nn (sI H434 h0 (X.1.2 11 14)).toInt
                    exact ret H434 locs434 _ _ dX12_readTest_146 ⟨hKp434, ⟨by omega, by omega, by omega, by omega, kb, by omega⟩⟩ hC434 hS434
                  · refine lv_bipush (v := 99) hx hb dX12_readTest_134 rfl ?_
                    refine lv_goto (tgt := 142) hx hb dX12_readTest_136 rfl ?_
                    refine q_goI (q_runV (As := [.int 0, .int 99]) (rest := [.int v431, .ref ca]) E hC430 hS430 (m_X12_count l X Γ H430 hC430 h0 g0 0 (a1 := 0) (by decide) 99 (a2 := 99) (by decide) ca gca uc (by omega) (by omega) (by omega) (by omega)) cw_X12_count cl_RX12_248 g0 ⟨rfl, rfl⟩ rfl hl.1 rfl (show _ ≤ _ from by simp [Value.category]) (by decide) dX12_readTest_142) hS430 (fun v445 H445 locs445 hr445 hC445 hS445 => ?_)
                    obtain ⟨hp445, hr445⟩ := hr445
                    have hKp445 := hKp430.tr (hp445.mono rfl)
                    replace kb : KB H0 H445 ca (a1 + 1) := KB.kp kb hp445 gca rfl
                    obtain ⟨f445_0, f445_1, f445_2, f445_3, f445_4, f445_5, f445_6, f445_7⟩ := hr445
                    refine q_cast E hC445 hS445 gca (a := (a1 + 2)) ev431i (by omega) (by omega) (cs_n244 (a := (a1 + 2)) (by omega) (by omega)) dX12_readTest_145 (fun H446 locs446 hC446 hS446 U446 => ?_)
                    have hKp446 := Kp.upD gca rfl rfl (fun _ => ⟨fun _ => nd4 (by omega) (by omega), fun _ => by unfold dpu; omega, fun _ => by unfold dpn; omega⟩) U446 hKp445
                    replace kb : KB H0 H446 ca (a1 + 1) := KB.up kb U446 (by omega)
                    have m447 : (sI H446 h0 (X.1.2 11 12)).toInt = (sI H445 h0 (X.1.2 11 12)).toInt := congrArg Int32.toInt (up_nI U446 (ne_k g0 gca (by decide)))
                    have m448 : (sI H446 h0 (X.1.2 11 14)).toInt = (sI H445 h0 (X.1.2 11 14)).toInt := congrArg Int32.toInt (up_nI U446 (ne_k g0 gca (by decide)))
                    have m449 := congrArg tk m448
                    have m450 : (sI H446 h0 (X.1.2 11 16)).toInt = (sI H445 h0 (X.1.2 11 16)).toInt := congrArg Int32.toInt (up_nI U446 (ne_k g0 gca (by decide)))
                    have e451 := up_I U446
                    have e452 := (up_nI (a' := ca) (j' := ((a1 + 6) : Int).toNat) U334 (fun h => by have h2 := h.2; omega)).trans e199
                    have e453 := (kp_c (j := ((a1 + 6) : Int).toNat) hp430 gca rfl).trans e452
                    have e454 := (kp_c (j := ((a1 + 6) : Int).toNat) hp445 gca rfl).trans e453
                    have e455 := (up_nI (a' := ca) (j' := ((a1 + 6) : Int).toNat) U446 (fun h => by have h2 := h.2; omega)).trans e454
                    have m456 : (sI H446 ca ((a1 + 6)).toNat).toInt = v21.toInt := (congrArg Int32.toInt e455).trans rfl
                    have hz8 := tk_nn (sI H446 h0 (X.1.2 11 14)).toInt
                    exact ret H446 locs446 _ _ dX12_readTest_146 ⟨hKp446, ⟨by omega, by omega, by omega, by omega, kb, by omega⟩⟩ hC446 hS446
        · have m457 : (sI H194 ca ((a1 + 6)).toNat).toInt = v21.toInt := (congrArg Int32.toInt e199).trans rfl
          have hz8 := tk_nn (sI H194 h0 (X.1.2 11 14)).toInt
          exact ret H194 locs194 _ _ dX12_readTest_58 ⟨hKp194, ⟨by omega, by omega, by omega, by omega, kb, by omega⟩⟩ hC194 hS194
    · refine lv_aload_n hx hb dX12_readTest_33 rfl (lv_at hl 1 rfl) ?_
      refine q_getC E hC194 g0 fa_RX12_35 uc dX12_readTest_34 ?_
      refine lv_iload_n hx hb dX12_readTest_37 rfl (lv_at hl 2 rfl) ?_
      refine lv_iconst (v := 1) hx hb dX12_readTest_38 rfl ?_
      refine lv_iadd hx hb dX12_readTest_39 (lv_topi (fun v458 ev458 => ?_))
      have ev458i : v458.toInt = (a1 + 1) := i_add ev458 e1 (by decide) (by omega) (by omega)
      refine lv_aload_n hx hb dX12_readTest_40 rfl (lv_at hl 1 rfl) ?_
      refine lv_iconst (v := 0) hx hb dX12_readTest_41 rfl ?_
      refine q_goI (q_runV (As := [.int 0]) (rest := [.int v458, .ref ca]) E hC194 hS194 (m_X12_readPlace l X Γ H194 hC194 h0 g0 0 (a1 := 0) (by decide) ca gca uc) cw_X12_readPlace cl_RX12_273 g0 ⟨rfl, rfl⟩ rfl hl.1 rfl (show _ ≤ _ from by simp [Value.category]) (by decide) dX12_readTest_42) hS194 (fun v459 H459 locs459 hr459 hC459 hS459 => ?_)
      obtain ⟨hp459, hr459⟩ := hr459
      have hKp459 := hKp194.tr (hp459.mono rfl)
      replace kb : KB H0 H459 ca (a1 + 1) := KB.kp kb hp459 gca rfl
      obtain ⟨f459_0, f459_1, f459_2, f459_3, f459_4, f459_5⟩ := hr459
      refine q_cast E hC459 hS459 gca (a := (a1 + 1)) ev458i (by omega) (by omega) (cs_n244 (a := (a1 + 1)) (by omega) (by omega)) dX12_readTest_45 (fun H460 locs460 hC460 hS460 U460 => ?_)
      have hKp460 := Kp.upD gca rfl rfl (fun _ => ⟨fun _ => nd4 (by omega) (by omega), fun _ => by unfold dpu; omega, fun _ => by unfold dpn; omega⟩) U460 hKp459
      replace kb : KB H0 H460 ca (a1 + 1) := KB.up kb U460 (by omega)
      have m461 : (sI H460 h0 (X.1.2 11 12)).toInt = (sI H459 h0 (X.1.2 11 12)).toInt := congrArg Int32.toInt (up_nI U460 (ne_k g0 gca (by decide)))
      have m462 : (sI H460 h0 (X.1.2 11 14)).toInt = (sI H459 h0 (X.1.2 11 14)).toInt := congrArg Int32.toInt (up_nI U460 (ne_k g0 gca (by decide)))
      have m463 := congrArg tk m462
      have m464 : (sI H460 h0 (X.1.2 11 16)).toInt = (sI H459 h0 (X.1.2 11 16)).toInt := congrArg Int32.toInt (up_nI U460 (ne_k g0 gca (by decide)))
      have e465 := up_I U460
      refine lv_aload_n hx hb dX12_readTest_46 rfl (lv_at hl 1 rfl) ?_
      refine q_getI E hC460 g0 fa_RX12_218 dX12_readTest_47 (fun v466 ev466 lv466 uv466 => ?_)
      have m467 : (sI H460 h0 (X.1.2 11 12)).toInt = v466.toInt := (congrArg Int32.toInt ev466).trans rfl
      refine q_if_gt hx hb (a := v466.toInt) rfl (tgt := 58) dX12_readTest_50 rfl (fun c468 => ?_) (fun c468 => ?_)
      · have m469 : (sI H460 ca ((a1 + 1)).toNat).toInt = v459.toInt := (congrArg Int32.toInt e465).trans rfl
        have e470 := (kp_c (j := ((a1 + 6) : Int).toNat) hp459 gca rfl).trans e199
        have e471 := (up_nI (a' := ca) (j' := ((a1 + 6) : Int).toNat) U460 (fun h => by have h2 := h.2; omega)).trans e470
        have m472 : (sI H460 ca ((a1 + 6)).toNat).toInt = v21.toInt := (congrArg Int32.toInt e471).trans rfl
        have hz8 := tk_nn (sI H460 h0 (X.1.2 11 14)).toInt
        exact ret H460 locs460 _ _ dX12_readTest_58 ⟨hKp460, ⟨by omega, by omega, by omega, by omega, kb, by omega⟩⟩ hC460 hS460
      · refine lv_iload_n hx hb dX12_readTest_53 rfl (lv_at hl 0 rfl) ?_
        refine lv_iconst (v := 2) hx hb dX12_readTest_54 rfl ?_
        refine q_icmp_ne hx hb (a := v21.toInt) (b := 2) rfl (by decide) (tgt := 59) dX12_readTest_55 rfl (fun c473 => ?_) (fun c473 => absurd c473 (by omega))
        refine lv_aload_n hx hb dX12_readTest_59 rfl (lv_at hl 1 rfl) ?_
        refine q_getC E hC460 g0 fa_RX12_35 uc dX12_readTest_60 ?_
        refine lv_iload_n hx hb dX12_readTest_63 rfl (lv_at hl 2 rfl) ?_
        refine lv_bipush (v := 7) hx hb dX12_readTest_64 rfl ?_
        refine lv_iadd hx hb dX12_readTest_66 (lv_topi (fun v474 ev474 => ?_))
        have ev474i : v474.toInt = (a1 + 7) := i_add ev474 e1 (by decide) (by omega) (by omega)
        refine lv_aload_n hx hb dX12_readTest_67 rfl (lv_at hl 1 rfl) ?_
        refine q_getI E hC460 g0 fa_RX12_120 dX12_readTest_68 (fun v475 ev475 _ _ => ?_)
        have m476 : (sI H460 h0 (X.1.2 11 14)).toInt = v475.toInt := (congrArg Int32.toInt ev475).trans rfl
        refine lv_iconst (v := 3) hx hb dX12_readTest_71 rfl ?_
        refine q_icmp_ne hx hb (a := v475.toInt) (b := 3) rfl (by decide) (tgt := 82) dX12_readTest_72 rfl (fun c477 => ?_) (fun c477 => ?_)
        · refine lv_iconst (v := 0) hx hb dX12_readTest_82 rfl ?_
          refine q_cast E hC460 hS460 gca (a := (a1 + 7)) ev474i (by omega) (by omega) (cs_n244 (a := (a1 + 7)) (by omega) (by omega)) dX12_readTest_83 (fun H478 locs478 hC478 hS478 U478 => ?_)
          have hKp478 := Kp.upD gca rfl rfl (fun _ => ⟨fun _ => nd4 (by omega) (by omega), fun _ => by unfold dpu; omega, fun _ => by unfold dpn; omega⟩) U478 hKp460
          replace kb : KB H0 H478 ca (a1 + 1) := KB.up kb U478 (by omega)
          have m479 : (sI H478 h0 (X.1.2 11 12)).toInt = (sI H460 h0 (X.1.2 11 12)).toInt := congrArg Int32.toInt (up_nI U478 (ne_k g0 gca (by decide)))
          have m480 : (sI H478 h0 (X.1.2 11 14)).toInt = (sI H460 h0 (X.1.2 11 14)).toInt := congrArg Int32.toInt (up_nI U478 (ne_k g0 gca (by decide)))
          have m481 := congrArg tk m480
          have m482 : (sI H478 h0 (X.1.2 11 16)).toInt = (sI H460 h0 (X.1.2 11 16)).toInt := congrArg Int32.toInt (up_nI U478 (ne_k g0 gca (by decide)))
          have e483 := up_I U478
          refine lv_aload_n hx hb dX12_readTest_84 rfl (lv_at hl 1 rfl) ?_
          refine lv_aload_n hx hb dX12_readTest_85 rfl (lv_at hl 1 rfl) ?_
          refine lv_bipush (v := 60) hx hb dX12_readTest_86 rfl ?_
          refine q_goIp (q_runV (As := [.int 60]) (rest := [.ref h0]) E hC478 hS478 (m_X12_isSign l X Γ H478 hC478 h0 g0 60 (a1 := 60) (by decide) ca gca uc) cw_X12_isSign cl_RX12_255 g0 ⟨rfl, rfl⟩ rfl hl.1 rfl (show _ ≤ _ from by simp [Value.category]) (by decide) dX12_readTest_88) hS478 (fun v484 locs484 hr484 hS484 => ?_)
          rcases hr484 with ⟨rfl, f484a⟩ | ⟨rfl, -⟩
          · refine q_if_ne hx hb (a := 1) (by decide) (tgt := 112) dX12_readTest_91 rfl (fun c485 => ?_) (fun c485 => absurd c485 (by omega))
            refine lv_iconst (v := 1) hx hb dX12_readTest_112 rfl ?_
            refine lv_goto (tgt := 117) hx hb dX12_readTest_113 rfl ?_
            refine q_goV (q_runV (As := [.int 1]) (rest := []) E hC478 hS484 (m_X12_must l X Γ H478 hC478 h0 g0 1 (a1 := 1) (by decide) ca gca uc (by omega) (by omega)) cw_X12_must cl_RX12_244 g0 ⟨rfl, rfl⟩ rfl hl.1 rfl (Nat.zero_le _) (by decide) dX12_readTest_117) hS484 (fun H486 locs486 hr486 hC486 hS486 => ?_)
            obtain ⟨hp486, hr486⟩ := hr486
            have hKp486 := hKp478.tr (hp486.mono rfl)
            replace kb : KB H0 H486 ca (a1 + 1) := KB.kp kb hp486 gca rfl
            obtain ⟨f486_0, f486_1, f486_2, f486_3, f486_4⟩ := hr486
            refine lv_aload_n hx hb dX12_readTest_120 rfl (lv_at hl 1 rfl) ?_
            refine q_getC E hC486 g0 fa_RX12_35 uc dX12_readTest_121 ?_
            refine lv_iload_n hx hb dX12_readTest_124 rfl (lv_at hl 2 rfl) ?_
            refine lv_iconst (v := 2) hx hb dX12_readTest_125 rfl ?_
            refine lv_iadd hx hb dX12_readTest_126 (lv_topi (fun v487 ev487 => ?_))
            have ev487i : v487.toInt = (a1 + 2) := i_add ev487 e1 (by decide) (by omega) (by omega)
            refine lv_aload_n hx hb dX12_readTest_127 rfl (lv_at hl 1 rfl) ?_
            refine lv_iconst (v := 0) hx hb dX12_readTest_128 rfl ?_
            refine lv_iload_n hx hb dX12_readTest_129 rfl (lv_at hl 0 rfl) ?_
            refine lv_iconst (v := 1) hx hb dX12_readTest_130 rfl ?_
            refine q_icmp_ne hx hb (a := v21.toInt) (b := 1) rfl (by decide) (tgt := 139) dX12_readTest_131 rfl (fun c488 => absurd c488 (by omega)) (fun c488 => ?_)
            refine lv_bipush (v := 99) hx hb dX12_readTest_134 rfl ?_
            refine lv_goto (tgt := 142) hx hb dX12_readTest_136 rfl ?_
            refine q_goI (q_runV (As := [.int 0, .int 99]) (rest := [.int v487, .ref ca]) E hC486 hS486 (m_X12_count l X Γ H486 hC486 h0 g0 0 (a1 := 0) (by decide) 99 (a2 := 99) (by decide) ca gca uc (by omega) (by omega) (by omega) (by omega)) cw_X12_count cl_RX12_248 g0 ⟨rfl, rfl⟩ rfl hl.1 rfl (show _ ≤ _ from by simp [Value.category]) (by decide) dX12_readTest_142) hS486 (fun v489 H489 locs489 hr489 hC489 hS489 => ?_)
            obtain ⟨hp489, hr489⟩ := hr489
            have hKp489 := hKp486.tr (hp489.mono rfl)
            replace kb : KB H0 H489 ca (a1 + 1) := KB.kp kb hp489 gca rfl
            obtain ⟨f489_0, f489_1, f489_2, f489_3, f489_4, f489_5, f489_6, f489_7⟩ := hr489
            refine q_cast E hC489 hS489 gca (a := (a1 + 2)) ev487i (by omega) (by omega) (cs_n244 (a := (a1 + 2)) (by omega) (by omega)) dX12_readTest_145 (fun H490 locs490 hC490 hS490 U490 => ?_)
            have hKp490 := Kp.upD gca rfl rfl (fun _ => ⟨fun _ => nd4 (by omega) (by omega), fun _ => by unfold dpu; omega, fun _ => by unfold dpn; omega⟩) U490 hKp489
            replace kb : KB H0 H490 ca (a1 + 1) := KB.up kb U490 (by omega)
            have m491 : (sI H490 h0 (X.1.2 11 12)).toInt = (sI H489 h0 (X.1.2 11 12)).toInt := congrArg Int32.toInt (up_nI U490 (ne_k g0 gca (by decide)))
            have m492 : (sI H490 h0 (X.1.2 11 14)).toInt = (sI H489 h0 (X.1.2 11 14)).toInt := congrArg Int32.toInt (up_nI U490 (ne_k g0 gca (by decide)))
            have m493 := congrArg tk m492
            have m494 : (sI H490 h0 (X.1.2 11 16)).toInt = (sI H489 h0 (X.1.2 11 16)).toInt := congrArg Int32.toInt (up_nI U490 (ne_k g0 gca (by decide)))
            have e495 := up_I U490
            have e496 := (up_nI (a' := ca) (j' := ((a1 + 1) : Int).toNat) U478 (fun h => by have h2 := h.2; omega)).trans e465
            have e497 := (kp_c (j := ((a1 + 1) : Int).toNat) hp486 gca rfl).trans e496
            have e498 := (kp_c (j := ((a1 + 1) : Int).toNat) hp489 gca rfl).trans e497
            have e499 := (up_nI (a' := ca) (j' := ((a1 + 1) : Int).toNat) U490 (fun h => by have h2 := h.2; omega)).trans e498
            have m500 : (sI H490 ca ((a1 + 1)).toNat).toInt = v459.toInt := (congrArg Int32.toInt e499).trans rfl
            have e501 := (kp_c (j := ((a1 + 6) : Int).toNat) hp459 gca rfl).trans e199
            have e502 := (up_nI (a' := ca) (j' := ((a1 + 6) : Int).toNat) U460 (fun h => by have h2 := h.2; omega)).trans e501
            have e503 := (up_nI (a' := ca) (j' := ((a1 + 6) : Int).toNat) U478 (fun h => by have h2 := h.2; omega)).trans e502
            have e504 := (kp_c (j := ((a1 + 6) : Int).toNat) hp486 gca rfl).trans e503
            have e505 := (kp_c (j := ((a1 + 6) : Int).toNat) hp489 gca rfl).trans e504
            have e506 := (up_nI (a' := ca) (j' := ((a1 + 6) : Int).toNat) U490 (fun h => by have h2 := h.2; omega)).trans e505
            have m507 : (sI H490 ca ((a1 + 6)).toNat).toInt = v21.toInt := (congrArg Int32.toInt e506).trans rfl
            have hz8 := tk_nn (sI H490 h0 (X.1.2 11 14)).toInt
            exact ret H490 locs490 _ _ dX12_readTest_146 ⟨hKp490, ⟨by omega, by omega, by omega, by omega, kb, by omega⟩⟩ hC490 hS490
          · refine q_if_ne hx hb (a := 0) (by decide) (tgt := 112) dX12_readTest_91 rfl (fun c508 => absurd c508 (by omega)) (fun c508 => ?_)
            refine lv_aload_n hx hb dX12_readTest_94 rfl (lv_at hl 1 rfl) ?_
            refine lv_bipush (v := 62) hx hb dX12_readTest_95 rfl ?_
            refine q_goIp (q_runV (As := [.int 62]) (rest := [.ref h0]) E hC478 hS484 (m_X12_isSign l X Γ H478 hC478 h0 g0 62 (a1 := 62) (by decide) ca gca uc) cw_X12_isSign cl_RX12_255 g0 ⟨rfl, rfl⟩ rfl hl.1 rfl (show _ ≤ _ from by simp [Value.category]) (by decide) dX12_readTest_97) hS484 (fun v509 locs509 hr509 hS509 => ?_)
            rcases hr509 with ⟨rfl, f509a⟩ | ⟨rfl, -⟩
            · refine q_if_ne hx hb (a := 1) (by decide) (tgt := 112) dX12_readTest_100 rfl (fun c510 => ?_) (fun c510 => absurd c510 (by omega))
              refine lv_iconst (v := 1) hx hb dX12_readTest_112 rfl ?_
              refine lv_goto (tgt := 117) hx hb dX12_readTest_113 rfl ?_
              refine q_goV (q_runV (As := [.int 1]) (rest := []) E hC478 hS509 (m_X12_must l X Γ H478 hC478 h0 g0 1 (a1 := 1) (by decide) ca gca uc (by omega) (by omega)) cw_X12_must cl_RX12_244 g0 ⟨rfl, rfl⟩ rfl hl.1 rfl (Nat.zero_le _) (by decide) dX12_readTest_117) hS509 (fun H511 locs511 hr511 hC511 hS511 => ?_)
              obtain ⟨hp511, hr511⟩ := hr511
              have hKp511 := hKp478.tr (hp511.mono rfl)
              replace kb : KB H0 H511 ca (a1 + 1) := KB.kp kb hp511 gca rfl
              obtain ⟨f511_0, f511_1, f511_2, f511_3, f511_4⟩ := hr511
              refine lv_aload_n hx hb dX12_readTest_120 rfl (lv_at hl 1 rfl) ?_
              refine q_getC E hC511 g0 fa_RX12_35 uc dX12_readTest_121 ?_
              refine lv_iload_n hx hb dX12_readTest_124 rfl (lv_at hl 2 rfl) ?_
              refine lv_iconst (v := 2) hx hb dX12_readTest_125 rfl ?_
              refine lv_iadd hx hb dX12_readTest_126 (lv_topi (fun v512 ev512 => ?_))
              have ev512i : v512.toInt = (a1 + 2) := i_add ev512 e1 (by decide) (by omega) (by omega)
              refine lv_aload_n hx hb dX12_readTest_127 rfl (lv_at hl 1 rfl) ?_
              refine lv_iconst (v := 0) hx hb dX12_readTest_128 rfl ?_
              refine lv_iload_n hx hb dX12_readTest_129 rfl (lv_at hl 0 rfl) ?_
              refine lv_iconst (v := 1) hx hb dX12_readTest_130 rfl ?_
              refine q_icmp_ne hx hb (a := v21.toInt) (b := 1) rfl (by decide) (tgt := 139) dX12_readTest_131 rfl (fun c513 => absurd c513 (by omega)) (fun c513 => ?_)
              refine lv_bipush (v := 99) hx hb dX12_readTest_134 rfl ?_
              refine lv_goto (tgt := 142) hx hb dX12_readTest_136 rfl ?_
              refine q_goI (q_runV (As := [.int 0, .int 99]) (rest := [.int v512, .ref ca]) E hC511 hS511 (m_X12_count l X Γ H511 hC511 h0 g0 0 (a1 := 0) (by decide) 99 (a2 := 99) (by decide) ca gca uc (by omega) (by omega) (by omega) (by omega)) cw_X12_count cl_RX12_248 g0 ⟨rfl, rfl⟩ rfl hl.1 rfl (show _ ≤ _ from by simp [Value.category]) (by decide) dX12_readTest_142) hS511 (fun v514 H514 locs514 hr514 hC514 hS514 => ?_)
              obtain ⟨hp514, hr514⟩ := hr514
              have hKp514 := hKp511.tr (hp514.mono rfl)
              replace kb : KB H0 H514 ca (a1 + 1) := KB.kp kb hp514 gca rfl
              obtain ⟨f514_0, f514_1, f514_2, f514_3, f514_4, f514_5, f514_6, f514_7⟩ := hr514
              refine q_cast E hC514 hS514 gca (a := (a1 + 2)) ev512i (by omega) (by omega) (cs_n244 (a := (a1 + 2)) (by omega) (by omega)) dX12_readTest_145 (fun H515 locs515 hC515 hS515 U515 => ?_)
              have hKp515 := Kp.upD gca rfl rfl (fun _ => ⟨fun _ => nd4 (by omega) (by omega), fun _ => by unfold dpu; omega, fun _ => by unfold dpn; omega⟩) U515 hKp514
              replace kb : KB H0 H515 ca (a1 + 1) := KB.up kb U515 (by omega)
              have m516 : (sI H515 h0 (X.1.2 11 12)).toInt = (sI H514 h0 (X.1.2 11 12)).toInt := congrArg Int32.toInt (up_nI U515 (ne_k g0 gca (by decide)))
              have m517 : (sI H515 h0 (X.1.2 11 14)).toInt = (sI H514 h0 (X.1.2 11 14)).toInt := congrArg Int32.toInt (up_nI U515 (ne_k g0 gca (by decide)))
              have m518 := congrArg tk m517
              have m519 : (sI H515 h0 (X.1.2 11 16)).toInt = (sI H514 h0 (X.1.2 11 16)).toInt := congrArg Int32.toInt (up_nI U515 (ne_k g0 gca (by decide)))
              have e520 := up_I U515
              have e521 := (up_nI (a' := ca) (j' := ((a1 + 1) : Int).toNat) U478 (fun h => by have h2 := h.2; omega)).trans e465
              have e522 := (kp_c (j := ((a1 + 1) : Int).toNat) hp511 gca rfl).trans e521
              have e523 := (kp_c (j := ((a1 + 1) : Int).toNat) hp514 gca rfl).trans e522
              have e524 := (up_nI (a' := ca) (j' := ((a1 + 1) : Int).toNat) U515 (fun h => by have h2 := h.2; omega)).trans e523
              have m525 : (sI H515 ca ((a1 + 1)).toNat).toInt = v459.toInt := (congrArg Int32.toInt e524).trans rfl
              have e526 := (kp_c (j := ((a1 + 6) : Int).toNat) hp459 gca rfl).trans e199
              have e527 := (up_nI (a' := ca) (j' := ((a1 + 6) : Int).toNat) U460 (fun h => by have h2 := h.2; omega)).trans e526
              have e528 := (up_nI (a' := ca) (j' := ((a1 + 6) : Int).toNat) U478 (fun h => by have h2 := h.2; omega)).trans e527
              have e529 := (kp_c (j := ((a1 + 6) : Int).toNat) hp511 gca rfl).trans e528
              have e530 := (kp_c (j := ((a1 + 6) : Int).toNat) hp514 gca rfl).trans e529
              have e531 := (up_nI (a' := ca) (j' := ((a1 + 6) : Int).toNat) U515 (fun h => by have h2 := h.2; omega)).trans e530
              have m532 : (sI H515 ca ((a1 + 6)).toNat).toInt = v21.toInt := (congrArg Int32.toInt e531).trans rfl
              have hz8 := tk_nn (sI H515 h0 (X.1.2 11 14)).toInt
              exact ret H515 locs515 _ _ dX12_readTest_146 ⟨hKp515, ⟨by omega, by omega, by omega, by omega, kb, by omega⟩⟩ hC515 hS515
            · refine q_if_ne hx hb (a := 0) (by decide) (tgt := 112) dX12_readTest_100 rfl (fun c533 => absurd c533 (by omega)) (fun c533 => ?_)
              refine lv_aload_n hx hb dX12_readTest_103 rfl (lv_at hl 1 rfl) ?_
              refine lv_bipush (v := 61) hx hb dX12_readTest_104 rfl ?_
              refine q_goIp (q_runV (As := [.int 61]) (rest := [.ref h0]) E hC478 hS509 (m_X12_isSign l X Γ H478 hC478 h0 g0 61 (a1 := 61) (by decide) ca gca uc) cw_X12_isSign cl_RX12_255 g0 ⟨rfl, rfl⟩ rfl hl.1 rfl (show _ ≤ _ from by simp [Value.category]) (by decide) dX12_readTest_106) hS509 (fun v534 locs534 hr534 hS534 => ?_)
              rcases hr534 with ⟨rfl, f534a⟩ | ⟨rfl, -⟩
              · refine q_if_eq hx hb (a := 1) (by decide) (tgt := 116) dX12_readTest_109 rfl (fun c535 => absurd c535 (by omega)) (fun c535 => ?_)
                refine lv_iconst (v := 1) hx hb dX12_readTest_112 rfl ?_
                refine lv_goto (tgt := 117) hx hb dX12_readTest_113 rfl ?_
                refine q_goV (q_runV (As := [.int 1]) (rest := []) E hC478 hS534 (m_X12_must l X Γ H478 hC478 h0 g0 1 (a1 := 1) (by decide) ca gca uc (by omega) (by omega)) cw_X12_must cl_RX12_244 g0 ⟨rfl, rfl⟩ rfl hl.1 rfl (Nat.zero_le _) (by decide) dX12_readTest_117) hS534 (fun H536 locs536 hr536 hC536 hS536 => ?_)
                obtain ⟨hp536, hr536⟩ := hr536
                have hKp536 := hKp478.tr (hp536.mono rfl)
                replace kb : KB H0 H536 ca (a1 + 1) := KB.kp kb hp536 gca rfl
                obtain ⟨f536_0, f536_1, f536_2, f536_3, f536_4⟩ := hr536
                refine lv_aload_n hx hb dX12_readTest_120 rfl (lv_at hl 1 rfl) ?_
                refine q_getC E hC536 g0 fa_RX12_35 uc dX12_readTest_121 ?_
                refine lv_iload_n hx hb dX12_readTest_124 rfl (lv_at hl 2 rfl) ?_
                refine lv_iconst (v := 2) hx hb dX12_readTest_125 rfl ?_
                refine lv_iadd hx hb dX12_readTest_126 (lv_topi (fun v537 ev537 => ?_))
                have ev537i : v537.toInt = (a1 + 2) := i_add ev537 e1 (by decide) (by omega) (by omega)
                refine lv_aload_n hx hb dX12_readTest_127 rfl (lv_at hl 1 rfl) ?_
                refine lv_iconst (v := 0) hx hb dX12_readTest_128 rfl ?_
                refine lv_iload_n hx hb dX12_readTest_129 rfl (lv_at hl 0 rfl) ?_
                refine lv_iconst (v := 1) hx hb dX12_readTest_130 rfl ?_
                refine q_icmp_ne hx hb (a := v21.toInt) (b := 1) rfl (by decide) (tgt := 139) dX12_readTest_131 rfl (fun c538 => absurd c538 (by omega)) (fun c538 => ?_)
                refine lv_bipush (v := 99) hx hb dX12_readTest_134 rfl ?_
                refine lv_goto (tgt := 142) hx hb dX12_readTest_136 rfl ?_
                refine q_goI (q_runV (As := [.int 0, .int 99]) (rest := [.int v537, .ref ca]) E hC536 hS536 (m_X12_count l X Γ H536 hC536 h0 g0 0 (a1 := 0) (by decide) 99 (a2 := 99) (by decide) ca gca uc (by omega) (by omega) (by omega) (by omega)) cw_X12_count cl_RX12_248 g0 ⟨rfl, rfl⟩ rfl hl.1 rfl (show _ ≤ _ from by simp [Value.category]) (by decide) dX12_readTest_142) hS536 (fun v539 H539 locs539 hr539 hC539 hS539 => ?_)
                obtain ⟨hp539, hr539⟩ := hr539
                have hKp539 := hKp536.tr (hp539.mono rfl)
                replace kb : KB H0 H539 ca (a1 + 1) := KB.kp kb hp539 gca rfl
                obtain ⟨f539_0, f539_1, f539_2, f539_3, f539_4, f539_5, f539_6, f539_7⟩ := hr539
                refine q_cast E hC539 hS539 gca (a := (a1 + 2)) ev537i (by omega) (by omega) (cs_n244 (a := (a1 + 2)) (by omega) (by omega)) dX12_readTest_145 (fun H540 locs540 hC540 hS540 U540 => ?_)
                have hKp540 := Kp.upD gca rfl rfl (fun _ => ⟨fun _ => nd4 (by omega) (by omega), fun _ => by unfold dpu; omega, fun _ => by unfold dpn; omega⟩) U540 hKp539
                replace kb : KB H0 H540 ca (a1 + 1) := KB.up kb U540 (by omega)
                have m541 : (sI H540 h0 (X.1.2 11 12)).toInt = (sI H539 h0 (X.1.2 11 12)).toInt := congrArg Int32.toInt (up_nI U540 (ne_k g0 gca (by decide)))
                have m542 : (sI H540 h0 (X.1.2 11 14)).toInt = (sI H539 h0 (X.1.2 11 14)).toInt := congrArg Int32.toInt (up_nI U540 (ne_k g0 gca (by decide)))
                have m543 := congrArg tk m542
                have m544 : (sI H540 h0 (X.1.2 11 16)).toInt = (sI H539 h0 (X.1.2 11 16)).toInt := congrArg Int32.toInt (up_nI U540 (ne_k g0 gca (by decide)))
                have e545 := up_I U540
                have e546 := (up_nI (a' := ca) (j' := ((a1 + 1) : Int).toNat) U478 (fun h => by have h2 := h.2; omega)).trans e465
                have e547 := (kp_c (j := ((a1 + 1) : Int).toNat) hp536 gca rfl).trans e546
                have e548 := (kp_c (j := ((a1 + 1) : Int).toNat) hp539 gca rfl).trans e547
                have e549 := (up_nI (a' := ca) (j' := ((a1 + 1) : Int).toNat) U540 (fun h => by have h2 := h.2; omega)).trans e548
                have m550 : (sI H540 ca ((a1 + 1)).toNat).toInt = v459.toInt := (congrArg Int32.toInt e549).trans rfl
                have e551 := (kp_c (j := ((a1 + 6) : Int).toNat) hp459 gca rfl).trans e199
                have e552 := (up_nI (a' := ca) (j' := ((a1 + 6) : Int).toNat) U460 (fun h => by have h2 := h.2; omega)).trans e551
                have e553 := (up_nI (a' := ca) (j' := ((a1 + 6) : Int).toNat) U478 (fun h => by have h2 := h.2; omega)).trans e552
                have e554 := (kp_c (j := ((a1 + 6) : Int).toNat) hp536 gca rfl).trans e553
                have e555 := (kp_c (j := ((a1 + 6) : Int).toNat) hp539 gca rfl).trans e554
                have e556 := (up_nI (a' := ca) (j' := ((a1 + 6) : Int).toNat) U540 (fun h => by have h2 := h.2; omega)).trans e555
                have m557 : (sI H540 ca ((a1 + 6)).toNat).toInt = v21.toInt := (congrArg Int32.toInt e556).trans rfl
                have hz8 := tk_nn (sI H540 h0 (X.1.2 11 14)).toInt
                exact ret H540 locs540 _ _ dX12_readTest_146 ⟨hKp540, ⟨by omega, by omega, by omega, by omega, kb, by omega⟩⟩ hC540 hS540
              · refine q_if_eq hx hb (a := 0) (by decide) (tgt := 116) dX12_readTest_109 rfl (fun c558 => ?_) (fun c558 => absurd c558 (by omega))
                refine lv_iconst (v := 0) hx hb dX12_readTest_116 rfl ?_
                refine q_goV (q_runV (As := [.int 0]) (rest := []) E hC478 hS534 (m_X12_must l X Γ H478 hC478 h0 g0 0 (a1 := 0) (by decide) ca gca uc (by omega) (by omega)) cw_X12_must cl_RX12_244 g0 ⟨rfl, rfl⟩ rfl hl.1 rfl (Nat.zero_le _) (by decide) dX12_readTest_117) hS534 (fun H559 locs559 hr559 hC559 hS559 => ?_)
                obtain ⟨hp559, hr559⟩ := hr559
                have hKp559 := hKp478.tr (hp559.mono rfl)
                replace kb : KB H0 H559 ca (a1 + 1) := KB.kp kb hp559 gca rfl
                obtain ⟨f559_0, f559_1, f559_2, f559_3, f559_4⟩ := hr559
                refine lv_aload_n hx hb dX12_readTest_120 rfl (lv_at hl 1 rfl) ?_
                refine q_getC E hC559 g0 fa_RX12_35 uc dX12_readTest_121 ?_
                refine lv_iload_n hx hb dX12_readTest_124 rfl (lv_at hl 2 rfl) ?_
                refine lv_iconst (v := 2) hx hb dX12_readTest_125 rfl ?_
                refine lv_iadd hx hb dX12_readTest_126 (lv_topi (fun v560 ev560 => ?_))
                have ev560i : v560.toInt = (a1 + 2) := i_add ev560 e1 (by decide) (by omega) (by omega)
                refine lv_aload_n hx hb dX12_readTest_127 rfl (lv_at hl 1 rfl) ?_
                refine lv_iconst (v := 0) hx hb dX12_readTest_128 rfl ?_
                refine lv_iload_n hx hb dX12_readTest_129 rfl (lv_at hl 0 rfl) ?_
                refine lv_iconst (v := 1) hx hb dX12_readTest_130 rfl ?_
                refine q_icmp_ne hx hb (a := v21.toInt) (b := 1) rfl (by decide) (tgt := 139) dX12_readTest_131 rfl (fun c561 => absurd c561 (by omega)) (fun c561 => ?_)
                refine lv_bipush (v := 99) hx hb dX12_readTest_134 rfl ?_
                refine lv_goto (tgt := 142) hx hb dX12_readTest_136 rfl ?_
                refine q_goI (q_runV (As := [.int 0, .int 99]) (rest := [.int v560, .ref ca]) E hC559 hS559 (m_X12_count l X Γ H559 hC559 h0 g0 0 (a1 := 0) (by decide) 99 (a2 := 99) (by decide) ca gca uc (by omega) (by omega) (by omega) (by omega)) cw_X12_count cl_RX12_248 g0 ⟨rfl, rfl⟩ rfl hl.1 rfl (show _ ≤ _ from by simp [Value.category]) (by decide) dX12_readTest_142) hS559 (fun v562 H562 locs562 hr562 hC562 hS562 => ?_)
                obtain ⟨hp562, hr562⟩ := hr562
                have hKp562 := hKp559.tr (hp562.mono rfl)
                replace kb : KB H0 H562 ca (a1 + 1) := KB.kp kb hp562 gca rfl
                obtain ⟨f562_0, f562_1, f562_2, f562_3, f562_4, f562_5, f562_6, f562_7⟩ := hr562
                refine q_cast E hC562 hS562 gca (a := (a1 + 2)) ev560i (by omega) (by omega) (cs_n244 (a := (a1 + 2)) (by omega) (by omega)) dX12_readTest_145 (fun H563 locs563 hC563 hS563 U563 => ?_)
                have hKp563 := Kp.upD gca rfl rfl (fun _ => ⟨fun _ => nd4 (by omega) (by omega), fun _ => by unfold dpu; omega, fun _ => by unfold dpn; omega⟩) U563 hKp562
                replace kb : KB H0 H563 ca (a1 + 1) := KB.up kb U563 (by omega)
                have m564 : (sI H563 h0 (X.1.2 11 12)).toInt = (sI H562 h0 (X.1.2 11 12)).toInt := congrArg Int32.toInt (up_nI U563 (ne_k g0 gca (by decide)))
                have m565 : (sI H563 h0 (X.1.2 11 14)).toInt = (sI H562 h0 (X.1.2 11 14)).toInt := congrArg Int32.toInt (up_nI U563 (ne_k g0 gca (by decide)))
                have m566 := congrArg tk m565
                have m567 : (sI H563 h0 (X.1.2 11 16)).toInt = (sI H562 h0 (X.1.2 11 16)).toInt := congrArg Int32.toInt (up_nI U563 (ne_k g0 gca (by decide)))
                have e568 := up_I U563
                have e569 := (up_nI (a' := ca) (j' := ((a1 + 1) : Int).toNat) U478 (fun h => by have h2 := h.2; omega)).trans e465
                have e570 := (kp_c (j := ((a1 + 1) : Int).toNat) hp559 gca rfl).trans e569
                have e571 := (kp_c (j := ((a1 + 1) : Int).toNat) hp562 gca rfl).trans e570
                have e572 := (up_nI (a' := ca) (j' := ((a1 + 1) : Int).toNat) U563 (fun h => by have h2 := h.2; omega)).trans e571
                have m573 : (sI H563 ca ((a1 + 1)).toNat).toInt = v459.toInt := (congrArg Int32.toInt e572).trans rfl
                have e574 := (kp_c (j := ((a1 + 6) : Int).toNat) hp459 gca rfl).trans e199
                have e575 := (up_nI (a' := ca) (j' := ((a1 + 6) : Int).toNat) U460 (fun h => by have h2 := h.2; omega)).trans e574
                have e576 := (up_nI (a' := ca) (j' := ((a1 + 6) : Int).toNat) U478 (fun h => by have h2 := h.2; omega)).trans e575
                have e577 := (kp_c (j := ((a1 + 6) : Int).toNat) hp559 gca rfl).trans e576
                have e578 := (kp_c (j := ((a1 + 6) : Int).toNat) hp562 gca rfl).trans e577
                have e579 := (up_nI (a' := ca) (j' := ((a1 + 6) : Int).toNat) U563 (fun h => by have h2 := h.2; omega)).trans e578
                have m580 : (sI H563 ca ((a1 + 6)).toNat).toInt = v21.toInt := (congrArg Int32.toInt e579).trans rfl
                have hz8 := tk_nn (sI H563 h0 (X.1.2 11 14)).toInt
                exact ret H563 locs563 _ _ dX12_readTest_146 ⟨hKp563, ⟨by omega, by omega, by omega, by omega, kb, by omega⟩⟩ hC563 hS563
        · refine lv_aload_n hx hb dX12_readTest_75 rfl (lv_at hl 1 rfl) ?_
          refine q_getI E hC460 g0 fa_RX12_139 dX12_readTest_76 (fun v581 ev581 _ _ => ?_)
          refine lv_goto (tgt := 83) hx hb dX12_readTest_79 rfl ?_
          refine q_cast E hC460 hS460 gca (a := (a1 + 7)) ev474i (by omega) (by omega) (cs_n244 (a := (a1 + 7)) (by omega) (by omega)) dX12_readTest_83 (fun H582 locs582 hC582 hS582 U582 => ?_)
          have hKp582 := Kp.upD gca rfl rfl (fun _ => ⟨fun _ => nd4 (by omega) (by omega), fun _ => by unfold dpu; omega, fun _ => by unfold dpn; omega⟩) U582 hKp460
          replace kb : KB H0 H582 ca (a1 + 1) := KB.up kb U582 (by omega)
          have m583 : (sI H582 h0 (X.1.2 11 12)).toInt = (sI H460 h0 (X.1.2 11 12)).toInt := congrArg Int32.toInt (up_nI U582 (ne_k g0 gca (by decide)))
          have m584 : (sI H582 h0 (X.1.2 11 14)).toInt = (sI H460 h0 (X.1.2 11 14)).toInt := congrArg Int32.toInt (up_nI U582 (ne_k g0 gca (by decide)))
          have m585 := congrArg tk m584
          have m586 : (sI H582 h0 (X.1.2 11 16)).toInt = (sI H460 h0 (X.1.2 11 16)).toInt := congrArg Int32.toInt (up_nI U582 (ne_k g0 gca (by decide)))
          have e587 := up_I U582
          refine lv_aload_n hx hb dX12_readTest_84 rfl (lv_at hl 1 rfl) ?_
          refine lv_aload_n hx hb dX12_readTest_85 rfl (lv_at hl 1 rfl) ?_
          refine lv_bipush (v := 60) hx hb dX12_readTest_86 rfl ?_
          refine q_goIp (q_runV (As := [.int 60]) (rest := [.ref h0]) E hC582 hS582 (m_X12_isSign l X Γ H582 hC582 h0 g0 60 (a1 := 60) (by decide) ca gca uc) cw_X12_isSign cl_RX12_255 g0 ⟨rfl, rfl⟩ rfl hl.1 rfl (show _ ≤ _ from by simp [Value.category]) (by decide) dX12_readTest_88) hS582 (fun v588 locs588 hr588 hS588 => ?_)
          rcases hr588 with ⟨rfl, f588a⟩ | ⟨rfl, -⟩
          · refine q_if_ne hx hb (a := 1) (by decide) (tgt := 112) dX12_readTest_91 rfl (fun c589 => ?_) (fun c589 => absurd c589 (by omega))
            refine lv_iconst (v := 1) hx hb dX12_readTest_112 rfl ?_
            refine lv_goto (tgt := 117) hx hb dX12_readTest_113 rfl ?_
            refine q_goV (q_runV (As := [.int 1]) (rest := []) E hC582 hS588 (m_X12_must l X Γ H582 hC582 h0 g0 1 (a1 := 1) (by decide) ca gca uc (by omega) (by omega)) cw_X12_must cl_RX12_244 g0 ⟨rfl, rfl⟩ rfl hl.1 rfl (Nat.zero_le _) (by decide) dX12_readTest_117) hS588 (fun H590 locs590 hr590 hC590 hS590 => ?_)
            obtain ⟨hp590, hr590⟩ := hr590
            have hKp590 := hKp582.tr (hp590.mono rfl)
            replace kb : KB H0 H590 ca (a1 + 1) := KB.kp kb hp590 gca rfl
            obtain ⟨f590_0, f590_1, f590_2, f590_3, f590_4⟩ := hr590
            refine lv_aload_n hx hb dX12_readTest_120 rfl (lv_at hl 1 rfl) ?_
            refine q_getC E hC590 g0 fa_RX12_35 uc dX12_readTest_121 ?_
            refine lv_iload_n hx hb dX12_readTest_124 rfl (lv_at hl 2 rfl) ?_
            refine lv_iconst (v := 2) hx hb dX12_readTest_125 rfl ?_
            refine lv_iadd hx hb dX12_readTest_126 (lv_topi (fun v591 ev591 => ?_))
            have ev591i : v591.toInt = (a1 + 2) := i_add ev591 e1 (by decide) (by omega) (by omega)
            refine lv_aload_n hx hb dX12_readTest_127 rfl (lv_at hl 1 rfl) ?_
            refine lv_iconst (v := 0) hx hb dX12_readTest_128 rfl ?_
            refine lv_iload_n hx hb dX12_readTest_129 rfl (lv_at hl 0 rfl) ?_
            refine lv_iconst (v := 1) hx hb dX12_readTest_130 rfl ?_
            refine q_icmp_ne hx hb (a := v21.toInt) (b := 1) rfl (by decide) (tgt := 139) dX12_readTest_131 rfl (fun c592 => absurd c592 (by omega)) (fun c592 => ?_)
            refine lv_bipush (v := 99) hx hb dX12_readTest_134 rfl ?_
            refine lv_goto (tgt := 142) hx hb dX12_readTest_136 rfl ?_
            refine q_goI (q_runV (As := [.int 0, .int 99]) (rest := [.int v591, .ref ca]) E hC590 hS590 (m_X12_count l X Γ H590 hC590 h0 g0 0 (a1 := 0) (by decide) 99 (a2 := 99) (by decide) ca gca uc (by omega) (by omega) (by omega) (by omega)) cw_X12_count cl_RX12_248 g0 ⟨rfl, rfl⟩ rfl hl.1 rfl (show _ ≤ _ from by simp [Value.category]) (by decide) dX12_readTest_142) hS590 (fun v593 H593 locs593 hr593 hC593 hS593 => ?_)
            obtain ⟨hp593, hr593⟩ := hr593
            have hKp593 := hKp590.tr (hp593.mono rfl)
            replace kb : KB H0 H593 ca (a1 + 1) := KB.kp kb hp593 gca rfl
            obtain ⟨f593_0, f593_1, f593_2, f593_3, f593_4, f593_5, f593_6, f593_7⟩ := hr593
            refine q_cast E hC593 hS593 gca (a := (a1 + 2)) ev591i (by omega) (by omega) (cs_n244 (a := (a1 + 2)) (by omega) (by omega)) dX12_readTest_145 (fun H594 locs594 hC594 hS594 U594 => ?_)
            have hKp594 := Kp.upD gca rfl rfl (fun _ => ⟨fun _ => nd4 (by omega) (by omega), fun _ => by unfold dpu; omega, fun _ => by unfold dpn; omega⟩) U594 hKp593
            replace kb : KB H0 H594 ca (a1 + 1) := KB.up kb U594 (by omega)
            have m595 : (sI H594 h0 (X.1.2 11 12)).toInt = (sI H593 h0 (X.1.2 11 12)).toInt := congrArg Int32.toInt (up_nI U594 (ne_k g0 gca (by decide)))
            have m596 : (sI H594 h0 (X.1.2 11 14)).toInt = (sI H593 h0 (X.1.2 11 14)).toInt := congrArg Int32.toInt (up_nI U594 (ne_k g0 gca (by decide)))
            have m597 := congrArg tk m596
            have m598 : (sI H594 h0 (X.1.2 11 16)).toInt = (sI H593 h0 (X.1.2 11 16)).toInt := congrArg Int32.toInt (up_nI U594 (ne_k g0 gca (by decide)))
            have e599 := up_I U594
            have e600 := (up_nI (a' := ca) (j' := ((a1 + 1) : Int).toNat) U582 (fun h => by have h2 := h.2; omega)).trans e465
            have e601 := (kp_c (j := ((a1 + 1) : Int).toNat) hp590 gca rfl).trans e600
            have e602 := (kp_c (j := ((a1 + 1) : Int).toNat) hp593 gca rfl).trans e601
            have e603 := (up_nI (a' := ca) (j' := ((a1 + 1) : Int).toNat) U594 (fun h => by have h2 := h.2; omega)).trans e602
            have m604 : (sI H594 ca ((a1 + 1)).toNat).toInt = v459.toInt := (congrArg Int32.toInt e603).trans rfl
            have e605 := (kp_c (j := ((a1 + 6) : Int).toNat) hp459 gca rfl).trans e199
            have e606 := (up_nI (a' := ca) (j' := ((a1 + 6) : Int).toNat) U460 (fun h => by have h2 := h.2; omega)).trans e605
            have e607 := (up_nI (a' := ca) (j' := ((a1 + 6) : Int).toNat) U582 (fun h => by have h2 := h.2; omega)).trans e606
            have e608 := (kp_c (j := ((a1 + 6) : Int).toNat) hp590 gca rfl).trans e607
            have e609 := (kp_c (j := ((a1 + 6) : Int).toNat) hp593 gca rfl).trans e608
            have e610 := (up_nI (a' := ca) (j' := ((a1 + 6) : Int).toNat) U594 (fun h => by have h2 := h.2; omega)).trans e609
            have m611 : (sI H594 ca ((a1 + 6)).toNat).toInt = v21.toInt := (congrArg Int32.toInt e610).trans rfl
            have hz8 := tk_nn (sI H594 h0 (X.1.2 11 14)).toInt
            exact ret H594 locs594 _ _ dX12_readTest_146 ⟨hKp594, ⟨by omega, by omega, by omega, by omega, kb, by omega⟩⟩ hC594 hS594
          · refine q_if_ne hx hb (a := 0) (by decide) (tgt := 112) dX12_readTest_91 rfl (fun c612 => absurd c612 (by omega)) (fun c612 => ?_)
            refine lv_aload_n hx hb dX12_readTest_94 rfl (lv_at hl 1 rfl) ?_
            refine lv_bipush (v := 62) hx hb dX12_readTest_95 rfl ?_
            refine q_goIp (q_runV (As := [.int 62]) (rest := [.ref h0]) E hC582 hS588 (m_X12_isSign l X Γ H582 hC582 h0 g0 62 (a1 := 62) (by decide) ca gca uc) cw_X12_isSign cl_RX12_255 g0 ⟨rfl, rfl⟩ rfl hl.1 rfl (show _ ≤ _ from by simp [Value.category]) (by decide) dX12_readTest_97) hS588 (fun v613 locs613 hr613 hS613 => ?_)
            rcases hr613 with ⟨rfl, f613a⟩ | ⟨rfl, -⟩
            · refine q_if_ne hx hb (a := 1) (by decide) (tgt := 112) dX12_readTest_100 rfl (fun c614 => ?_) (fun c614 => absurd c614 (by omega))
              refine lv_iconst (v := 1) hx hb dX12_readTest_112 rfl ?_
              refine lv_goto (tgt := 117) hx hb dX12_readTest_113 rfl ?_
              refine q_goV (q_runV (As := [.int 1]) (rest := []) E hC582 hS613 (m_X12_must l X Γ H582 hC582 h0 g0 1 (a1 := 1) (by decide) ca gca uc (by omega) (by omega)) cw_X12_must cl_RX12_244 g0 ⟨rfl, rfl⟩ rfl hl.1 rfl (Nat.zero_le _) (by decide) dX12_readTest_117) hS613 (fun H615 locs615 hr615 hC615 hS615 => ?_)
              obtain ⟨hp615, hr615⟩ := hr615
              have hKp615 := hKp582.tr (hp615.mono rfl)
              replace kb : KB H0 H615 ca (a1 + 1) := KB.kp kb hp615 gca rfl
              obtain ⟨f615_0, f615_1, f615_2, f615_3, f615_4⟩ := hr615
              refine lv_aload_n hx hb dX12_readTest_120 rfl (lv_at hl 1 rfl) ?_
              refine q_getC E hC615 g0 fa_RX12_35 uc dX12_readTest_121 ?_
              refine lv_iload_n hx hb dX12_readTest_124 rfl (lv_at hl 2 rfl) ?_
              refine lv_iconst (v := 2) hx hb dX12_readTest_125 rfl ?_
              refine lv_iadd hx hb dX12_readTest_126 (lv_topi (fun v616 ev616 => ?_))
              have ev616i : v616.toInt = (a1 + 2) := i_add ev616 e1 (by decide) (by omega) (by omega)
              refine lv_aload_n hx hb dX12_readTest_127 rfl (lv_at hl 1 rfl) ?_
              refine lv_iconst (v := 0) hx hb dX12_readTest_128 rfl ?_
              refine lv_iload_n hx hb dX12_readTest_129 rfl (lv_at hl 0 rfl) ?_
              refine lv_iconst (v := 1) hx hb dX12_readTest_130 rfl ?_
              refine q_icmp_ne hx hb (a := v21.toInt) (b := 1) rfl (by decide) (tgt := 139) dX12_readTest_131 rfl (fun c617 => absurd c617 (by omega)) (fun c617 => ?_)
              refine lv_bipush (v := 99) hx hb dX12_readTest_134 rfl ?_
              refine lv_goto (tgt := 142) hx hb dX12_readTest_136 rfl ?_
              refine q_goI (q_runV (As := [.int 0, .int 99]) (rest := [.int v616, .ref ca]) E hC615 hS615 (m_X12_count l X Γ H615 hC615 h0 g0 0 (a1 := 0) (by decide) 99 (a2 := 99) (by decide) ca gca uc (by omega) (by omega) (by omega) (by omega)) cw_X12_count cl_RX12_248 g0 ⟨rfl, rfl⟩ rfl hl.1 rfl (show _ ≤ _ from by simp [Value.category]) (by decide) dX12_readTest_142) hS615 (fun v618 H618 locs618 hr618 hC618 hS618 => ?_)
              obtain ⟨hp618, hr618⟩ := hr618
              have hKp618 := hKp615.tr (hp618.mono rfl)
              replace kb : KB H0 H618 ca (a1 + 1) := KB.kp kb hp618 gca rfl
              obtain ⟨f618_0, f618_1, f618_2, f618_3, f618_4, f618_5, f618_6, f618_7⟩ := hr618
              refine q_cast E hC618 hS618 gca (a := (a1 + 2)) ev616i (by omega) (by omega) (cs_n244 (a := (a1 + 2)) (by omega) (by omega)) dX12_readTest_145 (fun H619 locs619 hC619 hS619 U619 => ?_)
              have hKp619 := Kp.upD gca rfl rfl (fun _ => ⟨fun _ => nd4 (by omega) (by omega), fun _ => by unfold dpu; omega, fun _ => by unfold dpn; omega⟩) U619 hKp618
              replace kb : KB H0 H619 ca (a1 + 1) := KB.up kb U619 (by omega)
              have m620 : (sI H619 h0 (X.1.2 11 12)).toInt = (sI H618 h0 (X.1.2 11 12)).toInt := congrArg Int32.toInt (up_nI U619 (ne_k g0 gca (by decide)))
              have m621 : (sI H619 h0 (X.1.2 11 14)).toInt = (sI H618 h0 (X.1.2 11 14)).toInt := congrArg Int32.toInt (up_nI U619 (ne_k g0 gca (by decide)))
              have m622 := congrArg tk m621
              have m623 : (sI H619 h0 (X.1.2 11 16)).toInt = (sI H618 h0 (X.1.2 11 16)).toInt := congrArg Int32.toInt (up_nI U619 (ne_k g0 gca (by decide)))
              have e624 := up_I U619
              have e625 := (up_nI (a' := ca) (j' := ((a1 + 1) : Int).toNat) U582 (fun h => by have h2 := h.2; omega)).trans e465
              have e626 := (kp_c (j := ((a1 + 1) : Int).toNat) hp615 gca rfl).trans e625
              have e627 := (kp_c (j := ((a1 + 1) : Int).toNat) hp618 gca rfl).trans e626
              have e628 := (up_nI (a' := ca) (j' := ((a1 + 1) : Int).toNat) U619 (fun h => by have h2 := h.2; omega)).trans e627
              have m629 : (sI H619 ca ((a1 + 1)).toNat).toInt = v459.toInt := (congrArg Int32.toInt e628).trans rfl
              have e630 := (kp_c (j := ((a1 + 6) : Int).toNat) hp459 gca rfl).trans e199
              have e631 := (up_nI (a' := ca) (j' := ((a1 + 6) : Int).toNat) U460 (fun h => by have h2 := h.2; omega)).trans e630
              have e632 := (up_nI (a' := ca) (j' := ((a1 + 6) : Int).toNat) U582 (fun h => by have h2 := h.2; omega)).trans e631
              have e633 := (kp_c (j := ((a1 + 6) : Int).toNat) hp615 gca rfl).trans e632
              have e634 := (kp_c (j := ((a1 + 6) : Int).toNat) hp618 gca rfl).trans e633
              have e635 := (up_nI (a' := ca) (j' := ((a1 + 6) : Int).toNat) U619 (fun h => by have h2 := h.2; omega)).trans e634
              have m636 : (sI H619 ca ((a1 + 6)).toNat).toInt = v21.toInt := (congrArg Int32.toInt e635).trans rfl
              have hz8 := tk_nn (sI H619 h0 (X.1.2 11 14)).toInt
              exact ret H619 locs619 _ _ dX12_readTest_146 ⟨hKp619, ⟨by omega, by omega, by omega, by omega, kb, by omega⟩⟩ hC619 hS619
            · refine q_if_ne hx hb (a := 0) (by decide) (tgt := 112) dX12_readTest_100 rfl (fun c637 => absurd c637 (by omega)) (fun c637 => ?_)
              refine lv_aload_n hx hb dX12_readTest_103 rfl (lv_at hl 1 rfl) ?_
              refine lv_bipush (v := 61) hx hb dX12_readTest_104 rfl ?_
              refine q_goIp (q_runV (As := [.int 61]) (rest := [.ref h0]) E hC582 hS613 (m_X12_isSign l X Γ H582 hC582 h0 g0 61 (a1 := 61) (by decide) ca gca uc) cw_X12_isSign cl_RX12_255 g0 ⟨rfl, rfl⟩ rfl hl.1 rfl (show _ ≤ _ from by simp [Value.category]) (by decide) dX12_readTest_106) hS613 (fun v638 locs638 hr638 hS638 => ?_)
              rcases hr638 with ⟨rfl, f638a⟩ | ⟨rfl, -⟩
              · refine q_if_eq hx hb (a := 1) (by decide) (tgt := 116) dX12_readTest_109 rfl (fun c639 => absurd c639 (by omega)) (fun c639 => ?_)
                refine lv_iconst (v := 1) hx hb dX12_readTest_112 rfl ?_
                refine lv_goto (tgt := 117) hx hb dX12_readTest_113 rfl ?_
                refine q_goV (q_runV (As := [.int 1]) (rest := []) E hC582 hS638 (m_X12_must l X Γ H582 hC582 h0 g0 1 (a1 := 1) (by decide) ca gca uc (by omega) (by omega)) cw_X12_must cl_RX12_244 g0 ⟨rfl, rfl⟩ rfl hl.1 rfl (Nat.zero_le _) (by decide) dX12_readTest_117) hS638 (fun H640 locs640 hr640 hC640 hS640 => ?_)
                obtain ⟨hp640, hr640⟩ := hr640
                have hKp640 := hKp582.tr (hp640.mono rfl)
                replace kb : KB H0 H640 ca (a1 + 1) := KB.kp kb hp640 gca rfl
                obtain ⟨f640_0, f640_1, f640_2, f640_3, f640_4⟩ := hr640
                refine lv_aload_n hx hb dX12_readTest_120 rfl (lv_at hl 1 rfl) ?_
                refine q_getC E hC640 g0 fa_RX12_35 uc dX12_readTest_121 ?_
                refine lv_iload_n hx hb dX12_readTest_124 rfl (lv_at hl 2 rfl) ?_
                refine lv_iconst (v := 2) hx hb dX12_readTest_125 rfl ?_
                refine lv_iadd hx hb dX12_readTest_126 (lv_topi (fun v641 ev641 => ?_))
                have ev641i : v641.toInt = (a1 + 2) := i_add ev641 e1 (by decide) (by omega) (by omega)
                refine lv_aload_n hx hb dX12_readTest_127 rfl (lv_at hl 1 rfl) ?_
                refine lv_iconst (v := 0) hx hb dX12_readTest_128 rfl ?_
                refine lv_iload_n hx hb dX12_readTest_129 rfl (lv_at hl 0 rfl) ?_
                refine lv_iconst (v := 1) hx hb dX12_readTest_130 rfl ?_
                refine q_icmp_ne hx hb (a := v21.toInt) (b := 1) rfl (by decide) (tgt := 139) dX12_readTest_131 rfl (fun c642 => absurd c642 (by omega)) (fun c642 => ?_)
                refine lv_bipush (v := 99) hx hb dX12_readTest_134 rfl ?_
                refine lv_goto (tgt := 142) hx hb dX12_readTest_136 rfl ?_
                refine q_goI (q_runV (As := [.int 0, .int 99]) (rest := [.int v641, .ref ca]) E hC640 hS640 (m_X12_count l X Γ H640 hC640 h0 g0 0 (a1 := 0) (by decide) 99 (a2 := 99) (by decide) ca gca uc (by omega) (by omega) (by omega) (by omega)) cw_X12_count cl_RX12_248 g0 ⟨rfl, rfl⟩ rfl hl.1 rfl (show _ ≤ _ from by simp [Value.category]) (by decide) dX12_readTest_142) hS640 (fun v643 H643 locs643 hr643 hC643 hS643 => ?_)
                obtain ⟨hp643, hr643⟩ := hr643
                have hKp643 := hKp640.tr (hp643.mono rfl)
                replace kb : KB H0 H643 ca (a1 + 1) := KB.kp kb hp643 gca rfl
                obtain ⟨f643_0, f643_1, f643_2, f643_3, f643_4, f643_5, f643_6, f643_7⟩ := hr643
                refine q_cast E hC643 hS643 gca (a := (a1 + 2)) ev641i (by omega) (by omega) (cs_n244 (a := (a1 + 2)) (by omega) (by omega)) dX12_readTest_145 (fun H644 locs644 hC644 hS644 U644 => ?_)
                have hKp644 := Kp.upD gca rfl rfl (fun _ => ⟨fun _ => nd4 (by omega) (by omega), fun _ => by unfold dpu; omega, fun _ => by unfold dpn; omega⟩) U644 hKp643
                replace kb : KB H0 H644 ca (a1 + 1) := KB.up kb U644 (by omega)
                have m645 : (sI H644 h0 (X.1.2 11 12)).toInt = (sI H643 h0 (X.1.2 11 12)).toInt := congrArg Int32.toInt (up_nI U644 (ne_k g0 gca (by decide)))
                have m646 : (sI H644 h0 (X.1.2 11 14)).toInt = (sI H643 h0 (X.1.2 11 14)).toInt := congrArg Int32.toInt (up_nI U644 (ne_k g0 gca (by decide)))
                have m647 := congrArg tk m646
                have m648 : (sI H644 h0 (X.1.2 11 16)).toInt = (sI H643 h0 (X.1.2 11 16)).toInt := congrArg Int32.toInt (up_nI U644 (ne_k g0 gca (by decide)))
                have e649 := up_I U644
                have e650 := (up_nI (a' := ca) (j' := ((a1 + 1) : Int).toNat) U582 (fun h => by have h2 := h.2; omega)).trans e465
                have e651 := (kp_c (j := ((a1 + 1) : Int).toNat) hp640 gca rfl).trans e650
                have e652 := (kp_c (j := ((a1 + 1) : Int).toNat) hp643 gca rfl).trans e651
                have e653 := (up_nI (a' := ca) (j' := ((a1 + 1) : Int).toNat) U644 (fun h => by have h2 := h.2; omega)).trans e652
                have m654 : (sI H644 ca ((a1 + 1)).toNat).toInt = v459.toInt := (congrArg Int32.toInt e653).trans rfl
                have e655 := (kp_c (j := ((a1 + 6) : Int).toNat) hp459 gca rfl).trans e199
                have e656 := (up_nI (a' := ca) (j' := ((a1 + 6) : Int).toNat) U460 (fun h => by have h2 := h.2; omega)).trans e655
                have e657 := (up_nI (a' := ca) (j' := ((a1 + 6) : Int).toNat) U582 (fun h => by have h2 := h.2; omega)).trans e656
                have e658 := (kp_c (j := ((a1 + 6) : Int).toNat) hp640 gca rfl).trans e657
                have e659 := (kp_c (j := ((a1 + 6) : Int).toNat) hp643 gca rfl).trans e658
                have e660 := (up_nI (a' := ca) (j' := ((a1 + 6) : Int).toNat) U644 (fun h => by have h2 := h.2; omega)).trans e659
                have m661 : (sI H644 ca ((a1 + 6)).toNat).toInt = v21.toInt := (congrArg Int32.toInt e660).trans rfl
                have hz8 := tk_nn (sI H644 h0 (X.1.2 11 14)).toInt
                exact ret H644 locs644 _ _ dX12_readTest_146 ⟨hKp644, ⟨by omega, by omega, by omega, by omega, kb, by omega⟩⟩ hC644 hS644
              · refine q_if_eq hx hb (a := 0) (by decide) (tgt := 116) dX12_readTest_109 rfl (fun c662 => ?_) (fun c662 => absurd c662 (by omega))
                refine lv_iconst (v := 0) hx hb dX12_readTest_116 rfl ?_
                refine q_goV (q_runV (As := [.int 0]) (rest := []) E hC582 hS638 (m_X12_must l X Γ H582 hC582 h0 g0 0 (a1 := 0) (by decide) ca gca uc (by omega) (by omega)) cw_X12_must cl_RX12_244 g0 ⟨rfl, rfl⟩ rfl hl.1 rfl (Nat.zero_le _) (by decide) dX12_readTest_117) hS638 (fun H663 locs663 hr663 hC663 hS663 => ?_)
                obtain ⟨hp663, hr663⟩ := hr663
                have hKp663 := hKp582.tr (hp663.mono rfl)
                replace kb : KB H0 H663 ca (a1 + 1) := KB.kp kb hp663 gca rfl
                obtain ⟨f663_0, f663_1, f663_2, f663_3, f663_4⟩ := hr663
                refine lv_aload_n hx hb dX12_readTest_120 rfl (lv_at hl 1 rfl) ?_
                refine q_getC E hC663 g0 fa_RX12_35 uc dX12_readTest_121 ?_
                refine lv_iload_n hx hb dX12_readTest_124 rfl (lv_at hl 2 rfl) ?_
                refine lv_iconst (v := 2) hx hb dX12_readTest_125 rfl ?_
                refine lv_iadd hx hb dX12_readTest_126 (lv_topi (fun v664 ev664 => ?_))
                have ev664i : v664.toInt = (a1 + 2) := i_add ev664 e1 (by decide) (by omega) (by omega)
                refine lv_aload_n hx hb dX12_readTest_127 rfl (lv_at hl 1 rfl) ?_
                refine lv_iconst (v := 0) hx hb dX12_readTest_128 rfl ?_
                refine lv_iload_n hx hb dX12_readTest_129 rfl (lv_at hl 0 rfl) ?_
                refine lv_iconst (v := 1) hx hb dX12_readTest_130 rfl ?_
                refine q_icmp_ne hx hb (a := v21.toInt) (b := 1) rfl (by decide) (tgt := 139) dX12_readTest_131 rfl (fun c665 => absurd c665 (by omega)) (fun c665 => ?_)
                refine lv_bipush (v := 99) hx hb dX12_readTest_134 rfl ?_
                refine lv_goto (tgt := 142) hx hb dX12_readTest_136 rfl ?_
                refine q_goI (q_runV (As := [.int 0, .int 99]) (rest := [.int v664, .ref ca]) E hC663 hS663 (m_X12_count l X Γ H663 hC663 h0 g0 0 (a1 := 0) (by decide) 99 (a2 := 99) (by decide) ca gca uc (by omega) (by omega) (by omega) (by omega)) cw_X12_count cl_RX12_248 g0 ⟨rfl, rfl⟩ rfl hl.1 rfl (show _ ≤ _ from by simp [Value.category]) (by decide) dX12_readTest_142) hS663 (fun v666 H666 locs666 hr666 hC666 hS666 => ?_)
                obtain ⟨hp666, hr666⟩ := hr666
                have hKp666 := hKp663.tr (hp666.mono rfl)
                replace kb : KB H0 H666 ca (a1 + 1) := KB.kp kb hp666 gca rfl
                obtain ⟨f666_0, f666_1, f666_2, f666_3, f666_4, f666_5, f666_6, f666_7⟩ := hr666
                refine q_cast E hC666 hS666 gca (a := (a1 + 2)) ev664i (by omega) (by omega) (cs_n244 (a := (a1 + 2)) (by omega) (by omega)) dX12_readTest_145 (fun H667 locs667 hC667 hS667 U667 => ?_)
                have hKp667 := Kp.upD gca rfl rfl (fun _ => ⟨fun _ => nd4 (by omega) (by omega), fun _ => by unfold dpu; omega, fun _ => by unfold dpn; omega⟩) U667 hKp666
                replace kb : KB H0 H667 ca (a1 + 1) := KB.up kb U667 (by omega)
                have m668 : (sI H667 h0 (X.1.2 11 12)).toInt = (sI H666 h0 (X.1.2 11 12)).toInt := congrArg Int32.toInt (up_nI U667 (ne_k g0 gca (by decide)))
                have m669 : (sI H667 h0 (X.1.2 11 14)).toInt = (sI H666 h0 (X.1.2 11 14)).toInt := congrArg Int32.toInt (up_nI U667 (ne_k g0 gca (by decide)))
                have m670 := congrArg tk m669
                have m671 : (sI H667 h0 (X.1.2 11 16)).toInt = (sI H666 h0 (X.1.2 11 16)).toInt := congrArg Int32.toInt (up_nI U667 (ne_k g0 gca (by decide)))
                have e672 := up_I U667
                have e673 := (up_nI (a' := ca) (j' := ((a1 + 1) : Int).toNat) U582 (fun h => by have h2 := h.2; omega)).trans e465
                have e674 := (kp_c (j := ((a1 + 1) : Int).toNat) hp663 gca rfl).trans e673
                have e675 := (kp_c (j := ((a1 + 1) : Int).toNat) hp666 gca rfl).trans e674
                have e676 := (up_nI (a' := ca) (j' := ((a1 + 1) : Int).toNat) U667 (fun h => by have h2 := h.2; omega)).trans e675
                have m677 : (sI H667 ca ((a1 + 1)).toNat).toInt = v459.toInt := (congrArg Int32.toInt e676).trans rfl
                have e678 := (kp_c (j := ((a1 + 6) : Int).toNat) hp459 gca rfl).trans e199
                have e679 := (up_nI (a' := ca) (j' := ((a1 + 6) : Int).toNat) U460 (fun h => by have h2 := h.2; omega)).trans e678
                have e680 := (up_nI (a' := ca) (j' := ((a1 + 6) : Int).toNat) U582 (fun h => by have h2 := h.2; omega)).trans e679
                have e681 := (kp_c (j := ((a1 + 6) : Int).toNat) hp663 gca rfl).trans e680
                have e682 := (kp_c (j := ((a1 + 6) : Int).toNat) hp666 gca rfl).trans e681
                have e683 := (up_nI (a' := ca) (j' := ((a1 + 6) : Int).toNat) U667 (fun h => by have h2 := h.2; omega)).trans e682
                have m684 : (sI H667 ca ((a1 + 6)).toNat).toInt = v21.toInt := (congrArg Int32.toInt e683).trans rfl
                have hz8 := tk_nn (sI H667 h0 (X.1.2 11 14)).toInt
                exact ret H667 locs667 _ _ dX12_readTest_146 ⟨hKp667, ⟨by omega, by omega, by omega, by omega, kb, by omega⟩⟩ hC667 hS667
