set_option maxRecDepth 100000 in
set_option maxHeartbeats 4000000 in
theorem m_X12_halfOf (l : Launch) (X : xW) (Γ : Nat → Option Nat) (H0 : Heap) (hC0 : Conf X Γ H0) (h0 : Nat) (g0 : Γ h0 = some 11) (p1 : Int32) {a1 : Int} (e1 : p1.toInt = a1) (ca : Nat) (gca : Γ ca = some 64) (uc : ∀ a, Γ a = some 64 → a = ca) : Ctr l X Γ yX12_halfOf cX12_halfOf 2 (some .int) 0 [.ref h0, .int p1] H0 (QI X Γ (fun v H1 => H1 = H0 ∧ ((0 ≤ v.toInt) ∧ (v.toInt ≤ 1)))) := by
  refine q_enterI (own := "SnowFortsModel") (by decide) rfl (Nat.le_of_ble_eq_true rfl) ?_
  intro p e s m args below meth c ls Qz E hl ret hS0
  have hx := E.1; have hb := E.2.1
  have hl : lv_has ls 2 [(0, .ref h0), (1, .int p1)] := hl
  refine lv_iconst (v := 2) hx hb dX12_halfOf_0 rfl ?_
  refine lv_iload_n hx hb dX12_halfOf_1 rfl (lv_at hl 1 rfl) ?_
  refine lv_imul hx hb dX12_halfOf_2 (lv_topi (fun v21 ev21 => ?_))
  refine lv_aload_n hx hb dX12_halfOf_3 rfl (lv_at hl 0 rfl) ?_
  refine q_getC E hC0 g0 fa_RX12_35 uc dX12_halfOf_4 ?_
  refine lv_iconst (v := 0) hx hb dX12_halfOf_7 rfl ?_
  refine q_cald E hC0 (lo := 0) (hi := 6) gca (a := 0) (show (0 : Int32).toInt = 0 from by decide) (by omega) (by omega) (cr_c0 (by omega) (by omega)) dX12_halfOf_8 (fun v22 ev22 lv22 uv22 => ?_)
  have c23 := i_rng v21; rw [show v21.toInt = v21.toInt from rfl] at c23
  refine q_icmp_ge hx hb (a := v21.toInt) (b := v22.toInt) rfl rfl (tgt := 16) dX12_halfOf_9 rfl (fun c24 => ?_) (fun c24 => ?_)
  · refine lv_iconst (v := 1) hx hb dX12_halfOf_16 rfl ?_
    have c25 : (1 : Int32).toInt = 1 := (by decide)
    exact ret 1 H0 [] _ _ dX12_halfOf_17 ⟨rfl, ⟨by omega, by omega⟩⟩ hC0 hS0
  · refine lv_iconst (v := 0) hx hb dX12_halfOf_12 rfl ?_
    refine lv_goto (tgt := 17) hx hb dX12_halfOf_13 rfl ?_
    have c26 : (0 : Int32).toInt = 0 := (by decide)
    exact ret 0 H0 [] _ _ dX12_halfOf_17 ⟨rfl, ⟨by omega, by omega⟩⟩ hC0 hS0
set_option maxRecDepth 100000 in
set_option maxHeartbeats 4000000 in
theorem m_X12_readPlace (l : Launch) (X : xW) (Γ : Nat → Option Nat) (H0 : Heap) (hC0 : Conf X Γ H0) (h0 : Nat) (g0 : Γ h0 = some 11) (p1 : Int32) {a1 : Int} (e1 : p1.toInt = a1) (ca : Nat) (gca : Γ ca = some 64) (uc : ∀ a, Γ a = some 64 → a = ca) : Ctr l X Γ yX12_readPlace cX12_readPlace 5 (some .int) 3 [.ref h0, .int p1] H0 (QI X Γ (fun v H1 => Kp X Γ [1, 6, 7, 8, 9, 10, 11, 12, 14, 15, 16, 17] H0 H1 ∧ (((sI H0 h0 (X.1.2 11 16)).toInt ≤ (sI H1 h0 (X.1.2 11 16)).toInt) ∧ ((sI H0 h0 (X.1.2 11 16)).toInt < (sI H1 h0 (X.1.2 11 16)).toInt + tk (sI H1 h0 (X.1.2 11 14)).toInt + 2000 * (sI H1 h0 (X.1.2 11 12)).toInt) ∧ ((sI H0 h0 (X.1.2 11 12)).toInt ≤ 7 * (sI H1 h0 (X.1.2 11 12)).toInt) ∧ (0 ≤ (sI H1 h0 (X.1.2 11 12)).toInt) ∧ (0 ≤ v.toInt) ∧ (v.toInt ≤ 35)))) := by
  refine q_enterI (own := "SnowFortsModel") (by decide) rfl (Nat.le_of_ble_eq_true rfl) ?_
  intro p e s m args below meth c ls Qz E hl ret hS0
  have hx := E.1; have hb := E.2.1
  have hKp0 : Kp X Γ [1, 6, 7, 8, 9, 10, 11, 12, 14, 15, 16, 17] H0 H0 := Kp.rf
  have hl : lv_has ls 5 [(0, .ref h0), (1, .int p1)] := hl
  have hz1 := f_bd hC0 g0 (ci := 11) (k := 16) rfl rfl
  have hz2 := f_bd hC0 g0 (ci := 11) (k := 12) rfl rfl
  refine lv_aload_n hx hb dX12_readPlace_0 rfl (lv_at hl 0 rfl) ?_
  refine q_getI E hC0 g0 fa_RX12_114 dX12_readPlace_1 (fun v21 ev21 lv21 uv21 => ?_)
  refine lv_istore_n hx hb dX12_readPlace_4 rfl hl (by decide) rfl (fun ls hl => ?_)
  have hl : lv_has ls 5 [(2, .int v21), (0, .ref h0), (1, .int p1)] := hl
  refine lv_aload_n hx hb dX12_readPlace_5 rfl (lv_at hl 1 rfl) ?_
  refine lv_iconst (v := 0) hx hb dX12_readPlace_6 rfl ?_
  refine lv_aload_n hx hb dX12_readPlace_7 rfl (lv_at hl 1 rfl) ?_
  refine q_getC E hC0 g0 fa_RX12_35 uc dX12_readPlace_8 ?_
  refine lv_iconst (v := 0) hx hb dX12_readPlace_11 rfl ?_
  refine q_cald E hC0 (lo := 0) (hi := 6) gca (a := 0) (show (0 : Int32).toInt = 0 from by decide) (by omega) (by omega) (cr_c0 (by omega) (by omega)) dX12_readPlace_12 (fun v22 ev22 lv22 uv22 => ?_)
  refine lv_iconst (v := 1) hx hb dX12_readPlace_13 rfl ?_
  refine lv_isub hx hb dX12_readPlace_14 (lv_topi (fun v23 ev23 => ?_))
  have ev23i : v23.toInt = (v22.toInt - 1) := i_sub ev23 rfl (by decide) (by omega) (by omega)
  refine q_goI (q_runV (As := [.int 0, .int v23]) (rest := []) E hC0 hS0 (m_X12_count l X Γ H0 hC0 h0 g0 0 (a1 := 0) (by decide) v23 (a2 := (v22.toInt - 1)) ev23i ca gca uc (by omega) (by omega) (by omega) (by omega)) cw_X12_count cl_RX12_248 g0 ⟨rfl, rfl⟩ rfl hl.1 rfl (Nat.zero_le _) (by decide) dX12_readPlace_15) hS0 (fun v24 H24 locs24 hr24 hC24 hS24 => ?_)
  obtain ⟨hp24, hr24⟩ := hr24
  have hKp24 := hKp0.tr (hp24.mono rfl)
  obtain ⟨f24_0, f24_1, f24_2, f24_3, f24_4, f24_5, f24_6, f24_7⟩ := hr24
  refine lv_istore_n hx hb dX12_readPlace_18 rfl hl (by decide) rfl (fun ls hl => ?_)
  have hl : lv_has ls 5 [(3, .int v24), (2, .int v21), (0, .ref h0), (1, .int p1)] := hl
  refine lv_aload_n hx hb dX12_readPlace_19 rfl (lv_at hl 2 rfl) ?_
  refine q_getI E hC24 g0 fa_RX12_218 dX12_readPlace_20 (fun v25 ev25 lv25 uv25 => ?_)
  have m26 : (sI H24 h0 (X.1.2 11 12)).toInt = v25.toInt := (congrArg Int32.toInt ev25).trans rfl
  refine q_if_ne hx hb (a := v25.toInt) rfl (tgt := 50) dX12_readPlace_23 rfl (fun c27 => ?_) (fun c27 => ?_)
  · refine lv_aload_n hx hb dX12_readPlace_50 rfl (lv_at hl 2 rfl) ?_
    refine lv_iconst (v := 0) hx hb dX12_readPlace_51 rfl ?_
    refine lv_aload_n hx hb dX12_readPlace_52 rfl (lv_at hl 2 rfl) ?_
    refine q_getC E hC24 g0 fa_RX12_35 uc dX12_readPlace_53 ?_
    refine lv_iconst (v := 1) hx hb dX12_readPlace_56 rfl ?_
    refine q_cald E hC24 (lo := 0) (hi := 6) gca (a := 1) (show (1 : Int32).toInt = 1 from by decide) (by omega) (by omega) (cr_c0 (by omega) (by omega)) dX12_readPlace_57 (fun v28 ev28 lv28 uv28 => ?_)
    refine lv_iconst (v := 1) hx hb dX12_readPlace_58 rfl ?_
    refine lv_isub hx hb dX12_readPlace_59 (lv_topi (fun v29 ev29 => ?_))
    have ev29i : v29.toInt = (v28.toInt - 1) := i_sub ev29 rfl (by decide) (by omega) (by omega)
    refine q_goI (q_runV (As := [.int 0, .int v29]) (rest := []) E hC24 hS24 (m_X12_count l X Γ H24 hC24 h0 g0 0 (a1 := 0) (by decide) v29 (a2 := (v28.toInt - 1)) ev29i ca gca uc (by omega) (by omega) (by omega) (by omega)) cw_X12_count cl_RX12_248 g0 ⟨rfl, rfl⟩ rfl hl.1 rfl (Nat.zero_le _) (by decide) dX12_readPlace_60) hS24 (fun v30 H30 locs30 hr30 hC30 hS30 => ?_)
    obtain ⟨hp30, hr30⟩ := hr30
    have hKp30 := hKp24.tr (hp30.mono rfl)
    obtain ⟨f30_0, f30_1, f30_2, f30_3, f30_4, f30_5, f30_6, f30_7⟩ := hr30
    refine lv_istore hx hb dX12_readPlace_63 hl (by decide) rfl (fun ls hl => ?_)
    have hl : lv_has ls 5 [(4, .int v30), (3, .int v24), (2, .int v21), (0, .ref h0), (1, .int p1)] := hl
    refine lv_bipush (v := 6) hx hb dX12_readPlace_65 rfl ?_
    refine lv_iload hx hb dX12_readPlace_67 (lv_at hl 0 rfl) ?_
    refine lv_imul hx hb dX12_readPlace_69 (lv_topi (fun v31 ev31 => ?_))
    have ev31i : v31.toInt = (6 * v30.toInt) := i_mul ev31 (by decide) rfl (by omega) (by omega)
    refine lv_iload_n hx hb dX12_readPlace_70 rfl (lv_at hl 1 rfl) ?_
    refine lv_iadd hx hb dX12_readPlace_71 (lv_topi (fun v32 ev32 => ?_))
    have ev32i : v32.toInt = ((6 * v30.toInt) + v24.toInt) := i_add ev32 ev31i rfl (by omega) (by omega)
    have hz8 := tk_nn (sI H30 h0 (X.1.2 11 14)).toInt
    have c33 : v32.toInt = ((6 * v30.toInt) + v24.toInt) := ev32i
    exact ret v32 H30 locs30 _ _ dX12_readPlace_72 ⟨hKp30, ⟨by omega, by omega, by omega, by omega, by omega, by omega⟩⟩ hC30 hS30
  · refine lv_iload_n hx hb dX12_readPlace_26 rfl (lv_at hl 3 rfl) ?_
    refine q_if_eq hx hb (a := a1) e1 (tgt := 50) dX12_readPlace_27 rfl (fun c34 => ?_) (fun c34 => ?_)
    · refine lv_aload_n hx hb dX12_readPlace_50 rfl (lv_at hl 2 rfl) ?_
      refine lv_iconst (v := 0) hx hb dX12_readPlace_51 rfl ?_
      refine lv_aload_n hx hb dX12_readPlace_52 rfl (lv_at hl 2 rfl) ?_
      refine q_getC E hC24 g0 fa_RX12_35 uc dX12_readPlace_53 ?_
      refine lv_iconst (v := 1) hx hb dX12_readPlace_56 rfl ?_
      refine q_cald E hC24 (lo := 0) (hi := 6) gca (a := 1) (show (1 : Int32).toInt = 1 from by decide) (by omega) (by omega) (cr_c0 (by omega) (by omega)) dX12_readPlace_57 (fun v35 ev35 lv35 uv35 => ?_)
      refine lv_iconst (v := 1) hx hb dX12_readPlace_58 rfl ?_
      refine lv_isub hx hb dX12_readPlace_59 (lv_topi (fun v36 ev36 => ?_))
      have ev36i : v36.toInt = (v35.toInt - 1) := i_sub ev36 rfl (by decide) (by omega) (by omega)
      refine q_goI (q_runV (As := [.int 0, .int v36]) (rest := []) E hC24 hS24 (m_X12_count l X Γ H24 hC24 h0 g0 0 (a1 := 0) (by decide) v36 (a2 := (v35.toInt - 1)) ev36i ca gca uc (by omega) (by omega) (by omega) (by omega)) cw_X12_count cl_RX12_248 g0 ⟨rfl, rfl⟩ rfl hl.1 rfl (Nat.zero_le _) (by decide) dX12_readPlace_60) hS24 (fun v37 H37 locs37 hr37 hC37 hS37 => ?_)
      obtain ⟨hp37, hr37⟩ := hr37
      have hKp37 := hKp24.tr (hp37.mono rfl)
      obtain ⟨f37_0, f37_1, f37_2, f37_3, f37_4, f37_5, f37_6, f37_7⟩ := hr37
      refine lv_istore hx hb dX12_readPlace_63 hl (by decide) rfl (fun ls hl => ?_)
      have hl : lv_has ls 5 [(4, .int v37), (3, .int v24), (2, .int v21), (0, .ref h0), (1, .int p1)] := hl
      refine lv_bipush (v := 6) hx hb dX12_readPlace_65 rfl ?_
      refine lv_iload hx hb dX12_readPlace_67 (lv_at hl 0 rfl) ?_
      refine lv_imul hx hb dX12_readPlace_69 (lv_topi (fun v38 ev38 => ?_))
      have ev38i : v38.toInt = (6 * v37.toInt) := i_mul ev38 (by decide) rfl (by omega) (by omega)
      refine lv_iload_n hx hb dX12_readPlace_70 rfl (lv_at hl 1 rfl) ?_
      refine lv_iadd hx hb dX12_readPlace_71 (lv_topi (fun v39 ev39 => ?_))
      have ev39i : v39.toInt = ((6 * v37.toInt) + v24.toInt) := i_add ev39 ev38i rfl (by omega) (by omega)
      have hz8 := tk_nn (sI H37 h0 (X.1.2 11 14)).toInt
      have c40 : v39.toInt = ((6 * v37.toInt) + v24.toInt) := ev39i
      exact ret v39 H37 locs37 _ _ dX12_readPlace_72 ⟨hKp37, ⟨by omega, by omega, by omega, by omega, by omega, by omega⟩⟩ hC37 hS37
    · refine lv_aload_n hx hb dX12_readPlace_30 rfl (lv_at hl 2 rfl) ?_
      refine lv_iload_n hx hb dX12_readPlace_31 rfl (lv_at hl 0 rfl) ?_
      refine q_goIp (q_runV (As := [.int v24]) (rest := []) E hC24 hS24 (m_X12_halfOf l X Γ H24 hC24 h0 g0 v24 (a1 := v24.toInt) rfl ca gca uc) cw_X12_halfOf cl_RX12_270 g0 ⟨rfl, rfl⟩ rfl hl.1 rfl (Nat.zero_le _) (by decide) dX12_readPlace_32) hS24 (fun v41 locs41 hr41 hS41 => ?_)
      obtain ⟨f41_0, f41_1⟩ := hr41
      refine lv_aload_n hx hb dX12_readPlace_35 rfl (lv_at hl 2 rfl) ?_
      refine q_getC E hC24 g0 fa_RX12_35 uc dX12_readPlace_36 ?_
      refine lv_iconst (v := 2) hx hb dX12_readPlace_39 rfl ?_
      refine q_cald E hC24 (lo := 0) (hi := 2) gca (a := 2) (show (2 : Int32).toInt = 2 from by decide) (by omega) (by omega) (cr_c2 (by omega) (by omega)) dX12_readPlace_40 (fun v42 ev42 lv42 uv42 => ?_)
      refine q_icmp_lt hx hb (a := v41.toInt) (b := v42.toInt) rfl rfl (tgt := 50) dX12_readPlace_41 rfl (fun c43 => ?_) (fun c43 => ?_)
      · refine lv_aload_n hx hb dX12_readPlace_50 rfl (lv_at hl 2 rfl) ?_
        refine lv_iconst (v := 0) hx hb dX12_readPlace_51 rfl ?_
        refine lv_aload_n hx hb dX12_readPlace_52 rfl (lv_at hl 2 rfl) ?_
        refine q_getC E hC24 g0 fa_RX12_35 uc dX12_readPlace_53 ?_
        refine lv_iconst (v := 1) hx hb dX12_readPlace_56 rfl ?_
        refine q_cald E hC24 (lo := 0) (hi := 6) gca (a := 1) (show (1 : Int32).toInt = 1 from by decide) (by omega) (by omega) (cr_c0 (by omega) (by omega)) dX12_readPlace_57 (fun v44 ev44 lv44 uv44 => ?_)
        refine lv_iconst (v := 1) hx hb dX12_readPlace_58 rfl ?_
        refine lv_isub hx hb dX12_readPlace_59 (lv_topi (fun v45 ev45 => ?_))
        have ev45i : v45.toInt = (v44.toInt - 1) := i_sub ev45 rfl (by decide) (by omega) (by omega)
        refine q_goI (q_runV (As := [.int 0, .int v45]) (rest := []) E hC24 hS41 (m_X12_count l X Γ H24 hC24 h0 g0 0 (a1 := 0) (by decide) v45 (a2 := (v44.toInt - 1)) ev45i ca gca uc (by omega) (by omega) (by omega) (by omega)) cw_X12_count cl_RX12_248 g0 ⟨rfl, rfl⟩ rfl hl.1 rfl (Nat.zero_le _) (by decide) dX12_readPlace_60) hS41 (fun v46 H46 locs46 hr46 hC46 hS46 => ?_)
        obtain ⟨hp46, hr46⟩ := hr46
        have hKp46 := hKp24.tr (hp46.mono rfl)
        obtain ⟨f46_0, f46_1, f46_2, f46_3, f46_4, f46_5, f46_6, f46_7⟩ := hr46
        refine lv_istore hx hb dX12_readPlace_63 hl (by decide) rfl (fun ls hl => ?_)
        have hl : lv_has ls 5 [(4, .int v46), (3, .int v24), (2, .int v21), (0, .ref h0), (1, .int p1)] := hl
        refine lv_bipush (v := 6) hx hb dX12_readPlace_65 rfl ?_
        refine lv_iload hx hb dX12_readPlace_67 (lv_at hl 0 rfl) ?_
        refine lv_imul hx hb dX12_readPlace_69 (lv_topi (fun v47 ev47 => ?_))
        have ev47i : v47.toInt = (6 * v46.toInt) := i_mul ev47 (by decide) rfl (by omega) (by omega)
        refine lv_iload_n hx hb dX12_readPlace_70 rfl (lv_at hl 1 rfl) ?_
        refine lv_iadd hx hb dX12_readPlace_71 (lv_topi (fun v48 ev48 => ?_))
        have ev48i : v48.toInt = ((6 * v46.toInt) + v24.toInt) := i_add ev48 ev47i rfl (by omega) (by omega)
        have hz8 := tk_nn (sI H46 h0 (X.1.2 11 14)).toInt
        have c49 : v48.toInt = ((6 * v46.toInt) + v24.toInt) := ev48i
        exact ret v48 H46 locs46 _ _ dX12_readPlace_72 ⟨hKp46, ⟨by omega, by omega, by omega, by omega, by omega, by omega⟩⟩ hC46 hS46
      · refine lv_aload_n hx hb dX12_readPlace_44 rfl (lv_at hl 2 rfl) ?_
        refine lv_iconst (v := 4) hx hb dX12_readPlace_45 rfl ?_
        refine lv_iload_n hx hb dX12_readPlace_46 rfl (lv_at hl 1 rfl) ?_
        refine q_goV (q_runV (As := [.int 4, .int v21]) (rest := []) E hC24 hS41 (m_X12_fail l X Γ H24 hC24 h0 g0 4 (a1 := 4) (by decide) v21 (a2 := v21.toInt) rfl ca gca uc (by omega) (by omega)) cw_X12_fail cl_RX12_224 g0 ⟨rfl, rfl⟩ rfl hl.1 rfl (Nat.zero_le _) (by decide) dX12_readPlace_47) hS41 (fun H50 locs50 hr50 hC50 hS50 => ?_)
        obtain ⟨hp50, hr50⟩ := hr50
        have hKp50 := hKp24.tr (hp50.mono rfl)
        obtain ⟨f50_0, f50_1, f50_2, f50_3⟩ := hr50
        refine lv_aload_n hx hb dX12_readPlace_50 rfl (lv_at hl 2 rfl) ?_
        refine lv_iconst (v := 0) hx hb dX12_readPlace_51 rfl ?_
        refine lv_aload_n hx hb dX12_readPlace_52 rfl (lv_at hl 2 rfl) ?_
        refine q_getC E hC50 g0 fa_RX12_35 uc dX12_readPlace_53 ?_
        refine lv_iconst (v := 1) hx hb dX12_readPlace_56 rfl ?_
        refine q_cald E hC50 (lo := 0) (hi := 6) gca (a := 1) (show (1 : Int32).toInt = 1 from by decide) (by omega) (by omega) (cr_c0 (by omega) (by omega)) dX12_readPlace_57 (fun v51 ev51 lv51 uv51 => ?_)
        refine lv_iconst (v := 1) hx hb dX12_readPlace_58 rfl ?_
        refine lv_isub hx hb dX12_readPlace_59 (lv_topi (fun v52 ev52 => ?_))
        have ev52i : v52.toInt = (v51.toInt - 1) := i_sub ev52 rfl (by decide) (by omega) (by omega)
        refine q_goI (q_runV (As := [.int 0, .int v52]) (rest := []) E hC50 hS50 (m_X12_count l X Γ H50 hC50 h0 g0 0 (a1 := 0) (by decide) v52 (a2 := (v51.toInt - 1)) ev52i ca gca uc (by omega) (by omega) (by omega) (by omega)) cw_X12_count cl_RX12_248 g0 ⟨rfl, rfl⟩ rfl hl.1 rfl (Nat.zero_le _) (by decide) dX12_readPlace_60) hS50 (fun v53 H53 locs53 hr53 hC53 hS53 => ?_)
        obtain ⟨hp53, hr53⟩ := hr53
        have hKp53 := hKp50.tr (hp53.mono rfl)
        obtain ⟨f53_0, f53_1, f53_2, f53_3, f53_4, f53_5, f53_6, f53_7⟩ := hr53
        refine lv_istore hx hb dX12_readPlace_63 hl (by decide) rfl (fun ls hl => ?_)
        have hl : lv_has ls 5 [(4, .int v53), (3, .int v24), (2, .int v21), (0, .ref h0), (1, .int p1)] := hl
        refine lv_bipush (v := 6) hx hb dX12_readPlace_65 rfl ?_
        refine lv_iload hx hb dX12_readPlace_67 (lv_at hl 0 rfl) ?_
        refine lv_imul hx hb dX12_readPlace_69 (lv_topi (fun v54 ev54 => ?_))
        have ev54i : v54.toInt = (6 * v53.toInt) := i_mul ev54 (by decide) rfl (by omega) (by omega)
        refine lv_iload_n hx hb dX12_readPlace_70 rfl (lv_at hl 1 rfl) ?_
        refine lv_iadd hx hb dX12_readPlace_71 (lv_topi (fun v55 ev55 => ?_))
        have ev55i : v55.toInt = ((6 * v53.toInt) + v24.toInt) := i_add ev55 ev54i rfl (by omega) (by omega)
        have hz8 := tk_nn (sI H53 h0 (X.1.2 11 14)).toInt
        have c56 : v55.toInt = ((6 * v53.toInt) + v24.toInt) := ev55i
        exact ret v55 H53 locs53 _ _ dX12_readPlace_72 ⟨hKp53, ⟨by omega, by omega, by omega, by omega, by omega, by omega⟩⟩ hC53 hS53
set_option maxRecDepth 100000 in
set_option maxHeartbeats 4000000 in
theorem m_X12_readSteal (l : Launch) (X : xW) (Γ : Nat → Option Nat) (H0 : Heap) (hC0 : Conf X Γ H0) (h0 : Nat) (g0 : Γ h0 = some 11) (p1 : Int32) {a1 : Int} (e1 : p1.toInt = a1) (ca : Nat) (gca : Γ ca = some 64) (uc : ∀ a, Γ a = some 64 → a = ca) (r0 : 2324 ≤ a1) (r1 : a1 ≤ 2585) : Ctr l X Γ yX12_readSteal cX12_readSteal 5 none 4 [.ref h0, .int p1] H0 (QV X Γ (fun H1 => Kp X Γ [1, 6, 7, 8, 9, 10, 11, 12, 14, 16, 17] H0 H1 ∧ (((sI H0 h0 (X.1.2 11 16)).toInt ≤ (sI H1 h0 (X.1.2 11 16)).toInt) ∧ ((sI H0 h0 (X.1.2 11 16)).toInt < (sI H1 h0 (X.1.2 11 16)).toInt + tk (sI H1 h0 (X.1.2 11 14)).toInt + 2000 * (sI H1 h0 (X.1.2 11 12)).toInt) ∧ ((sI H0 h0 (X.1.2 11 12)).toInt ≤ 7 * (sI H1 h0 (X.1.2 11 12)).toInt) ∧ (0 ≤ (sI H1 h0 (X.1.2 11 12)).toInt)))) := by
  refine q_enterV (own := "SnowFortsModel") (by decide) rfl (Nat.le_of_ble_eq_true rfl) ?_
  intro p e s m args below meth c ls Qz E hl ret hS0
  have hx := E.1; have hb := E.2.1
  have hKp0 : Kp X Γ [1, 6, 7, 8, 9, 10, 11, 12, 14, 16, 17] H0 H0 := Kp.rf
  have hl : lv_has ls 5 [(0, .ref h0), (1, .int p1)] := hl
  have hz1 := f_bd hC0 g0 (ci := 11) (k := 16) rfl rfl
  have hz2 := f_bd hC0 g0 (ci := 11) (k := 12) rfl rfl
  refine lv_aload_n hx hb dX12_readSteal_0 rfl (lv_at hl 0 rfl) ?_
  refine q_getC E hC0 g0 fa_RX12_35 uc dX12_readSteal_1 ?_
  refine lv_iload_n hx hb dX12_readSteal_4 rfl (lv_at hl 1 rfl) ?_
  refine lv_iconst (v := 1) hx hb dX12_readSteal_5 rfl ?_
  refine lv_iadd hx hb dX12_readSteal_6 (lv_topi (fun v21 ev21 => ?_))
  have ev21i : v21.toInt = (a1 + 1) := i_add ev21 e1 (by decide) (by omega) (by omega)
  refine lv_aload_n hx hb dX12_readSteal_7 rfl (lv_at hl 0 rfl) ?_
  refine lv_iconst (v := 1) hx hb dX12_readSteal_8 rfl ?_
  refine q_goI (q_runV (As := [.int 1]) (rest := [.int v21, .ref ca]) E hC0 hS0 (m_X12_readPlace l X Γ H0 hC0 h0 g0 1 (a1 := 1) (by decide) ca gca uc) cw_X12_readPlace cl_RX12_273 g0 ⟨rfl, rfl⟩ rfl hl.1 rfl (show _ ≤ _ from by simp [Value.category]) (by decide) dX12_readSteal_9) hS0 (fun v22 H22 locs22 hr22 hC22 hS22 => ?_)
  obtain ⟨hp22, hr22⟩ := hr22
  have hKp22 := hKp0.tr (hp22.mono rfl)
  obtain ⟨f22_0, f22_1, f22_2, f22_3, f22_4, f22_5⟩ := hr22
  refine q_cast E hC22 hS22 gca (a := (a1 + 1)) ev21i (by omega) (by omega) (cs_n244 (a := (a1 + 1)) (by omega) (by omega)) dX12_readSteal_12 (fun H23 locs23 hC23 hS23 U23 => ?_)
  have hKp23 := Kp.upD gca rfl rfl (fun _ => ⟨fun _ => nd4 (by omega) (by omega), fun _ => by unfold dpu; omega, fun _ => by unfold dpn; omega⟩) U23 hKp22
  have m24 : (sI H23 h0 (X.1.2 11 12)).toInt = (sI H22 h0 (X.1.2 11 12)).toInt := congrArg Int32.toInt (up_nI U23 (ne_k g0 gca (by decide)))
  have m25 : (sI H23 h0 (X.1.2 11 14)).toInt = (sI H22 h0 (X.1.2 11 14)).toInt := congrArg Int32.toInt (up_nI U23 (ne_k g0 gca (by decide)))
  have m26 := congrArg tk m25
  have m27 : (sI H23 h0 (X.1.2 11 16)).toInt = (sI H22 h0 (X.1.2 11 16)).toInt := congrArg Int32.toInt (up_nI U23 (ne_k g0 gca (by decide)))
  have e28 := up_I U23
  refine lv_aload_n hx hb dX12_readSteal_13 rfl (lv_at hl 0 rfl) ?_
  refine lv_aload_n hx hb dX12_readSteal_14 rfl (lv_at hl 0 rfl) ?_
  refine q_goIp (q_runV (As := []) (rest := [.ref h0]) E hC23 hS23 (m_X12_isFrom l X Γ H23 hC23 h0 g0 ca gca uc) cw_X12_isFrom cl_RX12_205 g0 ⟨rfl, rfl⟩ rfl hl.1 rfl (show _ ≤ _ from by simp [Value.category]) (by decide) dX12_readSteal_15) hS23 (fun v29 locs29 hr29 hS29 => ?_)
  have b29 : v29.toInt = 0 ∨ v29.toInt = 1 := hr29.imp (fun h => by rw [h]; decide) (fun h => by rw [h]; decide)
  refine q_goV (q_runV (As := [.int v29]) (rest := []) E hC23 hS29 (m_X12_must l X Γ H23 hC23 h0 g0 v29 (a1 := v29.toInt) rfl ca gca uc (by omega) (by omega)) cw_X12_must cl_RX12_244 g0 ⟨rfl, rfl⟩ rfl hl.1 rfl (Nat.zero_le _) (by decide) dX12_readSteal_18) hS29 (fun H30 locs30 hr30 hC30 hS30 => ?_)
  obtain ⟨hp30, hr30⟩ := hr30
  have hKp30 := hKp23.tr (hp30.mono rfl)
  obtain ⟨f30_0, f30_1, f30_2, f30_3, f30_4⟩ := hr30
  refine lv_aload_n hx hb dX12_readSteal_21 rfl (lv_at hl 0 rfl) ?_
  refine lv_iconst (v := 0) hx hb dX12_readSteal_22 rfl ?_
  refine lv_aload_n hx hb dX12_readSteal_23 rfl (lv_at hl 0 rfl) ?_
  refine q_getC E hC30 g0 fa_RX12_35 uc dX12_readSteal_24 ?_
  refine lv_iconst (v := 0) hx hb dX12_readSteal_27 rfl ?_
  refine q_cald E hC30 (lo := 0) (hi := 6) gca (a := 0) (show (0 : Int32).toInt = 0 from by decide) (by omega) (by omega) (cr_c0 (by omega) (by omega)) dX12_readSteal_28 (fun v31 ev31 lv31 uv31 => ?_)
  refine lv_iconst (v := 1) hx hb dX12_readSteal_29 rfl ?_
  refine lv_isub hx hb dX12_readSteal_30 (lv_topi (fun v32 ev32 => ?_))
  have ev32i : v32.toInt = (v31.toInt - 1) := i_sub ev32 rfl (by decide) (by omega) (by omega)
  refine q_goI (q_runV (As := [.int 0, .int v32]) (rest := []) E hC30 hS30 (m_X12_count l X Γ H30 hC30 h0 g0 0 (a1 := 0) (by decide) v32 (a2 := (v31.toInt - 1)) ev32i ca gca uc (by omega) (by omega) (by omega) (by omega)) cw_X12_count cl_RX12_248 g0 ⟨rfl, rfl⟩ rfl hl.1 rfl (Nat.zero_le _) (by decide) dX12_readSteal_31) hS30 (fun v33 H33 locs33 hr33 hC33 hS33 => ?_)
  obtain ⟨hp33, hr33⟩ := hr33
  have hKp33 := hKp30.tr (hp33.mono rfl)
  obtain ⟨f33_0, f33_1, f33_2, f33_3, f33_4, f33_5, f33_6, f33_7⟩ := hr33
  refine lv_istore_n hx hb dX12_readSteal_34 rfl hl (by decide) rfl (fun ls hl => ?_)
  have hl : lv_has ls 5 [(2, .int v33), (0, .ref h0), (1, .int p1)] := hl
  refine lv_aload_n hx hb dX12_readSteal_35 rfl (lv_at hl 1 rfl) ?_
  refine q_getI E hC33 g0 fa_RX12_114 dX12_readSteal_36 (fun v34 ev34 lv34 uv34 => ?_)
  refine lv_istore_n hx hb dX12_readSteal_39 rfl hl (by decide) rfl (fun ls hl => ?_)
  have hl : lv_has ls 5 [(3, .int v34), (2, .int v33), (0, .ref h0), (1, .int p1)] := hl
  refine lv_aload_n hx hb dX12_readSteal_40 rfl (lv_at hl 2 rfl) ?_
  refine lv_iconst (v := 0) hx hb dX12_readSteal_41 rfl ?_
  refine lv_aload_n hx hb dX12_readSteal_42 rfl (lv_at hl 2 rfl) ?_
  refine q_getC E hC33 g0 fa_RX12_35 uc dX12_readSteal_43 ?_
  refine lv_iconst (v := 1) hx hb dX12_readSteal_46 rfl ?_
  refine q_cald E hC33 (lo := 0) (hi := 6) gca (a := 1) (show (1 : Int32).toInt = 1 from by decide) (by omega) (by omega) (cr_c0 (by omega) (by omega)) dX12_readSteal_47 (fun v35 ev35 lv35 uv35 => ?_)
  refine lv_iconst (v := 1) hx hb dX12_readSteal_48 rfl ?_
  refine lv_isub hx hb dX12_readSteal_49 (lv_topi (fun v36 ev36 => ?_))
  have ev36i : v36.toInt = (v35.toInt - 1) := i_sub ev36 rfl (by decide) (by omega) (by omega)
  refine q_goI (q_runV (As := [.int 0, .int v36]) (rest := []) E hC33 hS33 (m_X12_count l X Γ H33 hC33 h0 g0 0 (a1 := 0) (by decide) v36 (a2 := (v35.toInt - 1)) ev36i ca gca uc (by omega) (by omega) (by omega) (by omega)) cw_X12_count cl_RX12_248 g0 ⟨rfl, rfl⟩ rfl hl.1 rfl (Nat.zero_le _) (by decide) dX12_readSteal_50) hS33 (fun v37 H37 locs37 hr37 hC37 hS37 => ?_)
  obtain ⟨hp37, hr37⟩ := hr37
  have hKp37 := hKp33.tr (hp37.mono rfl)
  obtain ⟨f37_0, f37_1, f37_2, f37_3, f37_4, f37_5, f37_6, f37_7⟩ := hr37
  refine lv_istore hx hb dX12_readSteal_53 hl (by decide) rfl (fun ls hl => ?_)
  have hl : lv_has ls 5 [(4, .int v37), (3, .int v34), (2, .int v33), (0, .ref h0), (1, .int p1)] := hl
  refine lv_aload_n hx hb dX12_readSteal_55 rfl (lv_at hl 3 rfl) ?_
  refine q_getI E hC37 g0 fa_RX12_218 dX12_readSteal_56 (fun v38 ev38 lv38 uv38 => ?_)
  have m39 : (sI H37 h0 (X.1.2 11 12)).toInt = v38.toInt := (congrArg Int32.toInt ev38).trans rfl
  refine q_if_ne hx hb (a := v38.toInt) rfl (tgt := 91) dX12_readSteal_59 rfl (fun c40 => ?_) (fun c40 => ?_)
  · refine lv_aload_n hx hb dX12_readSteal_91 rfl (lv_at hl 3 rfl) ?_
    refine q_getC E hC37 g0 fa_RX12_35 uc dX12_readSteal_92 ?_
    refine lv_iload_n hx hb dX12_readSteal_95 rfl (lv_at hl 4 rfl) ?_
    refine lv_iconst (v := 2) hx hb dX12_readSteal_96 rfl ?_
    refine lv_iadd hx hb dX12_readSteal_97 (lv_topi (fun v41 ev41 => ?_))
    have ev41i : v41.toInt = (a1 + 2) := i_add ev41 e1 (by decide) (by omega) (by omega)
    refine lv_bipush (v := 6) hx hb dX12_readSteal_98 rfl ?_
    refine lv_iload hx hb dX12_readSteal_100 (lv_at hl 0 rfl) ?_
    refine lv_imul hx hb dX12_readSteal_102 (lv_topi (fun v42 ev42 => ?_))
    have ev42i : v42.toInt = (6 * v37.toInt) := i_mul ev42 (by decide) rfl (by omega) (by omega)
    refine lv_iload_n hx hb dX12_readSteal_103 rfl (lv_at hl 2 rfl) ?_
    refine lv_iadd hx hb dX12_readSteal_104 (lv_topi (fun v43 ev43 => ?_))
    have ev43i : v43.toInt = ((6 * v37.toInt) + v33.toInt) := i_add ev43 ev42i rfl (by omega) (by omega)
    refine q_cast E hC37 hS37 gca (a := (a1 + 2)) ev41i (by omega) (by omega) (cs_n244 (a := (a1 + 2)) (by omega) (by omega)) dX12_readSteal_105 (fun H44 locs44 hC44 hS44 U44 => ?_)
    have hKp44 := Kp.upD gca rfl rfl (fun _ => ⟨fun _ => nd4 (by omega) (by omega), fun _ => by unfold dpu; omega, fun _ => by unfold dpn; omega⟩) U44 hKp37
    have m45 : (sI H44 h0 (X.1.2 11 12)).toInt = (sI H37 h0 (X.1.2 11 12)).toInt := congrArg Int32.toInt (up_nI U44 (ne_k g0 gca (by decide)))
    have m46 : (sI H44 h0 (X.1.2 11 14)).toInt = (sI H37 h0 (X.1.2 11 14)).toInt := congrArg Int32.toInt (up_nI U44 (ne_k g0 gca (by decide)))
    have m47 := congrArg tk m46
    have m48 : (sI H44 h0 (X.1.2 11 16)).toInt = (sI H37 h0 (X.1.2 11 16)).toInt := congrArg Int32.toInt (up_nI U44 (ne_k g0 gca (by decide)))
    have e49 := up_I U44
    refine lv_aload_n hx hb dX12_readSteal_106 rfl (lv_at hl 3 rfl) ?_
    refine lv_aload_n hx hb dX12_readSteal_107 rfl (lv_at hl 3 rfl) ?_
    refine q_goIp (q_runV (As := []) (rest := [.ref h0]) E hC44 hS44 (m_X12_isBy l X Γ H44 hC44 h0 g0 ca gca uc) cw_X12_isBy cl_RX12_190 g0 ⟨rfl, rfl⟩ rfl hl.1 rfl (show _ ≤ _ from by simp [Value.category]) (by decide) dX12_readSteal_108) hS44 (fun v50 locs50 hr50 hS50 => ?_)
    have b50 : v50.toInt = 0 ∨ v50.toInt = 1 := hr50.imp (fun h => by rw [h]; decide) (fun h => by rw [h]; decide)
    refine q_goV (q_runV (As := [.int v50]) (rest := []) E hC44 hS50 (m_X12_must l X Γ H44 hC44 h0 g0 v50 (a1 := v50.toInt) rfl ca gca uc (by omega) (by omega)) cw_X12_must cl_RX12_244 g0 ⟨rfl, rfl⟩ rfl hl.1 rfl (Nat.zero_le _) (by decide) dX12_readSteal_111) hS50 (fun H51 locs51 hr51 hC51 hS51 => ?_)
    obtain ⟨hp51, hr51⟩ := hr51
    have hKp51 := hKp44.tr (hp51.mono rfl)
    obtain ⟨f51_0, f51_1, f51_2, f51_3, f51_4⟩ := hr51
    refine lv_aload_n hx hb dX12_readSteal_114 rfl (lv_at hl 3 rfl) ?_
    refine q_getC E hC51 g0 fa_RX12_35 uc dX12_readSteal_115 ?_
    refine lv_iload_n hx hb dX12_readSteal_118 rfl (lv_at hl 4 rfl) ?_
    refine lv_iconst (v := 3) hx hb dX12_readSteal_119 rfl ?_
    refine lv_iadd hx hb dX12_readSteal_120 (lv_topi (fun v52 ev52 => ?_))
    have ev52i : v52.toInt = (a1 + 3) := i_add ev52 e1 (by decide) (by omega) (by omega)
    refine lv_aload_n hx hb dX12_readSteal_121 rfl (lv_at hl 3 rfl) ?_
    refine lv_iconst (v := 1) hx hb dX12_readSteal_122 rfl ?_
    refine lv_bipush (v := 40) hx hb dX12_readSteal_123 rfl ?_
    refine q_goI (q_runV (As := [.int 1, .int 40]) (rest := [.int v52, .ref ca]) E hC51 hS51 (m_X12_count l X Γ H51 hC51 h0 g0 1 (a1 := 1) (by decide) 40 (a2 := 40) (by decide) ca gca uc (by omega) (by omega) (by omega) (by omega)) cw_X12_count cl_RX12_248 g0 ⟨rfl, rfl⟩ rfl hl.1 rfl (show _ ≤ _ from by simp [Value.category]) (by decide) dX12_readSteal_125) hS51 (fun v53 H53 locs53 hr53 hC53 hS53 => ?_)
    obtain ⟨hp53, hr53⟩ := hr53
    have hKp53 := hKp51.tr (hp53.mono rfl)
    obtain ⟨f53_0, f53_1, f53_2, f53_3, f53_4, f53_5, f53_6, f53_7⟩ := hr53
    refine q_cast E hC53 hS53 gca (a := (a1 + 3)) ev52i (by omega) (by omega) (cs_n244 (a := (a1 + 3)) (by omega) (by omega)) dX12_readSteal_128 (fun H54 locs54 hC54 hS54 U54 => ?_)
    have hKp54 := Kp.upD gca rfl rfl (fun _ => ⟨fun _ => nd4 (by omega) (by omega), fun _ => by unfold dpu; omega, fun _ => by unfold dpn; omega⟩) U54 hKp53
    have m55 : (sI H54 h0 (X.1.2 11 12)).toInt = (sI H53 h0 (X.1.2 11 12)).toInt := congrArg Int32.toInt (up_nI U54 (ne_k g0 gca (by decide)))
    have m56 : (sI H54 h0 (X.1.2 11 14)).toInt = (sI H53 h0 (X.1.2 11 14)).toInt := congrArg Int32.toInt (up_nI U54 (ne_k g0 gca (by decide)))
    have m57 := congrArg tk m56
    have m58 : (sI H54 h0 (X.1.2 11 16)).toInt = (sI H53 h0 (X.1.2 11 16)).toInt := congrArg Int32.toInt (up_nI U54 (ne_k g0 gca (by decide)))
    have e59 := up_I U54
    have hz8 := tk_nn (sI H54 h0 (X.1.2 11 14)).toInt
    exact ret H54 locs54 _ _ dX12_readSteal_129 ⟨hKp54, ⟨by omega, by omega, by omega, by omega⟩⟩ hC54 hS54
  · refine lv_aload_n hx hb dX12_readSteal_62 rfl (lv_at hl 3 rfl) ?_
    refine lv_iload_n hx hb dX12_readSteal_63 rfl (lv_at hl 2 rfl) ?_
    refine q_goIp (q_runV (As := [.int v33]) (rest := []) E hC37 hS37 (m_X12_halfOf l X Γ H37 hC37 h0 g0 v33 (a1 := v33.toInt) rfl ca gca uc) cw_X12_halfOf cl_RX12_270 g0 ⟨rfl, rfl⟩ rfl hl.1 rfl (Nat.zero_le _) (by decide) dX12_readSteal_64) hS37 (fun v60 locs60 hr60 hS60 => ?_)
    obtain ⟨f60_0, f60_1⟩ := hr60
    refine lv_aload_n hx hb dX12_readSteal_67 rfl (lv_at hl 3 rfl) ?_
    refine lv_aload_n hx hb dX12_readSteal_68 rfl (lv_at hl 3 rfl) ?_
    refine q_getC E hC37 g0 fa_RX12_35 uc dX12_readSteal_69 ?_
    refine lv_iload_n hx hb dX12_readSteal_72 rfl (lv_at hl 4 rfl) ?_
    refine lv_iconst (v := 1) hx hb dX12_readSteal_73 rfl ?_
    refine lv_iadd hx hb dX12_readSteal_74 (lv_topi (fun v61 ev61 => ?_))
    have ev61i : v61.toInt = (a1 + 1) := i_add ev61 e1 (by decide) (by omega) (by omega)
    have e63 := (kp_c (j := ((a1 + 1) : Int).toNat) hp30 gca rfl).trans e28
    have e64 := (kp_c (j := ((a1 + 1) : Int).toNat) hp33 gca rfl).trans e63
    have e65 := (kp_c (j := ((a1 + 1) : Int).toNat) hp37 gca rfl).trans e64
    refine q_cald E hC37 (lo := -2147483648) (hi := 2147483647) gca (a := (a1 + 1)) ev61i (by omega) (by omega) (cr_n244 (by omega) (by omega)) dX12_readSteal_75 (fun v62 ev62 _ _ => ?_)
    have qv62 := e65.symm.trans ev62; subst qv62
    refine lv_bipush (v := 6) hx hb dX12_readSteal_76 rfl ?_
    refine lv_irem hx hb dX12_readSteal_78 (by decide) (lv_topi (fun v66 ev66 => ?_))
    have ev66i : v66.toInt = (v22.toInt % 6) := i_rem ev66 rfl (by decide) (by omega) (by decide)
    refine q_goIp (q_runV (As := [.int v66]) (rest := [.int v60]) E hC37 hS60 (m_X12_halfOf l X Γ H37 hC37 h0 g0 v66 (a1 := (v22.toInt % 6)) ev66i ca gca uc) cw_X12_halfOf cl_RX12_270 g0 ⟨rfl, rfl⟩ rfl hl.1 rfl (show _ ≤ _ from by simp [Value.category]) (by decide) dX12_readSteal_79) hS60 (fun v67 locs67 hr67 hS67 => ?_)
    obtain ⟨f67_0, f67_1⟩ := hr67
    refine q_icmp_ne hx hb (a := v60.toInt) (b := v67.toInt) rfl rfl (tgt := 91) dX12_readSteal_82 rfl (fun c68 => ?_) (fun c68 => ?_)
    · refine lv_aload_n hx hb dX12_readSteal_91 rfl (lv_at hl 3 rfl) ?_
      refine q_getC E hC37 g0 fa_RX12_35 uc dX12_readSteal_92 ?_
      refine lv_iload_n hx hb dX12_readSteal_95 rfl (lv_at hl 4 rfl) ?_
      refine lv_iconst (v := 2) hx hb dX12_readSteal_96 rfl ?_
      refine lv_iadd hx hb dX12_readSteal_97 (lv_topi (fun v69 ev69 => ?_))
      have ev69i : v69.toInt = (a1 + 2) := i_add ev69 e1 (by decide) (by omega) (by omega)
      refine lv_bipush (v := 6) hx hb dX12_readSteal_98 rfl ?_
      refine lv_iload hx hb dX12_readSteal_100 (lv_at hl 0 rfl) ?_
      refine lv_imul hx hb dX12_readSteal_102 (lv_topi (fun v70 ev70 => ?_))
      have ev70i : v70.toInt = (6 * v37.toInt) := i_mul ev70 (by decide) rfl (by omega) (by omega)
      refine lv_iload_n hx hb dX12_readSteal_103 rfl (lv_at hl 2 rfl) ?_
      refine lv_iadd hx hb dX12_readSteal_104 (lv_topi (fun v71 ev71 => ?_))
      have ev71i : v71.toInt = ((6 * v37.toInt) + v33.toInt) := i_add ev71 ev70i rfl (by omega) (by omega)
      refine q_cast E hC37 hS67 gca (a := (a1 + 2)) ev69i (by omega) (by omega) (cs_n244 (a := (a1 + 2)) (by omega) (by omega)) dX12_readSteal_105 (fun H72 locs72 hC72 hS72 U72 => ?_)
      have hKp72 := Kp.upD gca rfl rfl (fun _ => ⟨fun _ => nd4 (by omega) (by omega), fun _ => by unfold dpu; omega, fun _ => by unfold dpn; omega⟩) U72 hKp37
      have m73 : (sI H72 h0 (X.1.2 11 12)).toInt = (sI H37 h0 (X.1.2 11 12)).toInt := congrArg Int32.toInt (up_nI U72 (ne_k g0 gca (by decide)))
      have m74 : (sI H72 h0 (X.1.2 11 14)).toInt = (sI H37 h0 (X.1.2 11 14)).toInt := congrArg Int32.toInt (up_nI U72 (ne_k g0 gca (by decide)))
      have m75 := congrArg tk m74
      have m76 : (sI H72 h0 (X.1.2 11 16)).toInt = (sI H37 h0 (X.1.2 11 16)).toInt := congrArg Int32.toInt (up_nI U72 (ne_k g0 gca (by decide)))
      have e77 := up_I U72
      refine lv_aload_n hx hb dX12_readSteal_106 rfl (lv_at hl 3 rfl) ?_
      refine lv_aload_n hx hb dX12_readSteal_107 rfl (lv_at hl 3 rfl) ?_
      refine q_goIp (q_runV (As := []) (rest := [.ref h0]) E hC72 hS72 (m_X12_isBy l X Γ H72 hC72 h0 g0 ca gca uc) cw_X12_isBy cl_RX12_190 g0 ⟨rfl, rfl⟩ rfl hl.1 rfl (show _ ≤ _ from by simp [Value.category]) (by decide) dX12_readSteal_108) hS72 (fun v78 locs78 hr78 hS78 => ?_)
      have b78 : v78.toInt = 0 ∨ v78.toInt = 1 := hr78.imp (fun h => by rw [h]; decide) (fun h => by rw [h]; decide)
      refine q_goV (q_runV (As := [.int v78]) (rest := []) E hC72 hS78 (m_X12_must l X Γ H72 hC72 h0 g0 v78 (a1 := v78.toInt) rfl ca gca uc (by omega) (by omega)) cw_X12_must cl_RX12_244 g0 ⟨rfl, rfl⟩ rfl hl.1 rfl (Nat.zero_le _) (by decide) dX12_readSteal_111) hS78 (fun H79 locs79 hr79 hC79 hS79 => ?_)
      obtain ⟨hp79, hr79⟩ := hr79
      have hKp79 := hKp72.tr (hp79.mono rfl)
      obtain ⟨f79_0, f79_1, f79_2, f79_3, f79_4⟩ := hr79
      refine lv_aload_n hx hb dX12_readSteal_114 rfl (lv_at hl 3 rfl) ?_
      refine q_getC E hC79 g0 fa_RX12_35 uc dX12_readSteal_115 ?_
      refine lv_iload_n hx hb dX12_readSteal_118 rfl (lv_at hl 4 rfl) ?_
      refine lv_iconst (v := 3) hx hb dX12_readSteal_119 rfl ?_
      refine lv_iadd hx hb dX12_readSteal_120 (lv_topi (fun v80 ev80 => ?_))
      have ev80i : v80.toInt = (a1 + 3) := i_add ev80 e1 (by decide) (by omega) (by omega)
      refine lv_aload_n hx hb dX12_readSteal_121 rfl (lv_at hl 3 rfl) ?_
      refine lv_iconst (v := 1) hx hb dX12_readSteal_122 rfl ?_
      refine lv_bipush (v := 40) hx hb dX12_readSteal_123 rfl ?_
      refine q_goI (q_runV (As := [.int 1, .int 40]) (rest := [.int v80, .ref ca]) E hC79 hS79 (m_X12_count l X Γ H79 hC79 h0 g0 1 (a1 := 1) (by decide) 40 (a2 := 40) (by decide) ca gca uc (by omega) (by omega) (by omega) (by omega)) cw_X12_count cl_RX12_248 g0 ⟨rfl, rfl⟩ rfl hl.1 rfl (show _ ≤ _ from by simp [Value.category]) (by decide) dX12_readSteal_125) hS79 (fun v81 H81 locs81 hr81 hC81 hS81 => ?_)
      obtain ⟨hp81, hr81⟩ := hr81
      have hKp81 := hKp79.tr (hp81.mono rfl)
      obtain ⟨f81_0, f81_1, f81_2, f81_3, f81_4, f81_5, f81_6, f81_7⟩ := hr81
      refine q_cast E hC81 hS81 gca (a := (a1 + 3)) ev80i (by omega) (by omega) (cs_n244 (a := (a1 + 3)) (by omega) (by omega)) dX12_readSteal_128 (fun H82 locs82 hC82 hS82 U82 => ?_)
      have hKp82 := Kp.upD gca rfl rfl (fun _ => ⟨fun _ => nd4 (by omega) (by omega), fun _ => by unfold dpu; omega, fun _ => by unfold dpn; omega⟩) U82 hKp81
      have m83 : (sI H82 h0 (X.1.2 11 12)).toInt = (sI H81 h0 (X.1.2 11 12)).toInt := congrArg Int32.toInt (up_nI U82 (ne_k g0 gca (by decide)))
      have m84 : (sI H82 h0 (X.1.2 11 14)).toInt = (sI H81 h0 (X.1.2 11 14)).toInt := congrArg Int32.toInt (up_nI U82 (ne_k g0 gca (by decide)))
      have m85 := congrArg tk m84
      have m86 : (sI H82 h0 (X.1.2 11 16)).toInt = (sI H81 h0 (X.1.2 11 16)).toInt := congrArg Int32.toInt (up_nI U82 (ne_k g0 gca (by decide)))
      have e87 := up_I U82
      have hz8 := tk_nn (sI H82 h0 (X.1.2 11 14)).toInt
      exact ret H82 locs82 _ _ dX12_readSteal_129 ⟨hKp82, ⟨by omega, by omega, by omega, by omega⟩⟩ hC82 hS82
    · refine lv_aload_n hx hb dX12_readSteal_85 rfl (lv_at hl 3 rfl) ?_
      refine lv_iconst (v := 4) hx hb dX12_readSteal_86 rfl ?_
      refine lv_iload_n hx hb dX12_readSteal_87 rfl (lv_at hl 1 rfl) ?_
      refine q_goV (q_runV (As := [.int 4, .int v34]) (rest := []) E hC37 hS67 (m_X12_fail l X Γ H37 hC37 h0 g0 4 (a1 := 4) (by decide) v34 (a2 := v34.toInt) rfl ca gca uc (by omega) (by omega)) cw_X12_fail cl_RX12_224 g0 ⟨rfl, rfl⟩ rfl hl.1 rfl (Nat.zero_le _) (by decide) dX12_readSteal_88) hS67 (fun H88 locs88 hr88 hC88 hS88 => ?_)
      obtain ⟨hp88, hr88⟩ := hr88
      have hKp88 := hKp37.tr (hp88.mono rfl)
      obtain ⟨f88_0, f88_1, f88_2, f88_3⟩ := hr88
      refine lv_aload_n hx hb dX12_readSteal_91 rfl (lv_at hl 3 rfl) ?_
      refine q_getC E hC88 g0 fa_RX12_35 uc dX12_readSteal_92 ?_
      refine lv_iload_n hx hb dX12_readSteal_95 rfl (lv_at hl 4 rfl) ?_
      refine lv_iconst (v := 2) hx hb dX12_readSteal_96 rfl ?_
      refine lv_iadd hx hb dX12_readSteal_97 (lv_topi (fun v89 ev89 => ?_))
      have ev89i : v89.toInt = (a1 + 2) := i_add ev89 e1 (by decide) (by omega) (by omega)
      refine lv_bipush (v := 6) hx hb dX12_readSteal_98 rfl ?_
      refine lv_iload hx hb dX12_readSteal_100 (lv_at hl 0 rfl) ?_
      refine lv_imul hx hb dX12_readSteal_102 (lv_topi (fun v90 ev90 => ?_))
      have ev90i : v90.toInt = (6 * v37.toInt) := i_mul ev90 (by decide) rfl (by omega) (by omega)
      refine lv_iload_n hx hb dX12_readSteal_103 rfl (lv_at hl 2 rfl) ?_
      refine lv_iadd hx hb dX12_readSteal_104 (lv_topi (fun v91 ev91 => ?_))
      have ev91i : v91.toInt = ((6 * v37.toInt) + v33.toInt) := i_add ev91 ev90i rfl (by omega) (by omega)
      refine q_cast E hC88 hS88 gca (a := (a1 + 2)) ev89i (by omega) (by omega) (cs_n244 (a := (a1 + 2)) (by omega) (by omega)) dX12_readSteal_105 (fun H92 locs92 hC92 hS92 U92 => ?_)
      have hKp92 := Kp.upD gca rfl rfl (fun _ => ⟨fun _ => nd4 (by omega) (by omega), fun _ => by unfold dpu; omega, fun _ => by unfold dpn; omega⟩) U92 hKp88
      have m93 : (sI H92 h0 (X.1.2 11 12)).toInt = (sI H88 h0 (X.1.2 11 12)).toInt := congrArg Int32.toInt (up_nI U92 (ne_k g0 gca (by decide)))
      have m94 : (sI H92 h0 (X.1.2 11 14)).toInt = (sI H88 h0 (X.1.2 11 14)).toInt := congrArg Int32.toInt (up_nI U92 (ne_k g0 gca (by decide)))
      have m95 := congrArg tk m94
      have m96 : (sI H92 h0 (X.1.2 11 16)).toInt = (sI H88 h0 (X.1.2 11 16)).toInt := congrArg Int32.toInt (up_nI U92 (ne_k g0 gca (by decide)))
      have e97 := up_I U92
      refine lv_aload_n hx hb dX12_readSteal_106 rfl (lv_at hl 3 rfl) ?_
      refine lv_aload_n hx hb dX12_readSteal_107 rfl (lv_at hl 3 rfl) ?_
      refine q_goIp (q_runV (As := []) (rest := [.ref h0]) E hC92 hS92 (m_X12_isBy l X Γ H92 hC92 h0 g0 ca gca uc) cw_X12_isBy cl_RX12_190 g0 ⟨rfl, rfl⟩ rfl hl.1 rfl (show _ ≤ _ from by simp [Value.category]) (by decide) dX12_readSteal_108) hS92 (fun v98 locs98 hr98 hS98 => ?_)
      have b98 : v98.toInt = 0 ∨ v98.toInt = 1 := hr98.imp (fun h => by rw [h]; decide) (fun h => by rw [h]; decide)
      refine q_goV (q_runV (As := [.int v98]) (rest := []) E hC92 hS98 (m_X12_must l X Γ H92 hC92 h0 g0 v98 (a1 := v98.toInt) rfl ca gca uc (by omega) (by omega)) cw_X12_must cl_RX12_244 g0 ⟨rfl, rfl⟩ rfl hl.1 rfl (Nat.zero_le _) (by decide) dX12_readSteal_111) hS98 (fun H99 locs99 hr99 hC99 hS99 => ?_)
      obtain ⟨hp99, hr99⟩ := hr99
      have hKp99 := hKp92.tr (hp99.mono rfl)
      obtain ⟨f99_0, f99_1, f99_2, f99_3, f99_4⟩ := hr99
      refine lv_aload_n hx hb dX12_readSteal_114 rfl (lv_at hl 3 rfl) ?_
      refine q_getC E hC99 g0 fa_RX12_35 uc dX12_readSteal_115 ?_
      refine lv_iload_n hx hb dX12_readSteal_118 rfl (lv_at hl 4 rfl) ?_
      refine lv_iconst (v := 3) hx hb dX12_readSteal_119 rfl ?_
      refine lv_iadd hx hb dX12_readSteal_120 (lv_topi (fun v100 ev100 => ?_))
      have ev100i : v100.toInt = (a1 + 3) := i_add ev100 e1 (by decide) (by omega) (by omega)
      refine lv_aload_n hx hb dX12_readSteal_121 rfl (lv_at hl 3 rfl) ?_
      refine lv_iconst (v := 1) hx hb dX12_readSteal_122 rfl ?_
      refine lv_bipush (v := 40) hx hb dX12_readSteal_123 rfl ?_
      refine q_goI (q_runV (As := [.int 1, .int 40]) (rest := [.int v100, .ref ca]) E hC99 hS99 (m_X12_count l X Γ H99 hC99 h0 g0 1 (a1 := 1) (by decide) 40 (a2 := 40) (by decide) ca gca uc (by omega) (by omega) (by omega) (by omega)) cw_X12_count cl_RX12_248 g0 ⟨rfl, rfl⟩ rfl hl.1 rfl (show _ ≤ _ from by simp [Value.category]) (by decide) dX12_readSteal_125) hS99 (fun v101 H101 locs101 hr101 hC101 hS101 => ?_)
      obtain ⟨hp101, hr101⟩ := hr101
      have hKp101 := hKp99.tr (hp101.mono rfl)
      obtain ⟨f101_0, f101_1, f101_2, f101_3, f101_4, f101_5, f101_6, f101_7⟩ := hr101
      refine q_cast E hC101 hS101 gca (a := (a1 + 3)) ev100i (by omega) (by omega) (cs_n244 (a := (a1 + 3)) (by omega) (by omega)) dX12_readSteal_128 (fun H102 locs102 hC102 hS102 U102 => ?_)
      have hKp102 := Kp.upD gca rfl rfl (fun _ => ⟨fun _ => nd4 (by omega) (by omega), fun _ => by unfold dpu; omega, fun _ => by unfold dpn; omega⟩) U102 hKp101
      have m103 : (sI H102 h0 (X.1.2 11 12)).toInt = (sI H101 h0 (X.1.2 11 12)).toInt := congrArg Int32.toInt (up_nI U102 (ne_k g0 gca (by decide)))
      have m104 : (sI H102 h0 (X.1.2 11 14)).toInt = (sI H101 h0 (X.1.2 11 14)).toInt := congrArg Int32.toInt (up_nI U102 (ne_k g0 gca (by decide)))
      have m105 := congrArg tk m104
      have m106 : (sI H102 h0 (X.1.2 11 16)).toInt = (sI H101 h0 (X.1.2 11 16)).toInt := congrArg Int32.toInt (up_nI U102 (ne_k g0 gca (by decide)))
      have e107 := up_I U102
      have hz8 := tk_nn (sI H102 h0 (X.1.2 11 14)).toInt
      exact ret H102 locs102 _ _ dX12_readSteal_129 ⟨hKp102, ⟨by omega, by omega, by omega, by omega⟩⟩ hC102 hS102
set_option maxRecDepth 100000 in
set_option maxHeartbeats 4000000 in
theorem m_X12_readTest (l : Launch) (X : xW) (Γ : Nat → Option Nat) (H0 : Heap) (hC0 : Conf X Γ H0) (h0 : Nat) (g0 : Γ h0 = some 11) (p1 : Int32) {a1 : Int} (e1 : p1.toInt = a1) (ca : Nat) (gca : Γ ca = some 64) (uc : ∀ a, Γ a = some 64 → a = ca) (r0 : 2324 ≤ a1) (r1 : a1 ≤ 2585) : Ctr l X Γ yX12_readTest cX12_readTest 3 none 4 [.ref h0, .int p1] H0 (QV X Γ (fun H1 => Kp X Γ [1, 6, 7, 8, 9, 10, 11, 12, 14, 16, 17] H0 H1 ∧ (((sI H0 h0 (X.1.2 11 16)).toInt ≤ (sI H1 h0 (X.1.2 11 16)).toInt) ∧ ((sI H0 h0 (X.1.2 11 16)).toInt < (sI H1 h0 (X.1.2 11 16)).toInt + tk (sI H1 h0 (X.1.2 11 14)).toInt + 2000 * (sI H1 h0 (X.1.2 11 12)).toInt) ∧ ((sI H0 h0 (X.1.2 11 12)).toInt ≤ 7 * (sI H1 h0 (X.1.2 11 12)).toInt) ∧ (0 ≤ (sI H1 h0 (X.1.2 11 12)).toInt)))) := by
  refine q_enterV (own := "SnowFortsModel") (by decide) rfl (Nat.le_of_ble_eq_true rfl) ?_
  intro p e s m args below meth c ls Qz E hl ret hS0
  have hx := E.1; have hb := E.2.1
  have hKp0 : Kp X Γ [1, 6, 7, 8, 9, 10, 11, 12, 14, 16, 17] H0 H0 := Kp.rf
  have hl : lv_has ls 3 [(0, .ref h0), (1, .int p1)] := hl
  have hz1 := f_bd hC0 g0 (ci := 11) (k := 16) rfl rfl
  have hz2 := f_bd hC0 g0 (ci := 11) (k := 12) rfl rfl
  refine lv_aload_n hx hb dX12_readTest_0 rfl (lv_at hl 0 rfl) ?_
  refine q_goIp (q_runV (As := []) (rest := []) E hC0 hS0 (m_X12_testWord l X Γ H0 hC0 h0 g0 ca gca uc) cw_X12_testWord cl_RX12_212 g0 ⟨rfl, rfl⟩ rfl hl.1 rfl (Nat.zero_le _) (by decide) dX12_readTest_1) hS0 (fun v21 locs21 hr21 hS21 => ?_)
  obtain ⟨f21_0, f21_1⟩ := hr21
  refine lv_istore_n hx hb dX12_readTest_4 rfl hl (by decide) rfl (fun ls hl => ?_)
  have hl : lv_has ls 3 [(2, .int v21), (0, .ref h0), (1, .int p1)] := hl
  refine lv_aload_n hx hb dX12_readTest_5 rfl (lv_at hl 1 rfl) ?_
  refine lv_iload_n hx hb dX12_readTest_6 rfl (lv_at hl 0 rfl) ?_
  refine q_if_lt hx hb (a := v21.toInt) rfl (tgt := 14) dX12_readTest_7 rfl (fun c22 => ?_) (fun c22 => ?_)
  · refine lv_iconst (v := 0) hx hb dX12_readTest_14 rfl ?_
    refine q_goV (q_runV (As := [.int 0]) (rest := []) E hC0 hS21 (m_X12_must l X Γ H0 hC0 h0 g0 0 (a1 := 0) (by decide) ca gca uc (by omega) (by omega)) cw_X12_must cl_RX12_244 g0 ⟨rfl, rfl⟩ rfl hl.1 rfl (Nat.zero_le _) (by decide) dX12_readTest_15) hS21 (fun H23 locs23 hr23 hC23 hS23 => ?_)
    obtain ⟨hp23, hr23⟩ := hr23
    have hKp23 := hKp0.tr (hp23.mono rfl)
    obtain ⟨f23_0, f23_1, f23_2, f23_3, f23_4⟩ := hr23
    refine lv_aload_n hx hb dX12_readTest_18 rfl (lv_at hl 1 rfl) ?_
    refine q_getC E hC23 g0 fa_RX12_35 uc dX12_readTest_19 ?_
    refine lv_iload_n hx hb dX12_readTest_22 rfl (lv_at hl 2 rfl) ?_
    refine lv_bipush (v := 6) hx hb dX12_readTest_23 rfl ?_
    refine lv_iadd hx hb dX12_readTest_25 (lv_topi (fun v24 ev24 => ?_))
    have ev24i : v24.toInt = (a1 + 6) := i_add ev24 e1 (by decide) (by omega) (by omega)
    refine lv_iload_n hx hb dX12_readTest_26 rfl (lv_at hl 0 rfl) ?_
    refine q_cast E hC23 hS23 gca (a := (a1 + 6)) ev24i (by omega) (by omega) (cs_n244 (a := (a1 + 6)) (by omega) (by omega)) dX12_readTest_27 (fun H25 locs25 hC25 hS25 U25 => ?_)
    have hKp25 := Kp.upD gca rfl rfl (fun _ => ⟨fun _ => nd4 (by omega) (by omega), fun _ => by unfold dpu; omega, fun _ => by unfold dpn; omega⟩) U25 hKp23
    have m26 : (sI H25 h0 (X.1.2 11 12)).toInt = (sI H23 h0 (X.1.2 11 12)).toInt := congrArg Int32.toInt (up_nI U25 (ne_k g0 gca (by decide)))
    have m27 : (sI H25 h0 (X.1.2 11 14)).toInt = (sI H23 h0 (X.1.2 11 14)).toInt := congrArg Int32.toInt (up_nI U25 (ne_k g0 gca (by decide)))
    have m28 := congrArg tk m27
    have m29 : (sI H25 h0 (X.1.2 11 16)).toInt = (sI H23 h0 (X.1.2 11 16)).toInt := congrArg Int32.toInt (up_nI U25 (ne_k g0 gca (by decide)))
    have e30 := up_I U25
    refine lv_iload_n hx hb dX12_readTest_28 rfl (lv_at hl 0 rfl) ?_
    refine lv_iconst (v := 1) hx hb dX12_readTest_29 rfl ?_
    refine q_icmp_ne hx hb (a := v21.toInt) (b := 1) rfl (by decide) (tgt := 46) dX12_readTest_30 rfl (fun c31 => ?_) (fun c31 => absurd c31 (by omega))
    refine lv_aload_n hx hb dX12_readTest_46 rfl (lv_at hl 1 rfl) ?_
    refine q_getI E hC25 g0 fa_RX12_218 dX12_readTest_47 (fun v32 ev32 lv32 uv32 => ?_)
    have m33 : (sI H25 h0 (X.1.2 11 12)).toInt = v32.toInt := (congrArg Int32.toInt ev32).trans rfl
    refine q_if_gt hx hb (a := v32.toInt) rfl (tgt := 58) dX12_readTest_50 rfl (fun c34 => ?_) (fun c34 => ?_)
    · have hz8 := tk_nn (sI H25 h0 (X.1.2 11 14)).toInt
      exact ret H25 locs25 _ _ dX12_readTest_58 ⟨hKp25, ⟨by omega, by omega, by omega, by omega⟩⟩ hC25 hS25
    · refine lv_iload_n hx hb dX12_readTest_53 rfl (lv_at hl 0 rfl) ?_
      refine lv_iconst (v := 2) hx hb dX12_readTest_54 rfl ?_
      refine q_icmp_ne hx hb (a := v21.toInt) (b := 2) rfl (by decide) (tgt := 59) dX12_readTest_55 rfl (fun c35 => ?_) (fun c35 => absurd c35 (by omega))
      refine lv_aload_n hx hb dX12_readTest_59 rfl (lv_at hl 1 rfl) ?_
      refine q_getC E hC25 g0 fa_RX12_35 uc dX12_readTest_60 ?_
      refine lv_iload_n hx hb dX12_readTest_63 rfl (lv_at hl 2 rfl) ?_
      refine lv_bipush (v := 7) hx hb dX12_readTest_64 rfl ?_
      refine lv_iadd hx hb dX12_readTest_66 (lv_topi (fun v36 ev36 => ?_))
      have ev36i : v36.toInt = (a1 + 7) := i_add ev36 e1 (by decide) (by omega) (by omega)
      refine lv_aload_n hx hb dX12_readTest_67 rfl (lv_at hl 1 rfl) ?_
      refine q_getI E hC25 g0 fa_RX12_120 dX12_readTest_68 (fun v37 ev37 _ _ => ?_)
      have m38 : (sI H25 h0 (X.1.2 11 14)).toInt = v37.toInt := (congrArg Int32.toInt ev37).trans rfl
      refine lv_iconst (v := 3) hx hb dX12_readTest_71 rfl ?_
      refine q_icmp_ne hx hb (a := v37.toInt) (b := 3) rfl (by decide) (tgt := 82) dX12_readTest_72 rfl (fun c39 => ?_) (fun c39 => ?_)
      · refine lv_iconst (v := 0) hx hb dX12_readTest_82 rfl ?_
        refine q_cast E hC25 hS25 gca (a := (a1 + 7)) ev36i (by omega) (by omega) (cs_n244 (a := (a1 + 7)) (by omega) (by omega)) dX12_readTest_83 (fun H40 locs40 hC40 hS40 U40 => ?_)
        have hKp40 := Kp.upD gca rfl rfl (fun _ => ⟨fun _ => nd4 (by omega) (by omega), fun _ => by unfold dpu; omega, fun _ => by unfold dpn; omega⟩) U40 hKp25
        have m41 : (sI H40 h0 (X.1.2 11 12)).toInt = (sI H25 h0 (X.1.2 11 12)).toInt := congrArg Int32.toInt (up_nI U40 (ne_k g0 gca (by decide)))
        have m42 : (sI H40 h0 (X.1.2 11 14)).toInt = (sI H25 h0 (X.1.2 11 14)).toInt := congrArg Int32.toInt (up_nI U40 (ne_k g0 gca (by decide)))
        have m43 := congrArg tk m42
        have m44 : (sI H40 h0 (X.1.2 11 16)).toInt = (sI H25 h0 (X.1.2 11 16)).toInt := congrArg Int32.toInt (up_nI U40 (ne_k g0 gca (by decide)))
        have e45 := up_I U40
        refine lv_aload_n hx hb dX12_readTest_84 rfl (lv_at hl 1 rfl) ?_
        refine lv_aload_n hx hb dX12_readTest_85 rfl (lv_at hl 1 rfl) ?_
        refine lv_bipush (v := 60) hx hb dX12_readTest_86 rfl ?_
        refine q_goIp (q_runV (As := [.int 60]) (rest := [.ref h0]) E hC40 hS40 (m_X12_isSign l X Γ H40 hC40 h0 g0 60 (a1 := 60) (by decide) ca gca uc) cw_X12_isSign cl_RX12_255 g0 ⟨rfl, rfl⟩ rfl hl.1 rfl (show _ ≤ _ from by simp [Value.category]) (by decide) dX12_readTest_88) hS40 (fun v46 locs46 hr46 hS46 => ?_)
        rcases hr46 with ⟨rfl, f46a⟩ | ⟨rfl, -⟩
        · refine q_if_ne hx hb (a := 1) (by decide) (tgt := 112) dX12_readTest_91 rfl (fun c47 => ?_) (fun c47 => absurd c47 (by omega))
          refine lv_iconst (v := 1) hx hb dX12_readTest_112 rfl ?_
          refine lv_goto (tgt := 117) hx hb dX12_readTest_113 rfl ?_
          refine q_goV (q_runV (As := [.int 1]) (rest := []) E hC40 hS46 (m_X12_must l X Γ H40 hC40 h0 g0 1 (a1 := 1) (by decide) ca gca uc (by omega) (by omega)) cw_X12_must cl_RX12_244 g0 ⟨rfl, rfl⟩ rfl hl.1 rfl (Nat.zero_le _) (by decide) dX12_readTest_117) hS46 (fun H48 locs48 hr48 hC48 hS48 => ?_)
          obtain ⟨hp48, hr48⟩ := hr48
          have hKp48 := hKp40.tr (hp48.mono rfl)
          obtain ⟨f48_0, f48_1, f48_2, f48_3, f48_4⟩ := hr48
          refine lv_aload_n hx hb dX12_readTest_120 rfl (lv_at hl 1 rfl) ?_
          refine q_getC E hC48 g0 fa_RX12_35 uc dX12_readTest_121 ?_
          refine lv_iload_n hx hb dX12_readTest_124 rfl (lv_at hl 2 rfl) ?_
          refine lv_iconst (v := 2) hx hb dX12_readTest_125 rfl ?_
          refine lv_iadd hx hb dX12_readTest_126 (lv_topi (fun v49 ev49 => ?_))
          have ev49i : v49.toInt = (a1 + 2) := i_add ev49 e1 (by decide) (by omega) (by omega)
          refine lv_aload_n hx hb dX12_readTest_127 rfl (lv_at hl 1 rfl) ?_
          refine lv_iconst (v := 0) hx hb dX12_readTest_128 rfl ?_
          refine lv_iload_n hx hb dX12_readTest_129 rfl (lv_at hl 0 rfl) ?_
          refine lv_iconst (v := 1) hx hb dX12_readTest_130 rfl ?_
          refine q_icmp_ne hx hb (a := v21.toInt) (b := 1) rfl (by decide) (tgt := 139) dX12_readTest_131 rfl (fun c50 => ?_) (fun c50 => absurd c50 (by omega))
          refine lv_sipush (v := 999) hx hb dX12_readTest_139 rfl ?_
          refine q_goI (q_runV (As := [.int 0, .int 999]) (rest := [.int v49, .ref ca]) E hC48 hS48 (m_X12_count l X Γ H48 hC48 h0 g0 0 (a1 := 0) (by decide) 999 (a2 := 999) (by decide) ca gca uc (by omega) (by omega) (by omega) (by omega)) cw_X12_count cl_RX12_248 g0 ⟨rfl, rfl⟩ rfl hl.1 rfl (show _ ≤ _ from by simp [Value.category]) (by decide) dX12_readTest_142) hS48 (fun v51 H51 locs51 hr51 hC51 hS51 => ?_)
          obtain ⟨hp51, hr51⟩ := hr51
          have hKp51 := hKp48.tr (hp51.mono rfl)
          obtain ⟨f51_0, f51_1, f51_2, f51_3, f51_4, f51_5, f51_6, f51_7⟩ := hr51
          refine q_cast E hC51 hS51 gca (a := (a1 + 2)) ev49i (by omega) (by omega) (cs_n244 (a := (a1 + 2)) (by omega) (by omega)) dX12_readTest_145 (fun H52 locs52 hC52 hS52 U52 => ?_)
          have hKp52 := Kp.upD gca rfl rfl (fun _ => ⟨fun _ => nd4 (by omega) (by omega), fun _ => by unfold dpu; omega, fun _ => by unfold dpn; omega⟩) U52 hKp51
          have m53 : (sI H52 h0 (X.1.2 11 12)).toInt = (sI H51 h0 (X.1.2 11 12)).toInt := congrArg Int32.toInt (up_nI U52 (ne_k g0 gca (by decide)))
          have m54 : (sI H52 h0 (X.1.2 11 14)).toInt = (sI H51 h0 (X.1.2 11 14)).toInt := congrArg Int32.toInt (up_nI U52 (ne_k g0 gca (by decide)))
          have m55 := congrArg tk m54
          have m56 : (sI H52 h0 (X.1.2 11 16)).toInt = (sI H51 h0 (X.1.2 11 16)).toInt := congrArg Int32.toInt (up_nI U52 (ne_k g0 gca (by decide)))
          have e57 := up_I U52
          have hz8 := tk_nn (sI H52 h0 (X.1.2 11 14)).toInt
          exact ret H52 locs52 _ _ dX12_readTest_146 ⟨hKp52, ⟨by omega, by omega, by omega, by omega⟩⟩ hC52 hS52
        · refine q_if_ne hx hb (a := 0) (by decide) (tgt := 112) dX12_readTest_91 rfl (fun c58 => absurd c58 (by omega)) (fun c58 => ?_)
          refine lv_aload_n hx hb dX12_readTest_94 rfl (lv_at hl 1 rfl) ?_
          refine lv_bipush (v := 62) hx hb dX12_readTest_95 rfl ?_
          refine q_goIp (q_runV (As := [.int 62]) (rest := [.ref h0]) E hC40 hS46 (m_X12_isSign l X Γ H40 hC40 h0 g0 62 (a1 := 62) (by decide) ca gca uc) cw_X12_isSign cl_RX12_255 g0 ⟨rfl, rfl⟩ rfl hl.1 rfl (show _ ≤ _ from by simp [Value.category]) (by decide) dX12_readTest_97) hS46 (fun v59 locs59 hr59 hS59 => ?_)
          rcases hr59 with ⟨rfl, f59a⟩ | ⟨rfl, -⟩
          · refine q_if_ne hx hb (a := 1) (by decide) (tgt := 112) dX12_readTest_100 rfl (fun c60 => ?_) (fun c60 => absurd c60 (by omega))
            refine lv_iconst (v := 1) hx hb dX12_readTest_112 rfl ?_
            refine lv_goto (tgt := 117) hx hb dX12_readTest_113 rfl ?_
            refine q_goV (q_runV (As := [.int 1]) (rest := []) E hC40 hS59 (m_X12_must l X Γ H40 hC40 h0 g0 1 (a1 := 1) (by decide) ca gca uc (by omega) (by omega)) cw_X12_must cl_RX12_244 g0 ⟨rfl, rfl⟩ rfl hl.1 rfl (Nat.zero_le _) (by decide) dX12_readTest_117) hS59 (fun H61 locs61 hr61 hC61 hS61 => ?_)
            obtain ⟨hp61, hr61⟩ := hr61
            have hKp61 := hKp40.tr (hp61.mono rfl)
            obtain ⟨f61_0, f61_1, f61_2, f61_3, f61_4⟩ := hr61
            refine lv_aload_n hx hb dX12_readTest_120 rfl (lv_at hl 1 rfl) ?_
            refine q_getC E hC61 g0 fa_RX12_35 uc dX12_readTest_121 ?_
            refine lv_iload_n hx hb dX12_readTest_124 rfl (lv_at hl 2 rfl) ?_
            refine lv_iconst (v := 2) hx hb dX12_readTest_125 rfl ?_
            refine lv_iadd hx hb dX12_readTest_126 (lv_topi (fun v62 ev62 => ?_))
            have ev62i : v62.toInt = (a1 + 2) := i_add ev62 e1 (by decide) (by omega) (by omega)
            refine lv_aload_n hx hb dX12_readTest_127 rfl (lv_at hl 1 rfl) ?_
            refine lv_iconst (v := 0) hx hb dX12_readTest_128 rfl ?_
            refine lv_iload_n hx hb dX12_readTest_129 rfl (lv_at hl 0 rfl) ?_
            refine lv_iconst (v := 1) hx hb dX12_readTest_130 rfl ?_
            refine q_icmp_ne hx hb (a := v21.toInt) (b := 1) rfl (by decide) (tgt := 139) dX12_readTest_131 rfl (fun c63 => ?_) (fun c63 => absurd c63 (by omega))
            refine lv_sipush (v := 999) hx hb dX12_readTest_139 rfl ?_
            refine q_goI (q_runV (As := [.int 0, .int 999]) (rest := [.int v62, .ref ca]) E hC61 hS61 (m_X12_count l X Γ H61 hC61 h0 g0 0 (a1 := 0) (by decide) 999 (a2 := 999) (by decide) ca gca uc (by omega) (by omega) (by omega) (by omega)) cw_X12_count cl_RX12_248 g0 ⟨rfl, rfl⟩ rfl hl.1 rfl (show _ ≤ _ from by simp [Value.category]) (by decide) dX12_readTest_142) hS61 (fun v64 H64 locs64 hr64 hC64 hS64 => ?_)
            obtain ⟨hp64, hr64⟩ := hr64
            have hKp64 := hKp61.tr (hp64.mono rfl)
            obtain ⟨f64_0, f64_1, f64_2, f64_3, f64_4, f64_5, f64_6, f64_7⟩ := hr64
            refine q_cast E hC64 hS64 gca (a := (a1 + 2)) ev62i (by omega) (by omega) (cs_n244 (a := (a1 + 2)) (by omega) (by omega)) dX12_readTest_145 (fun H65 locs65 hC65 hS65 U65 => ?_)
            have hKp65 := Kp.upD gca rfl rfl (fun _ => ⟨fun _ => nd4 (by omega) (by omega), fun _ => by unfold dpu; omega, fun _ => by unfold dpn; omega⟩) U65 hKp64
            have m66 : (sI H65 h0 (X.1.2 11 12)).toInt = (sI H64 h0 (X.1.2 11 12)).toInt := congrArg Int32.toInt (up_nI U65 (ne_k g0 gca (by decide)))
            have m67 : (sI H65 h0 (X.1.2 11 14)).toInt = (sI H64 h0 (X.1.2 11 14)).toInt := congrArg Int32.toInt (up_nI U65 (ne_k g0 gca (by decide)))
            have m68 := congrArg tk m67
            have m69 : (sI H65 h0 (X.1.2 11 16)).toInt = (sI H64 h0 (X.1.2 11 16)).toInt := congrArg Int32.toInt (up_nI U65 (ne_k g0 gca (by decide)))
            have e70 := up_I U65
            have hz8 := tk_nn (sI H65 h0 (X.1.2 11 14)).toInt
            exact ret H65 locs65 _ _ dX12_readTest_146 ⟨hKp65, ⟨by omega, by omega, by omega, by omega⟩⟩ hC65 hS65
          · refine q_if_ne hx hb (a := 0) (by decide) (tgt := 112) dX12_readTest_100 rfl (fun c71 => absurd c71 (by omega)) (fun c71 => ?_)
            refine lv_aload_n hx hb dX12_readTest_103 rfl (lv_at hl 1 rfl) ?_
            refine lv_bipush (v := 61) hx hb dX12_readTest_104 rfl ?_
            refine q_goIp (q_runV (As := [.int 61]) (rest := [.ref h0]) E hC40 hS59 (m_X12_isSign l X Γ H40 hC40 h0 g0 61 (a1 := 61) (by decide) ca gca uc) cw_X12_isSign cl_RX12_255 g0 ⟨rfl, rfl⟩ rfl hl.1 rfl (show _ ≤ _ from by simp [Value.category]) (by decide) dX12_readTest_106) hS59 (fun v72 locs72 hr72 hS72 => ?_)
            rcases hr72 with ⟨rfl, f72a⟩ | ⟨rfl, -⟩
            · refine q_if_eq hx hb (a := 1) (by decide) (tgt := 116) dX12_readTest_109 rfl (fun c73 => absurd c73 (by omega)) (fun c73 => ?_)
              refine lv_iconst (v := 1) hx hb dX12_readTest_112 rfl ?_
              refine lv_goto (tgt := 117) hx hb dX12_readTest_113 rfl ?_
              refine q_goV (q_runV (As := [.int 1]) (rest := []) E hC40 hS72 (m_X12_must l X Γ H40 hC40 h0 g0 1 (a1 := 1) (by decide) ca gca uc (by omega) (by omega)) cw_X12_must cl_RX12_244 g0 ⟨rfl, rfl⟩ rfl hl.1 rfl (Nat.zero_le _) (by decide) dX12_readTest_117) hS72 (fun H74 locs74 hr74 hC74 hS74 => ?_)
              obtain ⟨hp74, hr74⟩ := hr74
              have hKp74 := hKp40.tr (hp74.mono rfl)
              obtain ⟨f74_0, f74_1, f74_2, f74_3, f74_4⟩ := hr74
              refine lv_aload_n hx hb dX12_readTest_120 rfl (lv_at hl 1 rfl) ?_
              refine q_getC E hC74 g0 fa_RX12_35 uc dX12_readTest_121 ?_
              refine lv_iload_n hx hb dX12_readTest_124 rfl (lv_at hl 2 rfl) ?_
              refine lv_iconst (v := 2) hx hb dX12_readTest_125 rfl ?_
              refine lv_iadd hx hb dX12_readTest_126 (lv_topi (fun v75 ev75 => ?_))
              have ev75i : v75.toInt = (a1 + 2) := i_add ev75 e1 (by decide) (by omega) (by omega)
              refine lv_aload_n hx hb dX12_readTest_127 rfl (lv_at hl 1 rfl) ?_
              refine lv_iconst (v := 0) hx hb dX12_readTest_128 rfl ?_
              refine lv_iload_n hx hb dX12_readTest_129 rfl (lv_at hl 0 rfl) ?_
              refine lv_iconst (v := 1) hx hb dX12_readTest_130 rfl ?_
              refine q_icmp_ne hx hb (a := v21.toInt) (b := 1) rfl (by decide) (tgt := 139) dX12_readTest_131 rfl (fun c76 => ?_) (fun c76 => absurd c76 (by omega))
              refine lv_sipush (v := 999) hx hb dX12_readTest_139 rfl ?_
              refine q_goI (q_runV (As := [.int 0, .int 999]) (rest := [.int v75, .ref ca]) E hC74 hS74 (m_X12_count l X Γ H74 hC74 h0 g0 0 (a1 := 0) (by decide) 999 (a2 := 999) (by decide) ca gca uc (by omega) (by omega) (by omega) (by omega)) cw_X12_count cl_RX12_248 g0 ⟨rfl, rfl⟩ rfl hl.1 rfl (show _ ≤ _ from by simp [Value.category]) (by decide) dX12_readTest_142) hS74 (fun v77 H77 locs77 hr77 hC77 hS77 => ?_)
              obtain ⟨hp77, hr77⟩ := hr77
              have hKp77 := hKp74.tr (hp77.mono rfl)
              obtain ⟨f77_0, f77_1, f77_2, f77_3, f77_4, f77_5, f77_6, f77_7⟩ := hr77
              refine q_cast E hC77 hS77 gca (a := (a1 + 2)) ev75i (by omega) (by omega) (cs_n244 (a := (a1 + 2)) (by omega) (by omega)) dX12_readTest_145 (fun H78 locs78 hC78 hS78 U78 => ?_)
              have hKp78 := Kp.upD gca rfl rfl (fun _ => ⟨fun _ => nd4 (by omega) (by omega), fun _ => by unfold dpu; omega, fun _ => by unfold dpn; omega⟩) U78 hKp77
              have m79 : (sI H78 h0 (X.1.2 11 12)).toInt = (sI H77 h0 (X.1.2 11 12)).toInt := congrArg Int32.toInt (up_nI U78 (ne_k g0 gca (by decide)))
              have m80 : (sI H78 h0 (X.1.2 11 14)).toInt = (sI H77 h0 (X.1.2 11 14)).toInt := congrArg Int32.toInt (up_nI U78 (ne_k g0 gca (by decide)))
              have m81 := congrArg tk m80
              have m82 : (sI H78 h0 (X.1.2 11 16)).toInt = (sI H77 h0 (X.1.2 11 16)).toInt := congrArg Int32.toInt (up_nI U78 (ne_k g0 gca (by decide)))
              have e83 := up_I U78
              have hz8 := tk_nn (sI H78 h0 (X.1.2 11 14)).toInt
              exact ret H78 locs78 _ _ dX12_readTest_146 ⟨hKp78, ⟨by omega, by omega, by omega, by omega⟩⟩ hC78 hS78
            · refine q_if_eq hx hb (a := 0) (by decide) (tgt := 116) dX12_readTest_109 rfl (fun c84 => ?_) (fun c84 => absurd c84 (by omega))
              refine lv_iconst (v := 0) hx hb dX12_readTest_116 rfl ?_
              refine q_goV (q_runV (As := [.int 0]) (rest := []) E hC40 hS72 (m_X12_must l X Γ H40 hC40 h0 g0 0 (a1 := 0) (by decide) ca gca uc (by omega) (by omega)) cw_X12_must cl_RX12_244 g0 ⟨rfl, rfl⟩ rfl hl.1 rfl (Nat.zero_le _) (by decide) dX12_readTest_117) hS72 (fun H85 locs85 hr85 hC85 hS85 => ?_)
              obtain ⟨hp85, hr85⟩ := hr85
              have hKp85 := hKp40.tr (hp85.mono rfl)
              obtain ⟨f85_0, f85_1, f85_2, f85_3, f85_4⟩ := hr85
              refine lv_aload_n hx hb dX12_readTest_120 rfl (lv_at hl 1 rfl) ?_
              refine q_getC E hC85 g0 fa_RX12_35 uc dX12_readTest_121 ?_
              refine lv_iload_n hx hb dX12_readTest_124 rfl (lv_at hl 2 rfl) ?_
              refine lv_iconst (v := 2) hx hb dX12_readTest_125 rfl ?_
              refine lv_iadd hx hb dX12_readTest_126 (lv_topi (fun v86 ev86 => ?_))
              have ev86i : v86.toInt = (a1 + 2) := i_add ev86 e1 (by decide) (by omega) (by omega)
              refine lv_aload_n hx hb dX12_readTest_127 rfl (lv_at hl 1 rfl) ?_
              refine lv_iconst (v := 0) hx hb dX12_readTest_128 rfl ?_
              refine lv_iload_n hx hb dX12_readTest_129 rfl (lv_at hl 0 rfl) ?_
              refine lv_iconst (v := 1) hx hb dX12_readTest_130 rfl ?_
              refine q_icmp_ne hx hb (a := v21.toInt) (b := 1) rfl (by decide) (tgt := 139) dX12_readTest_131 rfl (fun c87 => ?_) (fun c87 => absurd c87 (by omega))
              refine lv_sipush (v := 999) hx hb dX12_readTest_139 rfl ?_
              refine q_goI (q_runV (As := [.int 0, .int 999]) (rest := [.int v86, .ref ca]) E hC85 hS85 (m_X12_count l X Γ H85 hC85 h0 g0 0 (a1 := 0) (by decide) 999 (a2 := 999) (by decide) ca gca uc (by omega) (by omega) (by omega) (by omega)) cw_X12_count cl_RX12_248 g0 ⟨rfl, rfl⟩ rfl hl.1 rfl (show _ ≤ _ from by simp [Value.category]) (by decide) dX12_readTest_142) hS85 (fun v88 H88 locs88 hr88 hC88 hS88 => ?_)
              obtain ⟨hp88, hr88⟩ := hr88
              have hKp88 := hKp85.tr (hp88.mono rfl)
              obtain ⟨f88_0, f88_1, f88_2, f88_3, f88_4, f88_5, f88_6, f88_7⟩ := hr88
              refine q_cast E hC88 hS88 gca (a := (a1 + 2)) ev86i (by omega) (by omega) (cs_n244 (a := (a1 + 2)) (by omega) (by omega)) dX12_readTest_145 (fun H89 locs89 hC89 hS89 U89 => ?_)
              have hKp89 := Kp.upD gca rfl rfl (fun _ => ⟨fun _ => nd4 (by omega) (by omega), fun _ => by unfold dpu; omega, fun _ => by unfold dpn; omega⟩) U89 hKp88
              have m90 : (sI H89 h0 (X.1.2 11 12)).toInt = (sI H88 h0 (X.1.2 11 12)).toInt := congrArg Int32.toInt (up_nI U89 (ne_k g0 gca (by decide)))
              have m91 : (sI H89 h0 (X.1.2 11 14)).toInt = (sI H88 h0 (X.1.2 11 14)).toInt := congrArg Int32.toInt (up_nI U89 (ne_k g0 gca (by decide)))
              have m92 := congrArg tk m91
              have m93 : (sI H89 h0 (X.1.2 11 16)).toInt = (sI H88 h0 (X.1.2 11 16)).toInt := congrArg Int32.toInt (up_nI U89 (ne_k g0 gca (by decide)))
              have e94 := up_I U89
              have hz8 := tk_nn (sI H89 h0 (X.1.2 11 14)).toInt
              exact ret H89 locs89 _ _ dX12_readTest_146 ⟨hKp89, ⟨by omega, by omega, by omega, by omega⟩⟩ hC89 hS89
      · refine lv_aload_n hx hb dX12_readTest_75 rfl (lv_at hl 1 rfl) ?_
        refine q_getI E hC25 g0 fa_RX12_139 dX12_readTest_76 (fun v95 ev95 _ _ => ?_)
        refine lv_goto (tgt := 83) hx hb dX12_readTest_79 rfl ?_
        refine q_cast E hC25 hS25 gca (a := (a1 + 7)) ev36i (by omega) (by omega) (cs_n244 (a := (a1 + 7)) (by omega) (by omega)) dX12_readTest_83 (fun H96 locs96 hC96 hS96 U96 => ?_)
        have hKp96 := Kp.upD gca rfl rfl (fun _ => ⟨fun _ => nd4 (by omega) (by omega), fun _ => by unfold dpu; omega, fun _ => by unfold dpn; omega⟩) U96 hKp25
        have m97 : (sI H96 h0 (X.1.2 11 12)).toInt = (sI H25 h0 (X.1.2 11 12)).toInt := congrArg Int32.toInt (up_nI U96 (ne_k g0 gca (by decide)))
        have m98 : (sI H96 h0 (X.1.2 11 14)).toInt = (sI H25 h0 (X.1.2 11 14)).toInt := congrArg Int32.toInt (up_nI U96 (ne_k g0 gca (by decide)))
        have m99 := congrArg tk m98
        have m100 : (sI H96 h0 (X.1.2 11 16)).toInt = (sI H25 h0 (X.1.2 11 16)).toInt := congrArg Int32.toInt (up_nI U96 (ne_k g0 gca (by decide)))
        have e101 := up_I U96
        refine lv_aload_n hx hb dX12_readTest_84 rfl (lv_at hl 1 rfl) ?_
        refine lv_aload_n hx hb dX12_readTest_85 rfl (lv_at hl 1 rfl) ?_
        refine lv_bipush (v := 60) hx hb dX12_readTest_86 rfl ?_
        refine q_goIp (q_runV (As := [.int 60]) (rest := [.ref h0]) E hC96 hS96 (m_X12_isSign l X Γ H96 hC96 h0 g0 60 (a1 := 60) (by decide) ca gca uc) cw_X12_isSign cl_RX12_255 g0 ⟨rfl, rfl⟩ rfl hl.1 rfl (show _ ≤ _ from by simp [Value.category]) (by decide) dX12_readTest_88) hS96 (fun v102 locs102 hr102 hS102 => ?_)
        rcases hr102 with ⟨rfl, f102a⟩ | ⟨rfl, -⟩
        · refine q_if_ne hx hb (a := 1) (by decide) (tgt := 112) dX12_readTest_91 rfl (fun c103 => ?_) (fun c103 => absurd c103 (by omega))
          refine lv_iconst (v := 1) hx hb dX12_readTest_112 rfl ?_
          refine lv_goto (tgt := 117) hx hb dX12_readTest_113 rfl ?_
          refine q_goV (q_runV (As := [.int 1]) (rest := []) E hC96 hS102 (m_X12_must l X Γ H96 hC96 h0 g0 1 (a1 := 1) (by decide) ca gca uc (by omega) (by omega)) cw_X12_must cl_RX12_244 g0 ⟨rfl, rfl⟩ rfl hl.1 rfl (Nat.zero_le _) (by decide) dX12_readTest_117) hS102 (fun H104 locs104 hr104 hC104 hS104 => ?_)
          obtain ⟨hp104, hr104⟩ := hr104
          have hKp104 := hKp96.tr (hp104.mono rfl)
          obtain ⟨f104_0, f104_1, f104_2, f104_3, f104_4⟩ := hr104
          refine lv_aload_n hx hb dX12_readTest_120 rfl (lv_at hl 1 rfl) ?_
          refine q_getC E hC104 g0 fa_RX12_35 uc dX12_readTest_121 ?_
          refine lv_iload_n hx hb dX12_readTest_124 rfl (lv_at hl 2 rfl) ?_
          refine lv_iconst (v := 2) hx hb dX12_readTest_125 rfl ?_
          refine lv_iadd hx hb dX12_readTest_126 (lv_topi (fun v105 ev105 => ?_))
          have ev105i : v105.toInt = (a1 + 2) := i_add ev105 e1 (by decide) (by omega) (by omega)
          refine lv_aload_n hx hb dX12_readTest_127 rfl (lv_at hl 1 rfl) ?_
          refine lv_iconst (v := 0) hx hb dX12_readTest_128 rfl ?_
          refine lv_iload_n hx hb dX12_readTest_129 rfl (lv_at hl 0 rfl) ?_
          refine lv_iconst (v := 1) hx hb dX12_readTest_130 rfl ?_
          refine q_icmp_ne hx hb (a := v21.toInt) (b := 1) rfl (by decide) (tgt := 139) dX12_readTest_131 rfl (fun c106 => ?_) (fun c106 => absurd c106 (by omega))
          refine lv_sipush (v := 999) hx hb dX12_readTest_139 rfl ?_
          refine q_goI (q_runV (As := [.int 0, .int 999]) (rest := [.int v105, .ref ca]) E hC104 hS104 (m_X12_count l X Γ H104 hC104 h0 g0 0 (a1 := 0) (by decide) 999 (a2 := 999) (by decide) ca gca uc (by omega) (by omega) (by omega) (by omega)) cw_X12_count cl_RX12_248 g0 ⟨rfl, rfl⟩ rfl hl.1 rfl (show _ ≤ _ from by simp [Value.category]) (by decide) dX12_readTest_142) hS104 (fun v107 H107 locs107 hr107 hC107 hS107 => ?_)
          obtain ⟨hp107, hr107⟩ := hr107
          have hKp107 := hKp104.tr (hp107.mono rfl)
          obtain ⟨f107_0, f107_1, f107_2, f107_3, f107_4, f107_5, f107_6, f107_7⟩ := hr107
          refine q_cast E hC107 hS107 gca (a := (a1 + 2)) ev105i (by omega) (by omega) (cs_n244 (a := (a1 + 2)) (by omega) (by omega)) dX12_readTest_145 (fun H108 locs108 hC108 hS108 U108 => ?_)
          have hKp108 := Kp.upD gca rfl rfl (fun _ => ⟨fun _ => nd4 (by omega) (by omega), fun _ => by unfold dpu; omega, fun _ => by unfold dpn; omega⟩) U108 hKp107
          have m109 : (sI H108 h0 (X.1.2 11 12)).toInt = (sI H107 h0 (X.1.2 11 12)).toInt := congrArg Int32.toInt (up_nI U108 (ne_k g0 gca (by decide)))
          have m110 : (sI H108 h0 (X.1.2 11 14)).toInt = (sI H107 h0 (X.1.2 11 14)).toInt := congrArg Int32.toInt (up_nI U108 (ne_k g0 gca (by decide)))
          have m111 := congrArg tk m110
          have m112 : (sI H108 h0 (X.1.2 11 16)).toInt = (sI H107 h0 (X.1.2 11 16)).toInt := congrArg Int32.toInt (up_nI U108 (ne_k g0 gca (by decide)))
          have e113 := up_I U108
          have hz8 := tk_nn (sI H108 h0 (X.1.2 11 14)).toInt
          exact ret H108 locs108 _ _ dX12_readTest_146 ⟨hKp108, ⟨by omega, by omega, by omega, by omega⟩⟩ hC108 hS108
        · refine q_if_ne hx hb (a := 0) (by decide) (tgt := 112) dX12_readTest_91 rfl (fun c114 => absurd c114 (by omega)) (fun c114 => ?_)
          refine lv_aload_n hx hb dX12_readTest_94 rfl (lv_at hl 1 rfl) ?_
          refine lv_bipush (v := 62) hx hb dX12_readTest_95 rfl ?_
          refine q_goIp (q_runV (As := [.int 62]) (rest := [.ref h0]) E hC96 hS102 (m_X12_isSign l X Γ H96 hC96 h0 g0 62 (a1 := 62) (by decide) ca gca uc) cw_X12_isSign cl_RX12_255 g0 ⟨rfl, rfl⟩ rfl hl.1 rfl (show _ ≤ _ from by simp [Value.category]) (by decide) dX12_readTest_97) hS102 (fun v115 locs115 hr115 hS115 => ?_)
          rcases hr115 with ⟨rfl, f115a⟩ | ⟨rfl, -⟩
          · refine q_if_ne hx hb (a := 1) (by decide) (tgt := 112) dX12_readTest_100 rfl (fun c116 => ?_) (fun c116 => absurd c116 (by omega))
            refine lv_iconst (v := 1) hx hb dX12_readTest_112 rfl ?_
            refine lv_goto (tgt := 117) hx hb dX12_readTest_113 rfl ?_
            refine q_goV (q_runV (As := [.int 1]) (rest := []) E hC96 hS115 (m_X12_must l X Γ H96 hC96 h0 g0 1 (a1 := 1) (by decide) ca gca uc (by omega) (by omega)) cw_X12_must cl_RX12_244 g0 ⟨rfl, rfl⟩ rfl hl.1 rfl (Nat.zero_le _) (by decide) dX12_readTest_117) hS115 (fun H117 locs117 hr117 hC117 hS117 => ?_)
            obtain ⟨hp117, hr117⟩ := hr117
            have hKp117 := hKp96.tr (hp117.mono rfl)
            obtain ⟨f117_0, f117_1, f117_2, f117_3, f117_4⟩ := hr117
            refine lv_aload_n hx hb dX12_readTest_120 rfl (lv_at hl 1 rfl) ?_
            refine q_getC E hC117 g0 fa_RX12_35 uc dX12_readTest_121 ?_
            refine lv_iload_n hx hb dX12_readTest_124 rfl (lv_at hl 2 rfl) ?_
            refine lv_iconst (v := 2) hx hb dX12_readTest_125 rfl ?_
            refine lv_iadd hx hb dX12_readTest_126 (lv_topi (fun v118 ev118 => ?_))
            have ev118i : v118.toInt = (a1 + 2) := i_add ev118 e1 (by decide) (by omega) (by omega)
            refine lv_aload_n hx hb dX12_readTest_127 rfl (lv_at hl 1 rfl) ?_
            refine lv_iconst (v := 0) hx hb dX12_readTest_128 rfl ?_
            refine lv_iload_n hx hb dX12_readTest_129 rfl (lv_at hl 0 rfl) ?_
            refine lv_iconst (v := 1) hx hb dX12_readTest_130 rfl ?_
            refine q_icmp_ne hx hb (a := v21.toInt) (b := 1) rfl (by decide) (tgt := 139) dX12_readTest_131 rfl (fun c119 => ?_) (fun c119 => absurd c119 (by omega))
            refine lv_sipush (v := 999) hx hb dX12_readTest_139 rfl ?_
            refine q_goI (q_runV (As := [.int 0, .int 999]) (rest := [.int v118, .ref ca]) E hC117 hS117 (m_X12_count l X Γ H117 hC117 h0 g0 0 (a1 := 0) (by decide) 999 (a2 := 999) (by decide) ca gca uc (by omega) (by omega) (by omega) (by omega)) cw_X12_count cl_RX12_248 g0 ⟨rfl, rfl⟩ rfl hl.1 rfl (show _ ≤ _ from by simp [Value.category]) (by decide) dX12_readTest_142) hS117 (fun v120 H120 locs120 hr120 hC120 hS120 => ?_)
            obtain ⟨hp120, hr120⟩ := hr120
            have hKp120 := hKp117.tr (hp120.mono rfl)
            obtain ⟨f120_0, f120_1, f120_2, f120_3, f120_4, f120_5, f120_6, f120_7⟩ := hr120
            refine q_cast E hC120 hS120 gca (a := (a1 + 2)) ev118i (by omega) (by omega) (cs_n244 (a := (a1 + 2)) (by omega) (by omega)) dX12_readTest_145 (fun H121 locs121 hC121 hS121 U121 => ?_)
            have hKp121 := Kp.upD gca rfl rfl (fun _ => ⟨fun _ => nd4 (by omega) (by omega), fun _ => by unfold dpu; omega, fun _ => by unfold dpn; omega⟩) U121 hKp120
            have m122 : (sI H121 h0 (X.1.2 11 12)).toInt = (sI H120 h0 (X.1.2 11 12)).toInt := congrArg Int32.toInt (up_nI U121 (ne_k g0 gca (by decide)))
            have m123 : (sI H121 h0 (X.1.2 11 14)).toInt = (sI H120 h0 (X.1.2 11 14)).toInt := congrArg Int32.toInt (up_nI U121 (ne_k g0 gca (by decide)))
            have m124 := congrArg tk m123
            have m125 : (sI H121 h0 (X.1.2 11 16)).toInt = (sI H120 h0 (X.1.2 11 16)).toInt := congrArg Int32.toInt (up_nI U121 (ne_k g0 gca (by decide)))
            have e126 := up_I U121
            have hz8 := tk_nn (sI H121 h0 (X.1.2 11 14)).toInt
            exact ret H121 locs121 _ _ dX12_readTest_146 ⟨hKp121, ⟨by omega, by omega, by omega, by omega⟩⟩ hC121 hS121
          · refine q_if_ne hx hb (a := 0) (by decide) (tgt := 112) dX12_readTest_100 rfl (fun c127 => absurd c127 (by omega)) (fun c127 => ?_)
            refine lv_aload_n hx hb dX12_readTest_103 rfl (lv_at hl 1 rfl) ?_
            refine lv_bipush (v := 61) hx hb dX12_readTest_104 rfl ?_
            refine q_goIp (q_runV (As := [.int 61]) (rest := [.ref h0]) E hC96 hS115 (m_X12_isSign l X Γ H96 hC96 h0 g0 61 (a1 := 61) (by decide) ca gca uc) cw_X12_isSign cl_RX12_255 g0 ⟨rfl, rfl⟩ rfl hl.1 rfl (show _ ≤ _ from by simp [Value.category]) (by decide) dX12_readTest_106) hS115 (fun v128 locs128 hr128 hS128 => ?_)
            rcases hr128 with ⟨rfl, f128a⟩ | ⟨rfl, -⟩
            · refine q_if_eq hx hb (a := 1) (by decide) (tgt := 116) dX12_readTest_109 rfl (fun c129 => absurd c129 (by omega)) (fun c129 => ?_)
              refine lv_iconst (v := 1) hx hb dX12_readTest_112 rfl ?_
              refine lv_goto (tgt := 117) hx hb dX12_readTest_113 rfl ?_
              refine q_goV (q_runV (As := [.int 1]) (rest := []) E hC96 hS128 (m_X12_must l X Γ H96 hC96 h0 g0 1 (a1 := 1) (by decide) ca gca uc (by omega) (by omega)) cw_X12_must cl_RX12_244 g0 ⟨rfl, rfl⟩ rfl hl.1 rfl (Nat.zero_le _) (by decide) dX12_readTest_117) hS128 (fun H130 locs130 hr130 hC130 hS130 => ?_)
              obtain ⟨hp130, hr130⟩ := hr130
              have hKp130 := hKp96.tr (hp130.mono rfl)
              obtain ⟨f130_0, f130_1, f130_2, f130_3, f130_4⟩ := hr130
              refine lv_aload_n hx hb dX12_readTest_120 rfl (lv_at hl 1 rfl) ?_
              refine q_getC E hC130 g0 fa_RX12_35 uc dX12_readTest_121 ?_
              refine lv_iload_n hx hb dX12_readTest_124 rfl (lv_at hl 2 rfl) ?_
              refine lv_iconst (v := 2) hx hb dX12_readTest_125 rfl ?_
              refine lv_iadd hx hb dX12_readTest_126 (lv_topi (fun v131 ev131 => ?_))
              have ev131i : v131.toInt = (a1 + 2) := i_add ev131 e1 (by decide) (by omega) (by omega)
              refine lv_aload_n hx hb dX12_readTest_127 rfl (lv_at hl 1 rfl) ?_
              refine lv_iconst (v := 0) hx hb dX12_readTest_128 rfl ?_
              refine lv_iload_n hx hb dX12_readTest_129 rfl (lv_at hl 0 rfl) ?_
              refine lv_iconst (v := 1) hx hb dX12_readTest_130 rfl ?_
              refine q_icmp_ne hx hb (a := v21.toInt) (b := 1) rfl (by decide) (tgt := 139) dX12_readTest_131 rfl (fun c132 => ?_) (fun c132 => absurd c132 (by omega))
              refine lv_sipush (v := 999) hx hb dX12_readTest_139 rfl ?_
              refine q_goI (q_runV (As := [.int 0, .int 999]) (rest := [.int v131, .ref ca]) E hC130 hS130 (m_X12_count l X Γ H130 hC130 h0 g0 0 (a1 := 0) (by decide) 999 (a2 := 999) (by decide) ca gca uc (by omega) (by omega) (by omega) (by omega)) cw_X12_count cl_RX12_248 g0 ⟨rfl, rfl⟩ rfl hl.1 rfl (show _ ≤ _ from by simp [Value.category]) (by decide) dX12_readTest_142) hS130 (fun v133 H133 locs133 hr133 hC133 hS133 => ?_)
              obtain ⟨hp133, hr133⟩ := hr133
              have hKp133 := hKp130.tr (hp133.mono rfl)
              obtain ⟨f133_0, f133_1, f133_2, f133_3, f133_4, f133_5, f133_6, f133_7⟩ := hr133
              refine q_cast E hC133 hS133 gca (a := (a1 + 2)) ev131i (by omega) (by omega) (cs_n244 (a := (a1 + 2)) (by omega) (by omega)) dX12_readTest_145 (fun H134 locs134 hC134 hS134 U134 => ?_)
              have hKp134 := Kp.upD gca rfl rfl (fun _ => ⟨fun _ => nd4 (by omega) (by omega), fun _ => by unfold dpu; omega, fun _ => by unfold dpn; omega⟩) U134 hKp133
              have m135 : (sI H134 h0 (X.1.2 11 12)).toInt = (sI H133 h0 (X.1.2 11 12)).toInt := congrArg Int32.toInt (up_nI U134 (ne_k g0 gca (by decide)))
              have m136 : (sI H134 h0 (X.1.2 11 14)).toInt = (sI H133 h0 (X.1.2 11 14)).toInt := congrArg Int32.toInt (up_nI U134 (ne_k g0 gca (by decide)))
              have m137 := congrArg tk m136
              have m138 : (sI H134 h0 (X.1.2 11 16)).toInt = (sI H133 h0 (X.1.2 11 16)).toInt := congrArg Int32.toInt (up_nI U134 (ne_k g0 gca (by decide)))
              have e139 := up_I U134
              have hz8 := tk_nn (sI H134 h0 (X.1.2 11 14)).toInt
              exact ret H134 locs134 _ _ dX12_readTest_146 ⟨hKp134, ⟨by omega, by omega, by omega, by omega⟩⟩ hC134 hS134
            · refine q_if_eq hx hb (a := 0) (by decide) (tgt := 116) dX12_readTest_109 rfl (fun c140 => ?_) (fun c140 => absurd c140 (by omega))
              refine lv_iconst (v := 0) hx hb dX12_readTest_116 rfl ?_
              refine q_goV (q_runV (As := [.int 0]) (rest := []) E hC96 hS128 (m_X12_must l X Γ H96 hC96 h0 g0 0 (a1 := 0) (by decide) ca gca uc (by omega) (by omega)) cw_X12_must cl_RX12_244 g0 ⟨rfl, rfl⟩ rfl hl.1 rfl (Nat.zero_le _) (by decide) dX12_readTest_117) hS128 (fun H141 locs141 hr141 hC141 hS141 => ?_)
              obtain ⟨hp141, hr141⟩ := hr141
              have hKp141 := hKp96.tr (hp141.mono rfl)
              obtain ⟨f141_0, f141_1, f141_2, f141_3, f141_4⟩ := hr141
              refine lv_aload_n hx hb dX12_readTest_120 rfl (lv_at hl 1 rfl) ?_
              refine q_getC E hC141 g0 fa_RX12_35 uc dX12_readTest_121 ?_
              refine lv_iload_n hx hb dX12_readTest_124 rfl (lv_at hl 2 rfl) ?_
              refine lv_iconst (v := 2) hx hb dX12_readTest_125 rfl ?_
              refine lv_iadd hx hb dX12_readTest_126 (lv_topi (fun v142 ev142 => ?_))
              have ev142i : v142.toInt = (a1 + 2) := i_add ev142 e1 (by decide) (by omega) (by omega)
              refine lv_aload_n hx hb dX12_readTest_127 rfl (lv_at hl 1 rfl) ?_
              refine lv_iconst (v := 0) hx hb dX12_readTest_128 rfl ?_
              refine lv_iload_n hx hb dX12_readTest_129 rfl (lv_at hl 0 rfl) ?_
              refine lv_iconst (v := 1) hx hb dX12_readTest_130 rfl ?_
              refine q_icmp_ne hx hb (a := v21.toInt) (b := 1) rfl (by decide) (tgt := 139) dX12_readTest_131 rfl (fun c143 => ?_) (fun c143 => absurd c143 (by omega))
              refine lv_sipush (v := 999) hx hb dX12_readTest_139 rfl ?_
              refine q_goI (q_runV (As := [.int 0, .int 999]) (rest := [.int v142, .ref ca]) E hC141 hS141 (m_X12_count l X Γ H141 hC141 h0 g0 0 (a1 := 0) (by decide) 999 (a2 := 999) (by decide) ca gca uc (by omega) (by omega) (by omega) (by omega)) cw_X12_count cl_RX12_248 g0 ⟨rfl, rfl⟩ rfl hl.1 rfl (show _ ≤ _ from by simp [Value.category]) (by decide) dX12_readTest_142) hS141 (fun v144 H144 locs144 hr144 hC144 hS144 => ?_)
              obtain ⟨hp144, hr144⟩ := hr144
              have hKp144 := hKp141.tr (hp144.mono rfl)
              obtain ⟨f144_0, f144_1, f144_2, f144_3, f144_4, f144_5, f144_6, f144_7⟩ := hr144
              refine q_cast E hC144 hS144 gca (a := (a1 + 2)) ev142i (by omega) (by omega) (cs_n244 (a := (a1 + 2)) (by omega) (by omega)) dX12_readTest_145 (fun H145 locs145 hC145 hS145 U145 => ?_)
              have hKp145 := Kp.upD gca rfl rfl (fun _ => ⟨fun _ => nd4 (by omega) (by omega), fun _ => by unfold dpu; omega, fun _ => by unfold dpn; omega⟩) U145 hKp144
              have m146 : (sI H145 h0 (X.1.2 11 12)).toInt = (sI H144 h0 (X.1.2 11 12)).toInt := congrArg Int32.toInt (up_nI U145 (ne_k g0 gca (by decide)))
              have m147 : (sI H145 h0 (X.1.2 11 14)).toInt = (sI H144 h0 (X.1.2 11 14)).toInt := congrArg Int32.toInt (up_nI U145 (ne_k g0 gca (by decide)))
              have m148 := congrArg tk m147
              have m149 : (sI H145 h0 (X.1.2 11 16)).toInt = (sI H144 h0 (X.1.2 11 16)).toInt := congrArg Int32.toInt (up_nI U145 (ne_k g0 gca (by decide)))
              have e150 := up_I U145
              have hz8 := tk_nn (sI H145 h0 (X.1.2 11 14)).toInt
              exact ret H145 locs145 _ _ dX12_readTest_146 ⟨hKp145, ⟨by omega, by omega, by omega, by omega⟩⟩ hC145 hS145
  · refine lv_iconst (v := 1) hx hb dX12_readTest_10 rfl ?_
    refine lv_goto (tgt := 15) hx hb dX12_readTest_11 rfl ?_
    refine q_goV (q_runV (As := [.int 1]) (rest := []) E hC0 hS21 (m_X12_must l X Γ H0 hC0 h0 g0 1 (a1 := 1) (by decide) ca gca uc (by omega) (by omega)) cw_X12_must cl_RX12_244 g0 ⟨rfl, rfl⟩ rfl hl.1 rfl (Nat.zero_le _) (by decide) dX12_readTest_15) hS21 (fun H151 locs151 hr151 hC151 hS151 => ?_)
    obtain ⟨hp151, hr151⟩ := hr151
    have hKp151 := hKp0.tr (hp151.mono rfl)
    obtain ⟨f151_0, f151_1, f151_2, f151_3, f151_4⟩ := hr151
    refine lv_aload_n hx hb dX12_readTest_18 rfl (lv_at hl 1 rfl) ?_
    refine q_getC E hC151 g0 fa_RX12_35 uc dX12_readTest_19 ?_
    refine lv_iload_n hx hb dX12_readTest_22 rfl (lv_at hl 2 rfl) ?_
    refine lv_bipush (v := 6) hx hb dX12_readTest_23 rfl ?_
    refine lv_iadd hx hb dX12_readTest_25 (lv_topi (fun v152 ev152 => ?_))
    have ev152i : v152.toInt = (a1 + 6) := i_add ev152 e1 (by decide) (by omega) (by omega)
    refine lv_iload_n hx hb dX12_readTest_26 rfl (lv_at hl 0 rfl) ?_
    refine q_cast E hC151 hS151 gca (a := (a1 + 6)) ev152i (by omega) (by omega) (cs_n244 (a := (a1 + 6)) (by omega) (by omega)) dX12_readTest_27 (fun H153 locs153 hC153 hS153 U153 => ?_)
    have hKp153 := Kp.upD gca rfl rfl (fun _ => ⟨fun _ => nd4 (by omega) (by omega), fun _ => by unfold dpu; omega, fun _ => by unfold dpn; omega⟩) U153 hKp151
    have m154 : (sI H153 h0 (X.1.2 11 12)).toInt = (sI H151 h0 (X.1.2 11 12)).toInt := congrArg Int32.toInt (up_nI U153 (ne_k g0 gca (by decide)))
    have m155 : (sI H153 h0 (X.1.2 11 14)).toInt = (sI H151 h0 (X.1.2 11 14)).toInt := congrArg Int32.toInt (up_nI U153 (ne_k g0 gca (by decide)))
    have m156 := congrArg tk m155
    have m157 : (sI H153 h0 (X.1.2 11 16)).toInt = (sI H151 h0 (X.1.2 11 16)).toInt := congrArg Int32.toInt (up_nI U153 (ne_k g0 gca (by decide)))
    have e158 := up_I U153
    refine lv_iload_n hx hb dX12_readTest_28 rfl (lv_at hl 0 rfl) ?_
    refine lv_iconst (v := 1) hx hb dX12_readTest_29 rfl ?_
    refine q_icmp_ne hx hb (a := v21.toInt) (b := 1) rfl (by decide) (tgt := 46) dX12_readTest_30 rfl (fun c159 => ?_) (fun c159 => ?_)
    · refine lv_aload_n hx hb dX12_readTest_46 rfl (lv_at hl 1 rfl) ?_
      refine q_getI E hC153 g0 fa_RX12_218 dX12_readTest_47 (fun v160 ev160 lv160 uv160 => ?_)
      have m161 : (sI H153 h0 (X.1.2 11 12)).toInt = v160.toInt := (congrArg Int32.toInt ev160).trans rfl
      refine q_if_gt hx hb (a := v160.toInt) rfl (tgt := 58) dX12_readTest_50 rfl (fun c162 => ?_) (fun c162 => ?_)
      · have hz8 := tk_nn (sI H153 h0 (X.1.2 11 14)).toInt
        exact ret H153 locs153 _ _ dX12_readTest_58 ⟨hKp153, ⟨by omega, by omega, by omega, by omega⟩⟩ hC153 hS153
      · refine lv_iload_n hx hb dX12_readTest_53 rfl (lv_at hl 0 rfl) ?_
        refine lv_iconst (v := 2) hx hb dX12_readTest_54 rfl ?_
        refine q_icmp_ne hx hb (a := v21.toInt) (b := 2) rfl (by decide) (tgt := 59) dX12_readTest_55 rfl (fun c163 => ?_) (fun c163 => ?_)
        · refine lv_aload_n hx hb dX12_readTest_59 rfl (lv_at hl 1 rfl) ?_
          refine q_getC E hC153 g0 fa_RX12_35 uc dX12_readTest_60 ?_
          refine lv_iload_n hx hb dX12_readTest_63 rfl (lv_at hl 2 rfl) ?_
          refine lv_bipush (v := 7) hx hb dX12_readTest_64 rfl ?_
          refine lv_iadd hx hb dX12_readTest_66 (lv_topi (fun v164 ev164 => ?_))
          have ev164i : v164.toInt = (a1 + 7) := i_add ev164 e1 (by decide) (by omega) (by omega)
          refine lv_aload_n hx hb dX12_readTest_67 rfl (lv_at hl 1 rfl) ?_
          refine q_getI E hC153 g0 fa_RX12_120 dX12_readTest_68 (fun v165 ev165 _ _ => ?_)
          have m166 : (sI H153 h0 (X.1.2 11 14)).toInt = v165.toInt := (congrArg Int32.toInt ev165).trans rfl
          refine lv_iconst (v := 3) hx hb dX12_readTest_71 rfl ?_
          refine q_icmp_ne hx hb (a := v165.toInt) (b := 3) rfl (by decide) (tgt := 82) dX12_readTest_72 rfl (fun c167 => ?_) (fun c167 => ?_)
          · refine lv_iconst (v := 0) hx hb dX12_readTest_82 rfl ?_
            refine q_cast E hC153 hS153 gca (a := (a1 + 7)) ev164i (by omega) (by omega) (cs_n244 (a := (a1 + 7)) (by omega) (by omega)) dX12_readTest_83 (fun H168 locs168 hC168 hS168 U168 => ?_)
            have hKp168 := Kp.upD gca rfl rfl (fun _ => ⟨fun _ => nd4 (by omega) (by omega), fun _ => by unfold dpu; omega, fun _ => by unfold dpn; omega⟩) U168 hKp153
            have m169 : (sI H168 h0 (X.1.2 11 12)).toInt = (sI H153 h0 (X.1.2 11 12)).toInt := congrArg Int32.toInt (up_nI U168 (ne_k g0 gca (by decide)))
            have m170 : (sI H168 h0 (X.1.2 11 14)).toInt = (sI H153 h0 (X.1.2 11 14)).toInt := congrArg Int32.toInt (up_nI U168 (ne_k g0 gca (by decide)))
            have m171 := congrArg tk m170
            have m172 : (sI H168 h0 (X.1.2 11 16)).toInt = (sI H153 h0 (X.1.2 11 16)).toInt := congrArg Int32.toInt (up_nI U168 (ne_k g0 gca (by decide)))
            have e173 := up_I U168
            refine lv_aload_n hx hb dX12_readTest_84 rfl (lv_at hl 1 rfl) ?_
            refine lv_aload_n hx hb dX12_readTest_85 rfl (lv_at hl 1 rfl) ?_
            refine lv_bipush (v := 60) hx hb dX12_readTest_86 rfl ?_
            refine q_goIp (q_runV (As := [.int 60]) (rest := [.ref h0]) E hC168 hS168 (m_X12_isSign l X Γ H168 hC168 h0 g0 60 (a1 := 60) (by decide) ca gca uc) cw_X12_isSign cl_RX12_255 g0 ⟨rfl, rfl⟩ rfl hl.1 rfl (show _ ≤ _ from by simp [Value.category]) (by decide) dX12_readTest_88) hS168 (fun v174 locs174 hr174 hS174 => ?_)
            rcases hr174 with ⟨rfl, f174a⟩ | ⟨rfl, -⟩
            · refine q_if_ne hx hb (a := 1) (by decide) (tgt := 112) dX12_readTest_91 rfl (fun c175 => ?_) (fun c175 => absurd c175 (by omega))
              refine lv_iconst (v := 1) hx hb dX12_readTest_112 rfl ?_
              refine lv_goto (tgt := 117) hx hb dX12_readTest_113 rfl ?_
              refine q_goV (q_runV (As := [.int 1]) (rest := []) E hC168 hS174 (m_X12_must l X Γ H168 hC168 h0 g0 1 (a1 := 1) (by decide) ca gca uc (by omega) (by omega)) cw_X12_must cl_RX12_244 g0 ⟨rfl, rfl⟩ rfl hl.1 rfl (Nat.zero_le _) (by decide) dX12_readTest_117) hS174 (fun H176 locs176 hr176 hC176 hS176 => ?_)
              obtain ⟨hp176, hr176⟩ := hr176
              have hKp176 := hKp168.tr (hp176.mono rfl)
              obtain ⟨f176_0, f176_1, f176_2, f176_3, f176_4⟩ := hr176
              refine lv_aload_n hx hb dX12_readTest_120 rfl (lv_at hl 1 rfl) ?_
              refine q_getC E hC176 g0 fa_RX12_35 uc dX12_readTest_121 ?_
              refine lv_iload_n hx hb dX12_readTest_124 rfl (lv_at hl 2 rfl) ?_
              refine lv_iconst (v := 2) hx hb dX12_readTest_125 rfl ?_
              refine lv_iadd hx hb dX12_readTest_126 (lv_topi (fun v177 ev177 => ?_))
              have ev177i : v177.toInt = (a1 + 2) := i_add ev177 e1 (by decide) (by omega) (by omega)
              refine lv_aload_n hx hb dX12_readTest_127 rfl (lv_at hl 1 rfl) ?_
              refine lv_iconst (v := 0) hx hb dX12_readTest_128 rfl ?_
              refine lv_iload_n hx hb dX12_readTest_129 rfl (lv_at hl 0 rfl) ?_
              refine lv_iconst (v := 1) hx hb dX12_readTest_130 rfl ?_
              refine q_icmp_ne hx hb (a := v21.toInt) (b := 1) rfl (by decide) (tgt := 139) dX12_readTest_131 rfl (fun c178 => ?_) (fun c178 => ?_)
              · refine lv_sipush (v := 999) hx hb dX12_readTest_139 rfl ?_
                refine q_goI (q_runV (As := [.int 0, .int 999]) (rest := [.int v177, .ref ca]) E hC176 hS176 (m_X12_count l X Γ H176 hC176 h0 g0 0 (a1 := 0) (by decide) 999 (a2 := 999) (by decide) ca gca uc (by omega) (by omega) (by omega) (by omega)) cw_X12_count cl_RX12_248 g0 ⟨rfl, rfl⟩ rfl hl.1 rfl (show _ ≤ _ from by simp [Value.category]) (by decide) dX12_readTest_142) hS176 (fun v179 H179 locs179 hr179 hC179 hS179 => ?_)
                obtain ⟨hp179, hr179⟩ := hr179
                have hKp179 := hKp176.tr (hp179.mono rfl)
                obtain ⟨f179_0, f179_1, f179_2, f179_3, f179_4, f179_5, f179_6, f179_7⟩ := hr179
                refine q_cast E hC179 hS179 gca (a := (a1 + 2)) ev177i (by omega) (by omega) (cs_n244 (a := (a1 + 2)) (by omega) (by omega)) dX12_readTest_145 (fun H180 locs180 hC180 hS180 U180 => ?_)
                have hKp180 := Kp.upD gca rfl rfl (fun _ => ⟨fun _ => nd4 (by omega) (by omega), fun _ => by unfold dpu; omega, fun _ => by unfold dpn; omega⟩) U180 hKp179
                have m181 : (sI H180 h0 (X.1.2 11 12)).toInt = (sI H179 h0 (X.1.2 11 12)).toInt := congrArg Int32.toInt (up_nI U180 (ne_k g0 gca (by decide)))
                have m182 : (sI H180 h0 (X.1.2 11 14)).toInt = (sI H179 h0 (X.1.2 11 14)).toInt := congrArg Int32.toInt (up_nI U180 (ne_k g0 gca (by decide)))
                have m183 := congrArg tk m182
                have m184 : (sI H180 h0 (X.1.2 11 16)).toInt = (sI H179 h0 (X.1.2 11 16)).toInt := congrArg Int32.toInt (up_nI U180 (ne_k g0 gca (by decide)))
                have e185 := up_I U180
                have hz8 := tk_nn (sI H180 h0 (X.1.2 11 14)).toInt
                exact ret H180 locs180 _ _ dX12_readTest_146 ⟨hKp180, ⟨by omega, by omega, by omega, by omega⟩⟩ hC180 hS180
              · refine lv_bipush (v := 99) hx hb dX12_readTest_134 rfl ?_
                refine lv_goto (tgt := 142) hx hb dX12_readTest_136 rfl ?_
                refine q_goI (q_runV (As := [.int 0, .int 99]) (rest := [.int v177, .ref ca]) E hC176 hS176 (m_X12_count l X Γ H176 hC176 h0 g0 0 (a1 := 0) (by decide) 99 (a2 := 99) (by decide) ca gca uc (by omega) (by omega) (by omega) (by omega)) cw_X12_count cl_RX12_248 g0 ⟨rfl, rfl⟩ rfl hl.1 rfl (show _ ≤ _ from by simp [Value.category]) (by decide) dX12_readTest_142) hS176 (fun v186 H186 locs186 hr186 hC186 hS186 => ?_)
                obtain ⟨hp186, hr186⟩ := hr186
                have hKp186 := hKp176.tr (hp186.mono rfl)
                obtain ⟨f186_0, f186_1, f186_2, f186_3, f186_4, f186_5, f186_6, f186_7⟩ := hr186
                refine q_cast E hC186 hS186 gca (a := (a1 + 2)) ev177i (by omega) (by omega) (cs_n244 (a := (a1 + 2)) (by omega) (by omega)) dX12_readTest_145 (fun H187 locs187 hC187 hS187 U187 => ?_)
                have hKp187 := Kp.upD gca rfl rfl (fun _ => ⟨fun _ => nd4 (by omega) (by omega), fun _ => by unfold dpu; omega, fun _ => by unfold dpn; omega⟩) U187 hKp186
                have m188 : (sI H187 h0 (X.1.2 11 12)).toInt = (sI H186 h0 (X.1.2 11 12)).toInt := congrArg Int32.toInt (up_nI U187 (ne_k g0 gca (by decide)))
                have m189 : (sI H187 h0 (X.1.2 11 14)).toInt = (sI H186 h0 (X.1.2 11 14)).toInt := congrArg Int32.toInt (up_nI U187 (ne_k g0 gca (by decide)))
                have m190 := congrArg tk m189
                have m191 : (sI H187 h0 (X.1.2 11 16)).toInt = (sI H186 h0 (X.1.2 11 16)).toInt := congrArg Int32.toInt (up_nI U187 (ne_k g0 gca (by decide)))
                have e192 := up_I U187
                have hz8 := tk_nn (sI H187 h0 (X.1.2 11 14)).toInt
                exact ret H187 locs187 _ _ dX12_readTest_146 ⟨hKp187, ⟨by omega, by omega, by omega, by omega⟩⟩ hC187 hS187
            · refine q_if_ne hx hb (a := 0) (by decide) (tgt := 112) dX12_readTest_91 rfl (fun c193 => absurd c193 (by omega)) (fun c193 => ?_)
              refine lv_aload_n hx hb dX12_readTest_94 rfl (lv_at hl 1 rfl) ?_
              refine lv_bipush (v := 62) hx hb dX12_readTest_95 rfl ?_
              refine q_goIp (q_runV (As := [.int 62]) (rest := [.ref h0]) E hC168 hS174 (m_X12_isSign l X Γ H168 hC168 h0 g0 62 (a1 := 62) (by decide) ca gca uc) cw_X12_isSign cl_RX12_255 g0 ⟨rfl, rfl⟩ rfl hl.1 rfl (show _ ≤ _ from by simp [Value.category]) (by decide) dX12_readTest_97) hS174 (fun v194 locs194 hr194 hS194 => ?_)
              rcases hr194 with ⟨rfl, f194a⟩ | ⟨rfl, -⟩
              · refine q_if_ne hx hb (a := 1) (by decide) (tgt := 112) dX12_readTest_100 rfl (fun c195 => ?_) (fun c195 => absurd c195 (by omega))
                refine lv_iconst (v := 1) hx hb dX12_readTest_112 rfl ?_
                refine lv_goto (tgt := 117) hx hb dX12_readTest_113 rfl ?_
                refine q_goV (q_runV (As := [.int 1]) (rest := []) E hC168 hS194 (m_X12_must l X Γ H168 hC168 h0 g0 1 (a1 := 1) (by decide) ca gca uc (by omega) (by omega)) cw_X12_must cl_RX12_244 g0 ⟨rfl, rfl⟩ rfl hl.1 rfl (Nat.zero_le _) (by decide) dX12_readTest_117) hS194 (fun H196 locs196 hr196 hC196 hS196 => ?_)
                obtain ⟨hp196, hr196⟩ := hr196
                have hKp196 := hKp168.tr (hp196.mono rfl)
                obtain ⟨f196_0, f196_1, f196_2, f196_3, f196_4⟩ := hr196
                refine lv_aload_n hx hb dX12_readTest_120 rfl (lv_at hl 1 rfl) ?_
                refine q_getC E hC196 g0 fa_RX12_35 uc dX12_readTest_121 ?_
                refine lv_iload_n hx hb dX12_readTest_124 rfl (lv_at hl 2 rfl) ?_
                refine lv_iconst (v := 2) hx hb dX12_readTest_125 rfl ?_
                refine lv_iadd hx hb dX12_readTest_126 (lv_topi (fun v197 ev197 => ?_))
                have ev197i : v197.toInt = (a1 + 2) := i_add ev197 e1 (by decide) (by omega) (by omega)
                refine lv_aload_n hx hb dX12_readTest_127 rfl (lv_at hl 1 rfl) ?_
                refine lv_iconst (v := 0) hx hb dX12_readTest_128 rfl ?_
                refine lv_iload_n hx hb dX12_readTest_129 rfl (lv_at hl 0 rfl) ?_
                refine lv_iconst (v := 1) hx hb dX12_readTest_130 rfl ?_
                refine q_icmp_ne hx hb (a := v21.toInt) (b := 1) rfl (by decide) (tgt := 139) dX12_readTest_131 rfl (fun c198 => ?_) (fun c198 => ?_)
                · refine lv_sipush (v := 999) hx hb dX12_readTest_139 rfl ?_
                  refine q_goI (q_runV (As := [.int 0, .int 999]) (rest := [.int v197, .ref ca]) E hC196 hS196 (m_X12_count l X Γ H196 hC196 h0 g0 0 (a1 := 0) (by decide) 999 (a2 := 999) (by decide) ca gca uc (by omega) (by omega) (by omega) (by omega)) cw_X12_count cl_RX12_248 g0 ⟨rfl, rfl⟩ rfl hl.1 rfl (show _ ≤ _ from by simp [Value.category]) (by decide) dX12_readTest_142) hS196 (fun v199 H199 locs199 hr199 hC199 hS199 => ?_)
                  obtain ⟨hp199, hr199⟩ := hr199
                  have hKp199 := hKp196.tr (hp199.mono rfl)
                  obtain ⟨f199_0, f199_1, f199_2, f199_3, f199_4, f199_5, f199_6, f199_7⟩ := hr199
                  refine q_cast E hC199 hS199 gca (a := (a1 + 2)) ev197i (by omega) (by omega) (cs_n244 (a := (a1 + 2)) (by omega) (by omega)) dX12_readTest_145 (fun H200 locs200 hC200 hS200 U200 => ?_)
                  have hKp200 := Kp.upD gca rfl rfl (fun _ => ⟨fun _ => nd4 (by omega) (by omega), fun _ => by unfold dpu; omega, fun _ => by unfold dpn; omega⟩) U200 hKp199
                  have m201 : (sI H200 h0 (X.1.2 11 12)).toInt = (sI H199 h0 (X.1.2 11 12)).toInt := congrArg Int32.toInt (up_nI U200 (ne_k g0 gca (by decide)))
                  have m202 : (sI H200 h0 (X.1.2 11 14)).toInt = (sI H199 h0 (X.1.2 11 14)).toInt := congrArg Int32.toInt (up_nI U200 (ne_k g0 gca (by decide)))
                  have m203 := congrArg tk m202
                  have m204 : (sI H200 h0 (X.1.2 11 16)).toInt = (sI H199 h0 (X.1.2 11 16)).toInt := congrArg Int32.toInt (up_nI U200 (ne_k g0 gca (by decide)))
                  have e205 := up_I U200
                  have hz8 := tk_nn (sI H200 h0 (X.1.2 11 14)).toInt
                  exact ret H200 locs200 _ _ dX12_readTest_146 ⟨hKp200, ⟨by omega, by omega, by omega, by omega⟩⟩ hC200 hS200
                · refine lv_bipush (v := 99) hx hb dX12_readTest_134 rfl ?_
                  refine lv_goto (tgt := 142) hx hb dX12_readTest_136 rfl ?_
                  refine q_goI (q_runV (As := [.int 0, .int 99]) (rest := [.int v197, .ref ca]) E hC196 hS196 (m_X12_count l X Γ H196 hC196 h0 g0 0 (a1 := 0) (by decide) 99 (a2 := 99) (by decide) ca gca uc (by omega) (by omega) (by omega) (by omega)) cw_X12_count cl_RX12_248 g0 ⟨rfl, rfl⟩ rfl hl.1 rfl (show _ ≤ _ from by simp [Value.category]) (by decide) dX12_readTest_142) hS196 (fun v206 H206 locs206 hr206 hC206 hS206 => ?_)
                  obtain ⟨hp206, hr206⟩ := hr206
                  have hKp206 := hKp196.tr (hp206.mono rfl)
                  obtain ⟨f206_0, f206_1, f206_2, f206_3, f206_4, f206_5, f206_6, f206_7⟩ := hr206
                  refine q_cast E hC206 hS206 gca (a := (a1 + 2)) ev197i (by omega) (by omega) (cs_n244 (a := (a1 + 2)) (by omega) (by omega)) dX12_readTest_145 (fun H207 locs207 hC207 hS207 U207 => ?_)
                  have hKp207 := Kp.upD gca rfl rfl (fun _ => ⟨fun _ => nd4 (by omega) (by omega), fun _ => by unfold dpu; omega, fun _ => by unfold dpn; omega⟩) U207 hKp206
                  have m208 : (sI H207 h0 (X.1.2 11 12)).toInt = (sI H206 h0 (X.1.2 11 12)).toInt := congrArg Int32.toInt (up_nI U207 (ne_k g0 gca (by decide)))
                  have m209 : (sI H207 h0 (X.1.2 11 14)).toInt = (sI H206 h0 (X.1.2 11 14)).toInt := congrArg Int32.toInt (up_nI U207 (ne_k g0 gca (by decide)))
                  have m210 := congrArg tk m209
                  have m211 : (sI H207 h0 (X.1.2 11 16)).toInt = (sI H206 h0 (X.1.2 11 16)).toInt := congrArg Int32.toInt (up_nI U207 (ne_k g0 gca (by decide)))
                  have e212 := up_I U207
                  have hz8 := tk_nn (sI H207 h0 (X.1.2 11 14)).toInt
                  exact ret H207 locs207 _ _ dX12_readTest_146 ⟨hKp207, ⟨by omega, by omega, by omega, by omega⟩⟩ hC207 hS207
              · refine q_if_ne hx hb (a := 0) (by decide) (tgt := 112) dX12_readTest_100 rfl (fun c213 => absurd c213 (by omega)) (fun c213 => ?_)
                refine lv_aload_n hx hb dX12_readTest_103 rfl (lv_at hl 1 rfl) ?_
                refine lv_bipush (v := 61) hx hb dX12_readTest_104 rfl ?_
                refine q_goIp (q_runV (As := [.int 61]) (rest := [.ref h0]) E hC168 hS194 (m_X12_isSign l X Γ H168 hC168 h0 g0 61 (a1 := 61) (by decide) ca gca uc) cw_X12_isSign cl_RX12_255 g0 ⟨rfl, rfl⟩ rfl hl.1 rfl (show _ ≤ _ from by simp [Value.category]) (by decide) dX12_readTest_106) hS194 (fun v214 locs214 hr214 hS214 => ?_)
                rcases hr214 with ⟨rfl, f214a⟩ | ⟨rfl, -⟩
                · refine q_if_eq hx hb (a := 1) (by decide) (tgt := 116) dX12_readTest_109 rfl (fun c215 => absurd c215 (by omega)) (fun c215 => ?_)
                  refine lv_iconst (v := 1) hx hb dX12_readTest_112 rfl ?_
                  refine lv_goto (tgt := 117) hx hb dX12_readTest_113 rfl ?_
                  refine q_goV (q_runV (As := [.int 1]) (rest := []) E hC168 hS214 (m_X12_must l X Γ H168 hC168 h0 g0 1 (a1 := 1) (by decide) ca gca uc (by omega) (by omega)) cw_X12_must cl_RX12_244 g0 ⟨rfl, rfl⟩ rfl hl.1 rfl (Nat.zero_le _) (by decide) dX12_readTest_117) hS214 (fun H216 locs216 hr216 hC216 hS216 => ?_)
                  obtain ⟨hp216, hr216⟩ := hr216
                  have hKp216 := hKp168.tr (hp216.mono rfl)
                  obtain ⟨f216_0, f216_1, f216_2, f216_3, f216_4⟩ := hr216
                  refine lv_aload_n hx hb dX12_readTest_120 rfl (lv_at hl 1 rfl) ?_
                  refine q_getC E hC216 g0 fa_RX12_35 uc dX12_readTest_121 ?_
                  refine lv_iload_n hx hb dX12_readTest_124 rfl (lv_at hl 2 rfl) ?_
                  refine lv_iconst (v := 2) hx hb dX12_readTest_125 rfl ?_
                  refine lv_iadd hx hb dX12_readTest_126 (lv_topi (fun v217 ev217 => ?_))
                  have ev217i : v217.toInt = (a1 + 2) := i_add ev217 e1 (by decide) (by omega) (by omega)
                  refine lv_aload_n hx hb dX12_readTest_127 rfl (lv_at hl 1 rfl) ?_
                  refine lv_iconst (v := 0) hx hb dX12_readTest_128 rfl ?_
                  refine lv_iload_n hx hb dX12_readTest_129 rfl (lv_at hl 0 rfl) ?_
                  refine lv_iconst (v := 1) hx hb dX12_readTest_130 rfl ?_
                  refine q_icmp_ne hx hb (a := v21.toInt) (b := 1) rfl (by decide) (tgt := 139) dX12_readTest_131 rfl (fun c218 => ?_) (fun c218 => ?_)
                  · refine lv_sipush (v := 999) hx hb dX12_readTest_139 rfl ?_
                    refine q_goI (q_runV (As := [.int 0, .int 999]) (rest := [.int v217, .ref ca]) E hC216 hS216 (m_X12_count l X Γ H216 hC216 h0 g0 0 (a1 := 0) (by decide) 999 (a2 := 999) (by decide) ca gca uc (by omega) (by omega) (by omega) (by omega)) cw_X12_count cl_RX12_248 g0 ⟨rfl, rfl⟩ rfl hl.1 rfl (show _ ≤ _ from by simp [Value.category]) (by decide) dX12_readTest_142) hS216 (fun v219 H219 locs219 hr219 hC219 hS219 => ?_)
                    obtain ⟨hp219, hr219⟩ := hr219
                    have hKp219 := hKp216.tr (hp219.mono rfl)
                    obtain ⟨f219_0, f219_1, f219_2, f219_3, f219_4, f219_5, f219_6, f219_7⟩ := hr219
                    refine q_cast E hC219 hS219 gca (a := (a1 + 2)) ev217i (by omega) (by omega) (cs_n244 (a := (a1 + 2)) (by omega) (by omega)) dX12_readTest_145 (fun H220 locs220 hC220 hS220 U220 => ?_)
                    have hKp220 := Kp.upD gca rfl rfl (fun _ => ⟨fun _ => nd4 (by omega) (by omega), fun _ => by unfold dpu; omega, fun _ => by unfold dpn; omega⟩) U220 hKp219
                    have m221 : (sI H220 h0 (X.1.2 11 12)).toInt = (sI H219 h0 (X.1.2 11 12)).toInt := congrArg Int32.toInt (up_nI U220 (ne_k g0 gca (by decide)))
                    have m222 : (sI H220 h0 (X.1.2 11 14)).toInt = (sI H219 h0 (X.1.2 11 14)).toInt := congrArg Int32.toInt (up_nI U220 (ne_k g0 gca (by decide)))
                    have m223 := congrArg tk m222
                    have m224 : (sI H220 h0 (X.1.2 11 16)).toInt = (sI H219 h0 (X.1.2 11 16)).toInt := congrArg Int32.toInt (up_nI U220 (ne_k g0 gca (by decide)))
                    have e225 := up_I U220
                    have hz8 := tk_nn (sI H220 h0 (X.1.2 11 14)).toInt
                    exact ret H220 locs220 _ _ dX12_readTest_146 ⟨hKp220, ⟨by omega, by omega, by omega, by omega⟩⟩ hC220 hS220
                  · refine lv_bipush (v := 99) hx hb dX12_readTest_134 rfl ?_
                    refine lv_goto (tgt := 142) hx hb dX12_readTest_136 rfl ?_
                    refine q_goI (q_runV (As := [.int 0, .int 99]) (rest := [.int v217, .ref ca]) E hC216 hS216 (m_X12_count l X Γ H216 hC216 h0 g0 0 (a1 := 0) (by decide) 99 (a2 := 99) (by decide) ca gca uc (by omega) (by omega) (by omega) (by omega)) cw_X12_count cl_RX12_248 g0 ⟨rfl, rfl⟩ rfl hl.1 rfl (show _ ≤ _ from by simp [Value.category]) (by decide) dX12_readTest_142) hS216 (fun v226 H226 locs226 hr226 hC226 hS226 => ?_)
                    obtain ⟨hp226, hr226⟩ := hr226
                    have hKp226 := hKp216.tr (hp226.mono rfl)
                    obtain ⟨f226_0, f226_1, f226_2, f226_3, f226_4, f226_5, f226_6, f226_7⟩ := hr226
                    refine q_cast E hC226 hS226 gca (a := (a1 + 2)) ev217i (by omega) (by omega) (cs_n244 (a := (a1 + 2)) (by omega) (by omega)) dX12_readTest_145 (fun H227 locs227 hC227 hS227 U227 => ?_)
                    have hKp227 := Kp.upD gca rfl rfl (fun _ => ⟨fun _ => nd4 (by omega) (by omega), fun _ => by unfold dpu; omega, fun _ => by unfold dpn; omega⟩) U227 hKp226
                    have m228 : (sI H227 h0 (X.1.2 11 12)).toInt = (sI H226 h0 (X.1.2 11 12)).toInt := congrArg Int32.toInt (up_nI U227 (ne_k g0 gca (by decide)))
                    have m229 : (sI H227 h0 (X.1.2 11 14)).toInt = (sI H226 h0 (X.1.2 11 14)).toInt := congrArg Int32.toInt (up_nI U227 (ne_k g0 gca (by decide)))
                    have m230 := congrArg tk m229
                    have m231 : (sI H227 h0 (X.1.2 11 16)).toInt = (sI H226 h0 (X.1.2 11 16)).toInt := congrArg Int32.toInt (up_nI U227 (ne_k g0 gca (by decide)))
                    have e232 := up_I U227
                    have hz8 := tk_nn (sI H227 h0 (X.1.2 11 14)).toInt
                    exact ret H227 locs227 _ _ dX12_readTest_146 ⟨hKp227, ⟨by omega, by omega, by omega, by omega⟩⟩ hC227 hS227
                · refine q_if_eq hx hb (a := 0) (by decide) (tgt := 116) dX12_readTest_109 rfl (fun c233 => ?_) (fun c233 => absurd c233 (by omega))
                  refine lv_iconst (v := 0) hx hb dX12_readTest_116 rfl ?_
                  refine q_goV (q_runV (As := [.int 0]) (rest := []) E hC168 hS214 (m_X12_must l X Γ H168 hC168 h0 g0 0 (a1 := 0) (by decide) ca gca uc (by omega) (by omega)) cw_X12_must cl_RX12_244 g0 ⟨rfl, rfl⟩ rfl hl.1 rfl (Nat.zero_le _) (by decide) dX12_readTest_117) hS214 (fun H234 locs234 hr234 hC234 hS234 => ?_)
                  obtain ⟨hp234, hr234⟩ := hr234
                  have hKp234 := hKp168.tr (hp234.mono rfl)
                  obtain ⟨f234_0, f234_1, f234_2, f234_3, f234_4⟩ := hr234
                  refine lv_aload_n hx hb dX12_readTest_120 rfl (lv_at hl 1 rfl) ?_
                  refine q_getC E hC234 g0 fa_RX12_35 uc dX12_readTest_121 ?_
                  refine lv_iload_n hx hb dX12_readTest_124 rfl (lv_at hl 2 rfl) ?_
                  refine lv_iconst (v := 2) hx hb dX12_readTest_125 rfl ?_
                  refine lv_iadd hx hb dX12_readTest_126 (lv_topi (fun v235 ev235 => ?_))
                  have ev235i : v235.toInt = (a1 + 2) := i_add ev235 e1 (by decide) (by omega) (by omega)
                  refine lv_aload_n hx hb dX12_readTest_127 rfl (lv_at hl 1 rfl) ?_
                  refine lv_iconst (v := 0) hx hb dX12_readTest_128 rfl ?_
                  refine lv_iload_n hx hb dX12_readTest_129 rfl (lv_at hl 0 rfl) ?_
                  refine lv_iconst (v := 1) hx hb dX12_readTest_130 rfl ?_
                  refine q_icmp_ne hx hb (a := v21.toInt) (b := 1) rfl (by decide) (tgt := 139) dX12_readTest_131 rfl (fun c236 => ?_) (fun c236 => ?_)
                  · refine lv_sipush (v := 999) hx hb dX12_readTest_139 rfl ?_
                    refine q_goI (q_runV (As := [.int 0, .int 999]) (rest := [.int v235, .ref ca]) E hC234 hS234 (m_X12_count l X Γ H234 hC234 h0 g0 0 (a1 := 0) (by decide) 999 (a2 := 999) (by decide) ca gca uc (by omega) (by omega) (by omega) (by omega)) cw_X12_count cl_RX12_248 g0 ⟨rfl, rfl⟩ rfl hl.1 rfl (show _ ≤ _ from by simp [Value.category]) (by decide) dX12_readTest_142) hS234 (fun v237 H237 locs237 hr237 hC237 hS237 => ?_)
                    obtain ⟨hp237, hr237⟩ := hr237
                    have hKp237 := hKp234.tr (hp237.mono rfl)
                    obtain ⟨f237_0, f237_1, f237_2, f237_3, f237_4, f237_5, f237_6, f237_7⟩ := hr237
                    refine q_cast E hC237 hS237 gca (a := (a1 + 2)) ev235i (by omega) (by omega) (cs_n244 (a := (a1 + 2)) (by omega) (by omega)) dX12_readTest_145 (fun H238 locs238 hC238 hS238 U238 => ?_)
                    have hKp238 := Kp.upD gca rfl rfl (fun _ => ⟨fun _ => nd4 (by omega) (by omega), fun _ => by unfold dpu; omega, fun _ => by unfold dpn; omega⟩) U238 hKp237
                    have m239 : (sI H238 h0 (X.1.2 11 12)).toInt = (sI H237 h0 (X.1.2 11 12)).toInt := congrArg Int32.toInt (up_nI U238 (ne_k g0 gca (by decide)))
                    have m240 : (sI H238 h0 (X.1.2 11 14)).toInt = (sI H237 h0 (X.1.2 11 14)).toInt := congrArg Int32.toInt (up_nI U238 (ne_k g0 gca (by decide)))
                    have m241 := congrArg tk m240
                    have m242 : (sI H238 h0 (X.1.2 11 16)).toInt = (sI H237 h0 (X.1.2 11 16)).toInt := congrArg Int32.toInt (up_nI U238 (ne_k g0 gca (by decide)))
                    have e243 := up_I U238
                    have hz8 := tk_nn (sI H238 h0 (X.1.2 11 14)).toInt
                    exact ret H238 locs238 _ _ dX12_readTest_146 ⟨hKp238, ⟨by omega, by omega, by omega, by omega⟩⟩ hC238 hS238
                  · refine lv_bipush (v := 99) hx hb dX12_readTest_134 rfl ?_
                    refine lv_goto (tgt := 142) hx hb dX12_readTest_136 rfl ?_
                    refine q_goI (q_runV (As := [.int 0, .int 99]) (rest := [.int v235, .ref ca]) E hC234 hS234 (m_X12_count l X Γ H234 hC234 h0 g0 0 (a1 := 0) (by decide) 99 (a2 := 99) (by decide) ca gca uc (by omega) (by omega) (by omega) (by omega)) cw_X12_count cl_RX12_248 g0 ⟨rfl, rfl⟩ rfl hl.1 rfl (show _ ≤ _ from by simp [Value.category]) (by decide) dX12_readTest_142) hS234 (fun v244 H244 locs244 hr244 hC244 hS244 => ?_)
                    obtain ⟨hp244, hr244⟩ := hr244
                    have hKp244 := hKp234.tr (hp244.mono rfl)
                    obtain ⟨f244_0, f244_1, f244_2, f244_3, f244_4, f244_5, f244_6, f244_7⟩ := hr244
                    refine q_cast E hC244 hS244 gca (a := (a1 + 2)) ev235i (by omega) (by omega) (cs_n244 (a := (a1 + 2)) (by omega) (by omega)) dX12_readTest_145 (fun H245 locs245 hC245 hS245 U245 => ?_)
                    have hKp245 := Kp.upD gca rfl rfl (fun _ => ⟨fun _ => nd4 (by omega) (by omega), fun _ => by unfold dpu; omega, fun _ => by unfold dpn; omega⟩) U245 hKp244
                    have m246 : (sI H245 h0 (X.1.2 11 12)).toInt = (sI H244 h0 (X.1.2 11 12)).toInt := congrArg Int32.toInt (up_nI U245 (ne_k g0 gca (by decide)))
                    have m247 : (sI H245 h0 (X.1.2 11 14)).toInt = (sI H244 h0 (X.1.2 11 14)).toInt := congrArg Int32.toInt (up_nI U245 (ne_k g0 gca (by decide)))
                    have m248 := congrArg tk m247
                    have m249 : (sI H245 h0 (X.1.2 11 16)).toInt = (sI H244 h0 (X.1.2 11 16)).toInt := congrArg Int32.toInt (up_nI U245 (ne_k g0 gca (by decide)))
                    have e250 := up_I U245
                    have hz8 := tk_nn (sI H245 h0 (X.1.2 11 14)).toInt
                    exact ret H245 locs245 _ _ dX12_readTest_146 ⟨hKp245, ⟨by omega, by omega, by omega, by omega⟩⟩ hC245 hS245
          · refine lv_aload_n hx hb dX12_readTest_75 rfl (lv_at hl 1 rfl) ?_
            refine q_getI E hC153 g0 fa_RX12_139 dX12_readTest_76 (fun v251 ev251 _ _ => ?_)
            refine lv_goto (tgt := 83) hx hb dX12_readTest_79 rfl ?_
            refine q_cast E hC153 hS153 gca (a := (a1 + 7)) ev164i (by omega) (by omega) (cs_n244 (a := (a1 + 7)) (by omega) (by omega)) dX12_readTest_83 (fun H252 locs252 hC252 hS252 U252 => ?_)
            have hKp252 := Kp.upD gca rfl rfl (fun _ => ⟨fun _ => nd4 (by omega) (by omega), fun _ => by unfold dpu; omega, fun _ => by unfold dpn; omega⟩) U252 hKp153
            have m253 : (sI H252 h0 (X.1.2 11 12)).toInt = (sI H153 h0 (X.1.2 11 12)).toInt := congrArg Int32.toInt (up_nI U252 (ne_k g0 gca (by decide)))
            have m254 : (sI H252 h0 (X.1.2 11 14)).toInt = (sI H153 h0 (X.1.2 11 14)).toInt := congrArg Int32.toInt (up_nI U252 (ne_k g0 gca (by decide)))
            have m255 := congrArg tk m254
            have m256 : (sI H252 h0 (X.1.2 11 16)).toInt = (sI H153 h0 (X.1.2 11 16)).toInt := congrArg Int32.toInt (up_nI U252 (ne_k g0 gca (by decide)))
            have e257 := up_I U252
            refine lv_aload_n hx hb dX12_readTest_84 rfl (lv_at hl 1 rfl) ?_
            refine lv_aload_n hx hb dX12_readTest_85 rfl (lv_at hl 1 rfl) ?_
            refine lv_bipush (v := 60) hx hb dX12_readTest_86 rfl ?_
            refine q_goIp (q_runV (As := [.int 60]) (rest := [.ref h0]) E hC252 hS252 (m_X12_isSign l X Γ H252 hC252 h0 g0 60 (a1 := 60) (by decide) ca gca uc) cw_X12_isSign cl_RX12_255 g0 ⟨rfl, rfl⟩ rfl hl.1 rfl (show _ ≤ _ from by simp [Value.category]) (by decide) dX12_readTest_88) hS252 (fun v258 locs258 hr258 hS258 => ?_)
            rcases hr258 with ⟨rfl, f258a⟩ | ⟨rfl, -⟩
            · refine q_if_ne hx hb (a := 1) (by decide) (tgt := 112) dX12_readTest_91 rfl (fun c259 => ?_) (fun c259 => absurd c259 (by omega))
              refine lv_iconst (v := 1) hx hb dX12_readTest_112 rfl ?_
              refine lv_goto (tgt := 117) hx hb dX12_readTest_113 rfl ?_
              refine q_goV (q_runV (As := [.int 1]) (rest := []) E hC252 hS258 (m_X12_must l X Γ H252 hC252 h0 g0 1 (a1 := 1) (by decide) ca gca uc (by omega) (by omega)) cw_X12_must cl_RX12_244 g0 ⟨rfl, rfl⟩ rfl hl.1 rfl (Nat.zero_le _) (by decide) dX12_readTest_117) hS258 (fun H260 locs260 hr260 hC260 hS260 => ?_)
              obtain ⟨hp260, hr260⟩ := hr260
              have hKp260 := hKp252.tr (hp260.mono rfl)
              obtain ⟨f260_0, f260_1, f260_2, f260_3, f260_4⟩ := hr260
              refine lv_aload_n hx hb dX12_readTest_120 rfl (lv_at hl 1 rfl) ?_
              refine q_getC E hC260 g0 fa_RX12_35 uc dX12_readTest_121 ?_
              refine lv_iload_n hx hb dX12_readTest_124 rfl (lv_at hl 2 rfl) ?_
              refine lv_iconst (v := 2) hx hb dX12_readTest_125 rfl ?_
              refine lv_iadd hx hb dX12_readTest_126 (lv_topi (fun v261 ev261 => ?_))
              have ev261i : v261.toInt = (a1 + 2) := i_add ev261 e1 (by decide) (by omega) (by omega)
              refine lv_aload_n hx hb dX12_readTest_127 rfl (lv_at hl 1 rfl) ?_
              refine lv_iconst (v := 0) hx hb dX12_readTest_128 rfl ?_
              refine lv_iload_n hx hb dX12_readTest_129 rfl (lv_at hl 0 rfl) ?_
              refine lv_iconst (v := 1) hx hb dX12_readTest_130 rfl ?_
              refine q_icmp_ne hx hb (a := v21.toInt) (b := 1) rfl (by decide) (tgt := 139) dX12_readTest_131 rfl (fun c262 => ?_) (fun c262 => ?_)
              · refine lv_sipush (v := 999) hx hb dX12_readTest_139 rfl ?_
                refine q_goI (q_runV (As := [.int 0, .int 999]) (rest := [.int v261, .ref ca]) E hC260 hS260 (m_X12_count l X Γ H260 hC260 h0 g0 0 (a1 := 0) (by decide) 999 (a2 := 999) (by decide) ca gca uc (by omega) (by omega) (by omega) (by omega)) cw_X12_count cl_RX12_248 g0 ⟨rfl, rfl⟩ rfl hl.1 rfl (show _ ≤ _ from by simp [Value.category]) (by decide) dX12_readTest_142) hS260 (fun v263 H263 locs263 hr263 hC263 hS263 => ?_)
                obtain ⟨hp263, hr263⟩ := hr263
                have hKp263 := hKp260.tr (hp263.mono rfl)
                obtain ⟨f263_0, f263_1, f263_2, f263_3, f263_4, f263_5, f263_6, f263_7⟩ := hr263
                refine q_cast E hC263 hS263 gca (a := (a1 + 2)) ev261i (by omega) (by omega) (cs_n244 (a := (a1 + 2)) (by omega) (by omega)) dX12_readTest_145 (fun H264 locs264 hC264 hS264 U264 => ?_)
                have hKp264 := Kp.upD gca rfl rfl (fun _ => ⟨fun _ => nd4 (by omega) (by omega), fun _ => by unfold dpu; omega, fun _ => by unfold dpn; omega⟩) U264 hKp263
                have m265 : (sI H264 h0 (X.1.2 11 12)).toInt = (sI H263 h0 (X.1.2 11 12)).toInt := congrArg Int32.toInt (up_nI U264 (ne_k g0 gca (by decide)))
                have m266 : (sI H264 h0 (X.1.2 11 14)).toInt = (sI H263 h0 (X.1.2 11 14)).toInt := congrArg Int32.toInt (up_nI U264 (ne_k g0 gca (by decide)))
                have m267 := congrArg tk m266
                have m268 : (sI H264 h0 (X.1.2 11 16)).toInt = (sI H263 h0 (X.1.2 11 16)).toInt := congrArg Int32.toInt (up_nI U264 (ne_k g0 gca (by decide)))
                have e269 := up_I U264
                have hz8 := tk_nn (sI H264 h0 (X.1.2 11 14)).toInt
                exact ret H264 locs264 _ _ dX12_readTest_146 ⟨hKp264, ⟨by omega, by omega, by omega, by omega⟩⟩ hC264 hS264
              · refine lv_bipush (v := 99) hx hb dX12_readTest_134 rfl ?_
                refine lv_goto (tgt := 142) hx hb dX12_readTest_136 rfl ?_
                refine q_goI (q_runV (As := [.int 0, .int 99]) (rest := [.int v261, .ref ca]) E hC260 hS260 (m_X12_count l X Γ H260 hC260 h0 g0 0 (a1 := 0) (by decide) 99 (a2 := 99) (by decide) ca gca uc (by omega) (by omega) (by omega) (by omega)) cw_X12_count cl_RX12_248 g0 ⟨rfl, rfl⟩ rfl hl.1 rfl (show _ ≤ _ from by simp [Value.category]) (by decide) dX12_readTest_142) hS260 (fun v270 H270 locs270 hr270 hC270 hS270 => ?_)
                obtain ⟨hp270, hr270⟩ := hr270
                have hKp270 := hKp260.tr (hp270.mono rfl)
                obtain ⟨f270_0, f270_1, f270_2, f270_3, f270_4, f270_5, f270_6, f270_7⟩ := hr270
                refine q_cast E hC270 hS270 gca (a := (a1 + 2)) ev261i (by omega) (by omega) (cs_n244 (a := (a1 + 2)) (by omega) (by omega)) dX12_readTest_145 (fun H271 locs271 hC271 hS271 U271 => ?_)
                have hKp271 := Kp.upD gca rfl rfl (fun _ => ⟨fun _ => nd4 (by omega) (by omega), fun _ => by unfold dpu; omega, fun _ => by unfold dpn; omega⟩) U271 hKp270
                have m272 : (sI H271 h0 (X.1.2 11 12)).toInt = (sI H270 h0 (X.1.2 11 12)).toInt := congrArg Int32.toInt (up_nI U271 (ne_k g0 gca (by decide)))
                have m273 : (sI H271 h0 (X.1.2 11 14)).toInt = (sI H270 h0 (X.1.2 11 14)).toInt := congrArg Int32.toInt (up_nI U271 (ne_k g0 gca (by decide)))
                have m274 := congrArg tk m273
                have m275 : (sI H271 h0 (X.1.2 11 16)).toInt = (sI H270 h0 (X.1.2 11 16)).toInt := congrArg Int32.toInt (up_nI U271 (ne_k g0 gca (by decide)))
                have e276 := up_I U271
                have hz8 := tk_nn (sI H271 h0 (X.1.2 11 14)).toInt
                exact ret H271 locs271 _ _ dX12_readTest_146 ⟨hKp271, ⟨by omega, by omega, by omega, by omega⟩⟩ hC271 hS271
            · refine q_if_ne hx hb (a := 0) (by decide) (tgt := 112) dX12_readTest_91 rfl (fun c277 => absurd c277 (by omega)) (fun c277 => ?_)
              refine lv_aload_n hx hb dX12_readTest_94 rfl (lv_at hl 1 rfl) ?_
              refine lv_bipush (v := 62) hx hb dX12_readTest_95 rfl ?_
              refine q_goIp (q_runV (As := [.int 62]) (rest := [.ref h0]) E hC252 hS258 (m_X12_isSign l X Γ H252 hC252 h0 g0 62 (a1 := 62) (by decide) ca gca uc) cw_X12_isSign cl_RX12_255 g0 ⟨rfl, rfl⟩ rfl hl.1 rfl (show _ ≤ _ from by simp [Value.category]) (by decide) dX12_readTest_97) hS258 (fun v278 locs278 hr278 hS278 => ?_)
              rcases hr278 with ⟨rfl, f278a⟩ | ⟨rfl, -⟩
              · refine q_if_ne hx hb (a := 1) (by decide) (tgt := 112) dX12_readTest_100 rfl (fun c279 => ?_) (fun c279 => absurd c279 (by omega))
                refine lv_iconst (v := 1) hx hb dX12_readTest_112 rfl ?_
                refine lv_goto (tgt := 117) hx hb dX12_readTest_113 rfl ?_
                refine q_goV (q_runV (As := [.int 1]) (rest := []) E hC252 hS278 (m_X12_must l X Γ H252 hC252 h0 g0 1 (a1 := 1) (by decide) ca gca uc (by omega) (by omega)) cw_X12_must cl_RX12_244 g0 ⟨rfl, rfl⟩ rfl hl.1 rfl (Nat.zero_le _) (by decide) dX12_readTest_117) hS278 (fun H280 locs280 hr280 hC280 hS280 => ?_)
                obtain ⟨hp280, hr280⟩ := hr280
                have hKp280 := hKp252.tr (hp280.mono rfl)
                obtain ⟨f280_0, f280_1, f280_2, f280_3, f280_4⟩ := hr280
                refine lv_aload_n hx hb dX12_readTest_120 rfl (lv_at hl 1 rfl) ?_
                refine q_getC E hC280 g0 fa_RX12_35 uc dX12_readTest_121 ?_
                refine lv_iload_n hx hb dX12_readTest_124 rfl (lv_at hl 2 rfl) ?_
                refine lv_iconst (v := 2) hx hb dX12_readTest_125 rfl ?_
                refine lv_iadd hx hb dX12_readTest_126 (lv_topi (fun v281 ev281 => ?_))
                have ev281i : v281.toInt = (a1 + 2) := i_add ev281 e1 (by decide) (by omega) (by omega)
                refine lv_aload_n hx hb dX12_readTest_127 rfl (lv_at hl 1 rfl) ?_
                refine lv_iconst (v := 0) hx hb dX12_readTest_128 rfl ?_
                refine lv_iload_n hx hb dX12_readTest_129 rfl (lv_at hl 0 rfl) ?_
                refine lv_iconst (v := 1) hx hb dX12_readTest_130 rfl ?_
                refine q_icmp_ne hx hb (a := v21.toInt) (b := 1) rfl (by decide) (tgt := 139) dX12_readTest_131 rfl (fun c282 => ?_) (fun c282 => ?_)
                · refine lv_sipush (v := 999) hx hb dX12_readTest_139 rfl ?_
                  refine q_goI (q_runV (As := [.int 0, .int 999]) (rest := [.int v281, .ref ca]) E hC280 hS280 (m_X12_count l X Γ H280 hC280 h0 g0 0 (a1 := 0) (by decide) 999 (a2 := 999) (by decide) ca gca uc (by omega) (by omega) (by omega) (by omega)) cw_X12_count cl_RX12_248 g0 ⟨rfl, rfl⟩ rfl hl.1 rfl (show _ ≤ _ from by simp [Value.category]) (by decide) dX12_readTest_142) hS280 (fun v283 H283 locs283 hr283 hC283 hS283 => ?_)
                  obtain ⟨hp283, hr283⟩ := hr283
                  have hKp283 := hKp280.tr (hp283.mono rfl)
                  obtain ⟨f283_0, f283_1, f283_2, f283_3, f283_4, f283_5, f283_6, f283_7⟩ := hr283
                  refine q_cast E hC283 hS283 gca (a := (a1 + 2)) ev281i (by omega) (by omega) (cs_n244 (a := (a1 + 2)) (by omega) (by omega)) dX12_readTest_145 (fun H284 locs284 hC284 hS284 U284 => ?_)
                  have hKp284 := Kp.upD gca rfl rfl (fun _ => ⟨fun _ => nd4 (by omega) (by omega), fun _ => by unfold dpu; omega, fun _ => by unfold dpn; omega⟩) U284 hKp283
                  have m285 : (sI H284 h0 (X.1.2 11 12)).toInt = (sI H283 h0 (X.1.2 11 12)).toInt := congrArg Int32.toInt (up_nI U284 (ne_k g0 gca (by decide)))
                  have m286 : (sI H284 h0 (X.1.2 11 14)).toInt = (sI H283 h0 (X.1.2 11 14)).toInt := congrArg Int32.toInt (up_nI U284 (ne_k g0 gca (by decide)))
                  have m287 := congrArg tk m286
                  have m288 : (sI H284 h0 (X.1.2 11 16)).toInt = (sI H283 h0 (X.1.2 11 16)).toInt := congrArg Int32.toInt (up_nI U284 (ne_k g0 gca (by decide)))
                  have e289 := up_I U284
                  have hz8 := tk_nn (sI H284 h0 (X.1.2 11 14)).toInt
                  exact ret H284 locs284 _ _ dX12_readTest_146 ⟨hKp284, ⟨by omega, by omega, by omega, by omega⟩⟩ hC284 hS284
                · refine lv_bipush (v := 99) hx hb dX12_readTest_134 rfl ?_
                  refine lv_goto (tgt := 142) hx hb dX12_readTest_136 rfl ?_
                  refine q_goI (q_runV (As := [.int 0, .int 99]) (rest := [.int v281, .ref ca]) E hC280 hS280 (m_X12_count l X Γ H280 hC280 h0 g0 0 (a1 := 0) (by decide) 99 (a2 := 99) (by decide) ca gca uc (by omega) (by omega) (by omega) (by omega)) cw_X12_count cl_RX12_248 g0 ⟨rfl, rfl⟩ rfl hl.1 rfl (show _ ≤ _ from by simp [Value.category]) (by decide) dX12_readTest_142) hS280 (fun v290 H290 locs290 hr290 hC290 hS290 => ?_)
                  obtain ⟨hp290, hr290⟩ := hr290
                  have hKp290 := hKp280.tr (hp290.mono rfl)
                  obtain ⟨f290_0, f290_1, f290_2, f290_3, f290_4, f290_5, f290_6, f290_7⟩ := hr290
                  refine q_cast E hC290 hS290 gca (a := (a1 + 2)) ev281i (by omega) (by omega) (cs_n244 (a := (a1 + 2)) (by omega) (by omega)) dX12_readTest_145 (fun H291 locs291 hC291 hS291 U291 => ?_)
                  have hKp291 := Kp.upD gca rfl rfl (fun _ => ⟨fun _ => nd4 (by omega) (by omega), fun _ => by unfold dpu; omega, fun _ => by unfold dpn; omega⟩) U291 hKp290
                  have m292 : (sI H291 h0 (X.1.2 11 12)).toInt = (sI H290 h0 (X.1.2 11 12)).toInt := congrArg Int32.toInt (up_nI U291 (ne_k g0 gca (by decide)))
                  have m293 : (sI H291 h0 (X.1.2 11 14)).toInt = (sI H290 h0 (X.1.2 11 14)).toInt := congrArg Int32.toInt (up_nI U291 (ne_k g0 gca (by decide)))
                  have m294 := congrArg tk m293
                  have m295 : (sI H291 h0 (X.1.2 11 16)).toInt = (sI H290 h0 (X.1.2 11 16)).toInt := congrArg Int32.toInt (up_nI U291 (ne_k g0 gca (by decide)))
                  have e296 := up_I U291
                  have hz8 := tk_nn (sI H291 h0 (X.1.2 11 14)).toInt
                  exact ret H291 locs291 _ _ dX12_readTest_146 ⟨hKp291, ⟨by omega, by omega, by omega, by omega⟩⟩ hC291 hS291
              · refine q_if_ne hx hb (a := 0) (by decide) (tgt := 112) dX12_readTest_100 rfl (fun c297 => absurd c297 (by omega)) (fun c297 => ?_)
                refine lv_aload_n hx hb dX12_readTest_103 rfl (lv_at hl 1 rfl) ?_
                refine lv_bipush (v := 61) hx hb dX12_readTest_104 rfl ?_
                refine q_goIp (q_runV (As := [.int 61]) (rest := [.ref h0]) E hC252 hS278 (m_X12_isSign l X Γ H252 hC252 h0 g0 61 (a1 := 61) (by decide) ca gca uc) cw_X12_isSign cl_RX12_255 g0 ⟨rfl, rfl⟩ rfl hl.1 rfl (show _ ≤ _ from by simp [Value.category]) (by decide) dX12_readTest_106) hS278 (fun v298 locs298 hr298 hS298 => ?_)
                rcases hr298 with ⟨rfl, f298a⟩ | ⟨rfl, -⟩
                · refine q_if_eq hx hb (a := 1) (by decide) (tgt := 116) dX12_readTest_109 rfl (fun c299 => absurd c299 (by omega)) (fun c299 => ?_)
                  refine lv_iconst (v := 1) hx hb dX12_readTest_112 rfl ?_
                  refine lv_goto (tgt := 117) hx hb dX12_readTest_113 rfl ?_
                  refine q_goV (q_runV (As := [.int 1]) (rest := []) E hC252 hS298 (m_X12_must l X Γ H252 hC252 h0 g0 1 (a1 := 1) (by decide) ca gca uc (by omega) (by omega)) cw_X12_must cl_RX12_244 g0 ⟨rfl, rfl⟩ rfl hl.1 rfl (Nat.zero_le _) (by decide) dX12_readTest_117) hS298 (fun H300 locs300 hr300 hC300 hS300 => ?_)
                  obtain ⟨hp300, hr300⟩ := hr300
                  have hKp300 := hKp252.tr (hp300.mono rfl)
                  obtain ⟨f300_0, f300_1, f300_2, f300_3, f300_4⟩ := hr300
                  refine lv_aload_n hx hb dX12_readTest_120 rfl (lv_at hl 1 rfl) ?_
                  refine q_getC E hC300 g0 fa_RX12_35 uc dX12_readTest_121 ?_
                  refine lv_iload_n hx hb dX12_readTest_124 rfl (lv_at hl 2 rfl) ?_
                  refine lv_iconst (v := 2) hx hb dX12_readTest_125 rfl ?_
                  refine lv_iadd hx hb dX12_readTest_126 (lv_topi (fun v301 ev301 => ?_))
                  have ev301i : v301.toInt = (a1 + 2) := i_add ev301 e1 (by decide) (by omega) (by omega)
                  refine lv_aload_n hx hb dX12_readTest_127 rfl (lv_at hl 1 rfl) ?_
                  refine lv_iconst (v := 0) hx hb dX12_readTest_128 rfl ?_
                  refine lv_iload_n hx hb dX12_readTest_129 rfl (lv_at hl 0 rfl) ?_
                  refine lv_iconst (v := 1) hx hb dX12_readTest_130 rfl ?_
                  refine q_icmp_ne hx hb (a := v21.toInt) (b := 1) rfl (by decide) (tgt := 139) dX12_readTest_131 rfl (fun c302 => ?_) (fun c302 => ?_)
                  · refine lv_sipush (v := 999) hx hb dX12_readTest_139 rfl ?_
                    refine q_goI (q_runV (As := [.int 0, .int 999]) (rest := [.int v301, .ref ca]) E hC300 hS300 (m_X12_count l X Γ H300 hC300 h0 g0 0 (a1 := 0) (by decide) 999 (a2 := 999) (by decide) ca gca uc (by omega) (by omega) (by omega) (by omega)) cw_X12_count cl_RX12_248 g0 ⟨rfl, rfl⟩ rfl hl.1 rfl (show _ ≤ _ from by simp [Value.category]) (by decide) dX12_readTest_142) hS300 (fun v303 H303 locs303 hr303 hC303 hS303 => ?_)
                    obtain ⟨hp303, hr303⟩ := hr303
                    have hKp303 := hKp300.tr (hp303.mono rfl)
                    obtain ⟨f303_0, f303_1, f303_2, f303_3, f303_4, f303_5, f303_6, f303_7⟩ := hr303
                    refine q_cast E hC303 hS303 gca (a := (a1 + 2)) ev301i (by omega) (by omega) (cs_n244 (a := (a1 + 2)) (by omega) (by omega)) dX12_readTest_145 (fun H304 locs304 hC304 hS304 U304 => ?_)
                    have hKp304 := Kp.upD gca rfl rfl (fun _ => ⟨fun _ => nd4 (by omega) (by omega), fun _ => by unfold dpu; omega, fun _ => by unfold dpn; omega⟩) U304 hKp303
                    have m305 : (sI H304 h0 (X.1.2 11 12)).toInt = (sI H303 h0 (X.1.2 11 12)).toInt := congrArg Int32.toInt (up_nI U304 (ne_k g0 gca (by decide)))
                    have m306 : (sI H304 h0 (X.1.2 11 14)).toInt = (sI H303 h0 (X.1.2 11 14)).toInt := congrArg Int32.toInt (up_nI U304 (ne_k g0 gca (by decide)))
                    have m307 := congrArg tk m306
                    have m308 : (sI H304 h0 (X.1.2 11 16)).toInt = (sI H303 h0 (X.1.2 11 16)).toInt := congrArg Int32.toInt (up_nI U304 (ne_k g0 gca (by decide)))
                    have e309 := up_I U304
                    have hz8 := tk_nn (sI H304 h0 (X.1.2 11 14)).toInt
                    exact ret H304 locs304 _ _ dX12_readTest_146 ⟨hKp304, ⟨by omega, by omega, by omega, by omega⟩⟩ hC304 hS304
                  · refine lv_bipush (v := 99) hx hb dX12_readTest_134 rfl ?_
                    refine lv_goto (tgt := 142) hx hb dX12_readTest_136 rfl ?_
                    refine q_goI (q_runV (As := [.int 0, .int 99]) (rest := [.int v301, .ref ca]) E hC300 hS300 (m_X12_count l X Γ H300 hC300 h0 g0 0 (a1 := 0) (by decide) 99 (a2 := 99) (by decide) ca gca uc (by omega) (by omega) (by omega) (by omega)) cw_X12_count cl_RX12_248 g0 ⟨rfl, rfl⟩ rfl hl.1 rfl (show _ ≤ _ from by simp [Value.category]) (by decide) dX12_readTest_142) hS300 (fun v310 H310 locs310 hr310 hC310 hS310 => ?_)
                    obtain ⟨hp310, hr310⟩ := hr310
                    have hKp310 := hKp300.tr (hp310.mono rfl)
                    obtain ⟨f310_0, f310_1, f310_2, f310_3, f310_4, f310_5, f310_6, f310_7⟩ := hr310
                    refine q_cast E hC310 hS310 gca (a := (a1 + 2)) ev301i (by omega) (by omega) (cs_n244 (a := (a1 + 2)) (by omega) (by omega)) dX12_readTest_145 (fun H311 locs311 hC311 hS311 U311 => ?_)
                    have hKp311 := Kp.upD gca rfl rfl (fun _ => ⟨fun _ => nd4 (by omega) (by omega), fun _ => by unfold dpu; omega, fun _ => by unfold dpn; omega⟩) U311 hKp310
                    have m312 : (sI H311 h0 (X.1.2 11 12)).toInt = (sI H310 h0 (X.1.2 11 12)).toInt := congrArg Int32.toInt (up_nI U311 (ne_k g0 gca (by decide)))
                    have m313 : (sI H311 h0 (X.1.2 11 14)).toInt = (sI H310 h0 (X.1.2 11 14)).toInt := congrArg Int32.toInt (up_nI U311 (ne_k g0 gca (by decide)))
                    have m314 := congrArg tk m313
                    have m315 : (sI H311 h0 (X.1.2 11 16)).toInt = (sI H310 h0 (X.1.2 11 16)).toInt := congrArg Int32.toInt (up_nI U311 (ne_k g0 gca (by decide)))
                    have e316 := up_I U311
                    have hz8 := tk_nn (sI H311 h0 (X.1.2 11 14)).toInt
                    exact ret H311 locs311 _ _ dX12_readTest_146 ⟨hKp311, ⟨by omega, by omega, by omega, by omega⟩⟩ hC311 hS311
                · refine q_if_eq hx hb (a := 0) (by decide) (tgt := 116) dX12_readTest_109 rfl (fun c317 => ?_) (fun c317 => absurd c317 (by omega))
                  refine lv_iconst (v := 0) hx hb dX12_readTest_116 rfl ?_
                  refine q_goV (q_runV (As := [.int 0]) (rest := []) E hC252 hS298 (m_X12_must l X Γ H252 hC252 h0 g0 0 (a1 := 0) (by decide) ca gca uc (by omega) (by omega)) cw_X12_must cl_RX12_244 g0 ⟨rfl, rfl⟩ rfl hl.1 rfl (Nat.zero_le _) (by decide) dX12_readTest_117) hS298 (fun H318 locs318 hr318 hC318 hS318 => ?_)
                  obtain ⟨hp318, hr318⟩ := hr318
                  have hKp318 := hKp252.tr (hp318.mono rfl)
                  obtain ⟨f318_0, f318_1, f318_2, f318_3, f318_4⟩ := hr318
                  refine lv_aload_n hx hb dX12_readTest_120 rfl (lv_at hl 1 rfl) ?_
                  refine q_getC E hC318 g0 fa_RX12_35 uc dX12_readTest_121 ?_
                  refine lv_iload_n hx hb dX12_readTest_124 rfl (lv_at hl 2 rfl) ?_
                  refine lv_iconst (v := 2) hx hb dX12_readTest_125 rfl ?_
                  refine lv_iadd hx hb dX12_readTest_126 (lv_topi (fun v319 ev319 => ?_))
                  have ev319i : v319.toInt = (a1 + 2) := i_add ev319 e1 (by decide) (by omega) (by omega)
                  refine lv_aload_n hx hb dX12_readTest_127 rfl (lv_at hl 1 rfl) ?_
                  refine lv_iconst (v := 0) hx hb dX12_readTest_128 rfl ?_
                  refine lv_iload_n hx hb dX12_readTest_129 rfl (lv_at hl 0 rfl) ?_
                  refine lv_iconst (v := 1) hx hb dX12_readTest_130 rfl ?_
                  refine q_icmp_ne hx hb (a := v21.toInt) (b := 1) rfl (by decide) (tgt := 139) dX12_readTest_131 rfl (fun c320 => ?_) (fun c320 => ?_)
                  · refine lv_sipush (v := 999) hx hb dX12_readTest_139 rfl ?_
                    refine q_goI (q_runV (As := [.int 0, .int 999]) (rest := [.int v319, .ref ca]) E hC318 hS318 (m_X12_count l X Γ H318 hC318 h0 g0 0 (a1 := 0) (by decide) 999 (a2 := 999) (by decide) ca gca uc (by omega) (by omega) (by omega) (by omega)) cw_X12_count cl_RX12_248 g0 ⟨rfl, rfl⟩ rfl hl.1 rfl (show _ ≤ _ from by simp [Value.category]) (by decide) dX12_readTest_142) hS318 (fun v321 H321 locs321 hr321 hC321 hS321 => ?_)
                    obtain ⟨hp321, hr321⟩ := hr321
                    have hKp321 := hKp318.tr (hp321.mono rfl)
                    obtain ⟨f321_0, f321_1, f321_2, f321_3, f321_4, f321_5, f321_6, f321_7⟩ := hr321
                    refine q_cast E hC321 hS321 gca (a := (a1 + 2)) ev319i (by omega) (by omega) (cs_n244 (a := (a1 + 2)) (by omega) (by omega)) dX12_readTest_145 (fun H322 locs322 hC322 hS322 U322 => ?_)
                    have hKp322 := Kp.upD gca rfl rfl (fun _ => ⟨fun _ => nd4 (by omega) (by omega), fun _ => by unfold dpu; omega, fun _ => by unfold dpn; omega⟩) U322 hKp321
                    have m323 : (sI H322 h0 (X.1.2 11 12)).toInt = (sI H321 h0 (X.1.2 11 12)).toInt := congrArg Int32.toInt (up_nI U322 (ne_k g0 gca (by decide)))
                    have m324 : (sI H322 h0 (X.1.2 11 14)).toInt = (sI H321 h0 (X.1.2 11 14)).toInt := congrArg Int32.toInt (up_nI U322 (ne_k g0 gca (by decide)))
                    have m325 := congrArg tk m324
                    have m326 : (sI H322 h0 (X.1.2 11 16)).toInt = (sI H321 h0 (X.1.2 11 16)).toInt := congrArg Int32.toInt (up_nI U322 (ne_k g0 gca (by decide)))
                    have e327 := up_I U322
                    have hz8 := tk_nn (sI H322 h0 (X.1.2 11 14)).toInt
                    exact ret H322 locs322 _ _ dX12_readTest_146 ⟨hKp322, ⟨by omega, by omega, by omega, by omega⟩⟩ hC322 hS322
                  · refine lv_bipush (v := 99) hx hb dX12_readTest_134 rfl ?_
                    refine lv_goto (tgt := 142) hx hb dX12_readTest_136 rfl ?_
                    refine q_goI (q_runV (As := [.int 0, .int 99]) (rest := [.int v319, .ref ca]) E hC318 hS318 (m_X12_count l X Γ H318 hC318 h0 g0 0 (a1 := 0) (by decide) 99 (a2 := 99) (by decide) ca gca uc (by omega) (by omega) (by omega) (by omega)) cw_X12_count cl_RX12_248 g0 ⟨rfl, rfl⟩ rfl hl.1 rfl (show _ ≤ _ from by simp [Value.category]) (by decide) dX12_readTest_142) hS318 (fun v328 H328 locs328 hr328 hC328 hS328 => ?_)
                    obtain ⟨hp328, hr328⟩ := hr328
                    have hKp328 := hKp318.tr (hp328.mono rfl)
                    obtain ⟨f328_0, f328_1, f328_2, f328_3, f328_4, f328_5, f328_6, f328_7⟩ := hr328
                    refine q_cast E hC328 hS328 gca (a := (a1 + 2)) ev319i (by omega) (by omega) (cs_n244 (a := (a1 + 2)) (by omega) (by omega)) dX12_readTest_145 (fun H329 locs329 hC329 hS329 U329 => ?_)
                    have hKp329 := Kp.upD gca rfl rfl (fun _ => ⟨fun _ => nd4 (by omega) (by omega), fun _ => by unfold dpu; omega, fun _ => by unfold dpn; omega⟩) U329 hKp328
                    have m330 : (sI H329 h0 (X.1.2 11 12)).toInt = (sI H328 h0 (X.1.2 11 12)).toInt := congrArg Int32.toInt (up_nI U329 (ne_k g0 gca (by decide)))
                    have m331 : (sI H329 h0 (X.1.2 11 14)).toInt = (sI H328 h0 (X.1.2 11 14)).toInt := congrArg Int32.toInt (up_nI U329 (ne_k g0 gca (by decide)))
                    have m332 := congrArg tk m331
                    have m333 : (sI H329 h0 (X.1.2 11 16)).toInt = (sI H328 h0 (X.1.2 11 16)).toInt := congrArg Int32.toInt (up_nI U329 (ne_k g0 gca (by decide)))
                    have e334 := up_I U329
                    have hz8 := tk_nn (sI H329 h0 (X.1.2 11 14)).toInt
                    exact ret H329 locs329 _ _ dX12_readTest_146 ⟨hKp329, ⟨by omega, by omega, by omega, by omega⟩⟩ hC329 hS329
        · have hz8 := tk_nn (sI H153 h0 (X.1.2 11 14)).toInt
          exact ret H153 locs153 _ _ dX12_readTest_58 ⟨hKp153, ⟨by omega, by omega, by omega, by omega⟩⟩ hC153 hS153
    · refine lv_aload_n hx hb dX12_readTest_33 rfl (lv_at hl 1 rfl) ?_
      refine q_getC E hC153 g0 fa_RX12_35 uc dX12_readTest_34 ?_
      refine lv_iload_n hx hb dX12_readTest_37 rfl (lv_at hl 2 rfl) ?_
      refine lv_iconst (v := 1) hx hb dX12_readTest_38 rfl ?_
      refine lv_iadd hx hb dX12_readTest_39 (lv_topi (fun v335 ev335 => ?_))
      have ev335i : v335.toInt = (a1 + 1) := i_add ev335 e1 (by decide) (by omega) (by omega)
      refine lv_aload_n hx hb dX12_readTest_40 rfl (lv_at hl 1 rfl) ?_
      refine lv_iconst (v := 0) hx hb dX12_readTest_41 rfl ?_
      refine q_goI (q_runV (As := [.int 0]) (rest := [.int v335, .ref ca]) E hC153 hS153 (m_X12_readPlace l X Γ H153 hC153 h0 g0 0 (a1 := 0) (by decide) ca gca uc) cw_X12_readPlace cl_RX12_273 g0 ⟨rfl, rfl⟩ rfl hl.1 rfl (show _ ≤ _ from by simp [Value.category]) (by decide) dX12_readTest_42) hS153 (fun v336 H336 locs336 hr336 hC336 hS336 => ?_)
      obtain ⟨hp336, hr336⟩ := hr336
      have hKp336 := hKp153.tr (hp336.mono rfl)
      obtain ⟨f336_0, f336_1, f336_2, f336_3, f336_4, f336_5⟩ := hr336
      refine q_cast E hC336 hS336 gca (a := (a1 + 1)) ev335i (by omega) (by omega) (cs_n244 (a := (a1 + 1)) (by omega) (by omega)) dX12_readTest_45 (fun H337 locs337 hC337 hS337 U337 => ?_)
      have hKp337 := Kp.upD gca rfl rfl (fun _ => ⟨fun _ => nd4 (by omega) (by omega), fun _ => by unfold dpu; omega, fun _ => by unfold dpn; omega⟩) U337 hKp336
      have m338 : (sI H337 h0 (X.1.2 11 12)).toInt = (sI H336 h0 (X.1.2 11 12)).toInt := congrArg Int32.toInt (up_nI U337 (ne_k g0 gca (by decide)))
      have m339 : (sI H337 h0 (X.1.2 11 14)).toInt = (sI H336 h0 (X.1.2 11 14)).toInt := congrArg Int32.toInt (up_nI U337 (ne_k g0 gca (by decide)))
      have m340 := congrArg tk m339
      have m341 : (sI H337 h0 (X.1.2 11 16)).toInt = (sI H336 h0 (X.1.2 11 16)).toInt := congrArg Int32.toInt (up_nI U337 (ne_k g0 gca (by decide)))
      have e342 := up_I U337
      refine lv_aload_n hx hb dX12_readTest_46 rfl (lv_at hl 1 rfl) ?_
      refine q_getI E hC337 g0 fa_RX12_218 dX12_readTest_47 (fun v343 ev343 lv343 uv343 => ?_)
      have m344 : (sI H337 h0 (X.1.2 11 12)).toInt = v343.toInt := (congrArg Int32.toInt ev343).trans rfl
      refine q_if_gt hx hb (a := v343.toInt) rfl (tgt := 58) dX12_readTest_50 rfl (fun c345 => ?_) (fun c345 => ?_)
      · have hz8 := tk_nn (sI H337 h0 (X.1.2 11 14)).toInt
        exact ret H337 locs337 _ _ dX12_readTest_58 ⟨hKp337, ⟨by omega, by omega, by omega, by omega⟩⟩ hC337 hS337
      · refine lv_iload_n hx hb dX12_readTest_53 rfl (lv_at hl 0 rfl) ?_
        refine lv_iconst (v := 2) hx hb dX12_readTest_54 rfl ?_
        refine q_icmp_ne hx hb (a := v21.toInt) (b := 2) rfl (by decide) (tgt := 59) dX12_readTest_55 rfl (fun c346 => ?_) (fun c346 => absurd c346 (by omega))
        refine lv_aload_n hx hb dX12_readTest_59 rfl (lv_at hl 1 rfl) ?_
        refine q_getC E hC337 g0 fa_RX12_35 uc dX12_readTest_60 ?_
        refine lv_iload_n hx hb dX12_readTest_63 rfl (lv_at hl 2 rfl) ?_
        refine lv_bipush (v := 7) hx hb dX12_readTest_64 rfl ?_
        refine lv_iadd hx hb dX12_readTest_66 (lv_topi (fun v347 ev347 => ?_))
        have ev347i : v347.toInt = (a1 + 7) := i_add ev347 e1 (by decide) (by omega) (by omega)
        refine lv_aload_n hx hb dX12_readTest_67 rfl (lv_at hl 1 rfl) ?_
        refine q_getI E hC337 g0 fa_RX12_120 dX12_readTest_68 (fun v348 ev348 _ _ => ?_)
        have m349 : (sI H337 h0 (X.1.2 11 14)).toInt = v348.toInt := (congrArg Int32.toInt ev348).trans rfl
        refine lv_iconst (v := 3) hx hb dX12_readTest_71 rfl ?_
        refine q_icmp_ne hx hb (a := v348.toInt) (b := 3) rfl (by decide) (tgt := 82) dX12_readTest_72 rfl (fun c350 => ?_) (fun c350 => ?_)
        · refine lv_iconst (v := 0) hx hb dX12_readTest_82 rfl ?_
          refine q_cast E hC337 hS337 gca (a := (a1 + 7)) ev347i (by omega) (by omega) (cs_n244 (a := (a1 + 7)) (by omega) (by omega)) dX12_readTest_83 (fun H351 locs351 hC351 hS351 U351 => ?_)
          have hKp351 := Kp.upD gca rfl rfl (fun _ => ⟨fun _ => nd4 (by omega) (by omega), fun _ => by unfold dpu; omega, fun _ => by unfold dpn; omega⟩) U351 hKp337
          have m352 : (sI H351 h0 (X.1.2 11 12)).toInt = (sI H337 h0 (X.1.2 11 12)).toInt := congrArg Int32.toInt (up_nI U351 (ne_k g0 gca (by decide)))
          have m353 : (sI H351 h0 (X.1.2 11 14)).toInt = (sI H337 h0 (X.1.2 11 14)).toInt := congrArg Int32.toInt (up_nI U351 (ne_k g0 gca (by decide)))
          have m354 := congrArg tk m353
          have m355 : (sI H351 h0 (X.1.2 11 16)).toInt = (sI H337 h0 (X.1.2 11 16)).toInt := congrArg Int32.toInt (up_nI U351 (ne_k g0 gca (by decide)))
          have e356 := up_I U351
          refine lv_aload_n hx hb dX12_readTest_84 rfl (lv_at hl 1 rfl) ?_
          refine lv_aload_n hx hb dX12_readTest_85 rfl (lv_at hl 1 rfl) ?_
          refine lv_bipush (v := 60) hx hb dX12_readTest_86 rfl ?_
          refine q_goIp (q_runV (As := [.int 60]) (rest := [.ref h0]) E hC351 hS351 (m_X12_isSign l X Γ H351 hC351 h0 g0 60 (a1 := 60) (by decide) ca gca uc) cw_X12_isSign cl_RX12_255 g0 ⟨rfl, rfl⟩ rfl hl.1 rfl (show _ ≤ _ from by simp [Value.category]) (by decide) dX12_readTest_88) hS351 (fun v357 locs357 hr357 hS357 => ?_)
          rcases hr357 with ⟨rfl, f357a⟩ | ⟨rfl, -⟩
          · refine q_if_ne hx hb (a := 1) (by decide) (tgt := 112) dX12_readTest_91 rfl (fun c358 => ?_) (fun c358 => absurd c358 (by omega))
            refine lv_iconst (v := 1) hx hb dX12_readTest_112 rfl ?_
            refine lv_goto (tgt := 117) hx hb dX12_readTest_113 rfl ?_
            refine q_goV (q_runV (As := [.int 1]) (rest := []) E hC351 hS357 (m_X12_must l X Γ H351 hC351 h0 g0 1 (a1 := 1) (by decide) ca gca uc (by omega) (by omega)) cw_X12_must cl_RX12_244 g0 ⟨rfl, rfl⟩ rfl hl.1 rfl (Nat.zero_le _) (by decide) dX12_readTest_117) hS357 (fun H359 locs359 hr359 hC359 hS359 => ?_)
            obtain ⟨hp359, hr359⟩ := hr359
            have hKp359 := hKp351.tr (hp359.mono rfl)
            obtain ⟨f359_0, f359_1, f359_2, f359_3, f359_4⟩ := hr359
            refine lv_aload_n hx hb dX12_readTest_120 rfl (lv_at hl 1 rfl) ?_
            refine q_getC E hC359 g0 fa_RX12_35 uc dX12_readTest_121 ?_
            refine lv_iload_n hx hb dX12_readTest_124 rfl (lv_at hl 2 rfl) ?_
            refine lv_iconst (v := 2) hx hb dX12_readTest_125 rfl ?_
            refine lv_iadd hx hb dX12_readTest_126 (lv_topi (fun v360 ev360 => ?_))
            have ev360i : v360.toInt = (a1 + 2) := i_add ev360 e1 (by decide) (by omega) (by omega)
            refine lv_aload_n hx hb dX12_readTest_127 rfl (lv_at hl 1 rfl) ?_
            refine lv_iconst (v := 0) hx hb dX12_readTest_128 rfl ?_
            refine lv_iload_n hx hb dX12_readTest_129 rfl (lv_at hl 0 rfl) ?_
            refine lv_iconst (v := 1) hx hb dX12_readTest_130 rfl ?_
            refine q_icmp_ne hx hb (a := v21.toInt) (b := 1) rfl (by decide) (tgt := 139) dX12_readTest_131 rfl (fun c361 => absurd c361 (by omega)) (fun c361 => ?_)
            refine lv_bipush (v := 99) hx hb dX12_readTest_134 rfl ?_
            refine lv_goto (tgt := 142) hx hb dX12_readTest_136 rfl ?_
            refine q_goI (q_runV (As := [.int 0, .int 99]) (rest := [.int v360, .ref ca]) E hC359 hS359 (m_X12_count l X Γ H359 hC359 h0 g0 0 (a1 := 0) (by decide) 99 (a2 := 99) (by decide) ca gca uc (by omega) (by omega) (by omega) (by omega)) cw_X12_count cl_RX12_248 g0 ⟨rfl, rfl⟩ rfl hl.1 rfl (show _ ≤ _ from by simp [Value.category]) (by decide) dX12_readTest_142) hS359 (fun v362 H362 locs362 hr362 hC362 hS362 => ?_)
            obtain ⟨hp362, hr362⟩ := hr362
            have hKp362 := hKp359.tr (hp362.mono rfl)
            obtain ⟨f362_0, f362_1, f362_2, f362_3, f362_4, f362_5, f362_6, f362_7⟩ := hr362
            refine q_cast E hC362 hS362 gca (a := (a1 + 2)) ev360i (by omega) (by omega) (cs_n244 (a := (a1 + 2)) (by omega) (by omega)) dX12_readTest_145 (fun H363 locs363 hC363 hS363 U363 => ?_)
            have hKp363 := Kp.upD gca rfl rfl (fun _ => ⟨fun _ => nd4 (by omega) (by omega), fun _ => by unfold dpu; omega, fun _ => by unfold dpn; omega⟩) U363 hKp362
            have m364 : (sI H363 h0 (X.1.2 11 12)).toInt = (sI H362 h0 (X.1.2 11 12)).toInt := congrArg Int32.toInt (up_nI U363 (ne_k g0 gca (by decide)))
            have m365 : (sI H363 h0 (X.1.2 11 14)).toInt = (sI H362 h0 (X.1.2 11 14)).toInt := congrArg Int32.toInt (up_nI U363 (ne_k g0 gca (by decide)))
            have m366 := congrArg tk m365
            have m367 : (sI H363 h0 (X.1.2 11 16)).toInt = (sI H362 h0 (X.1.2 11 16)).toInt := congrArg Int32.toInt (up_nI U363 (ne_k g0 gca (by decide)))
            have e368 := up_I U363
            have hz8 := tk_nn (sI H363 h0 (X.1.2 11 14)).toInt
            exact ret H363 locs363 _ _ dX12_readTest_146 ⟨hKp363, ⟨by omega, by omega, by omega, by omega⟩⟩ hC363 hS363
          · refine q_if_ne hx hb (a := 0) (by decide) (tgt := 112) dX12_readTest_91 rfl (fun c369 => absurd c369 (by omega)) (fun c369 => ?_)
            refine lv_aload_n hx hb dX12_readTest_94 rfl (lv_at hl 1 rfl) ?_
            refine lv_bipush (v := 62) hx hb dX12_readTest_95 rfl ?_
            refine q_goIp (q_runV (As := [.int 62]) (rest := [.ref h0]) E hC351 hS357 (m_X12_isSign l X Γ H351 hC351 h0 g0 62 (a1 := 62) (by decide) ca gca uc) cw_X12_isSign cl_RX12_255 g0 ⟨rfl, rfl⟩ rfl hl.1 rfl (show _ ≤ _ from by simp [Value.category]) (by decide) dX12_readTest_97) hS357 (fun v370 locs370 hr370 hS370 => ?_)
            rcases hr370 with ⟨rfl, f370a⟩ | ⟨rfl, -⟩
            · refine q_if_ne hx hb (a := 1) (by decide) (tgt := 112) dX12_readTest_100 rfl (fun c371 => ?_) (fun c371 => absurd c371 (by omega))
              refine lv_iconst (v := 1) hx hb dX12_readTest_112 rfl ?_
              refine lv_goto (tgt := 117) hx hb dX12_readTest_113 rfl ?_
              refine q_goV (q_runV (As := [.int 1]) (rest := []) E hC351 hS370 (m_X12_must l X Γ H351 hC351 h0 g0 1 (a1 := 1) (by decide) ca gca uc (by omega) (by omega)) cw_X12_must cl_RX12_244 g0 ⟨rfl, rfl⟩ rfl hl.1 rfl (Nat.zero_le _) (by decide) dX12_readTest_117) hS370 (fun H372 locs372 hr372 hC372 hS372 => ?_)
              obtain ⟨hp372, hr372⟩ := hr372
              have hKp372 := hKp351.tr (hp372.mono rfl)
              obtain ⟨f372_0, f372_1, f372_2, f372_3, f372_4⟩ := hr372
              refine lv_aload_n hx hb dX12_readTest_120 rfl (lv_at hl 1 rfl) ?_
              refine q_getC E hC372 g0 fa_RX12_35 uc dX12_readTest_121 ?_
              refine lv_iload_n hx hb dX12_readTest_124 rfl (lv_at hl 2 rfl) ?_
              refine lv_iconst (v := 2) hx hb dX12_readTest_125 rfl ?_
              refine lv_iadd hx hb dX12_readTest_126 (lv_topi (fun v373 ev373 => ?_))
              have ev373i : v373.toInt = (a1 + 2) := i_add ev373 e1 (by decide) (by omega) (by omega)
              refine lv_aload_n hx hb dX12_readTest_127 rfl (lv_at hl 1 rfl) ?_
              refine lv_iconst (v := 0) hx hb dX12_readTest_128 rfl ?_
              refine lv_iload_n hx hb dX12_readTest_129 rfl (lv_at hl 0 rfl) ?_
              refine lv_iconst (v := 1) hx hb dX12_readTest_130 rfl ?_
              refine q_icmp_ne hx hb (a := v21.toInt) (b := 1) rfl (by decide) (tgt := 139) dX12_readTest_131 rfl (fun c374 => absurd c374 (by omega)) (fun c374 => ?_)
              refine lv_bipush (v := 99) hx hb dX12_readTest_134 rfl ?_
              refine lv_goto (tgt := 142) hx hb dX12_readTest_136 rfl ?_
              refine q_goI (q_runV (As := [.int 0, .int 99]) (rest := [.int v373, .ref ca]) E hC372 hS372 (m_X12_count l X Γ H372 hC372 h0 g0 0 (a1 := 0) (by decide) 99 (a2 := 99) (by decide) ca gca uc (by omega) (by omega) (by omega) (by omega)) cw_X12_count cl_RX12_248 g0 ⟨rfl, rfl⟩ rfl hl.1 rfl (show _ ≤ _ from by simp [Value.category]) (by decide) dX12_readTest_142) hS372 (fun v375 H375 locs375 hr375 hC375 hS375 => ?_)
              obtain ⟨hp375, hr375⟩ := hr375
              have hKp375 := hKp372.tr (hp375.mono rfl)
              obtain ⟨f375_0, f375_1, f375_2, f375_3, f375_4, f375_5, f375_6, f375_7⟩ := hr375
              refine q_cast E hC375 hS375 gca (a := (a1 + 2)) ev373i (by omega) (by omega) (cs_n244 (a := (a1 + 2)) (by omega) (by omega)) dX12_readTest_145 (fun H376 locs376 hC376 hS376 U376 => ?_)
              have hKp376 := Kp.upD gca rfl rfl (fun _ => ⟨fun _ => nd4 (by omega) (by omega), fun _ => by unfold dpu; omega, fun _ => by unfold dpn; omega⟩) U376 hKp375
              have m377 : (sI H376 h0 (X.1.2 11 12)).toInt = (sI H375 h0 (X.1.2 11 12)).toInt := congrArg Int32.toInt (up_nI U376 (ne_k g0 gca (by decide)))
              have m378 : (sI H376 h0 (X.1.2 11 14)).toInt = (sI H375 h0 (X.1.2 11 14)).toInt := congrArg Int32.toInt (up_nI U376 (ne_k g0 gca (by decide)))
              have m379 := congrArg tk m378
              have m380 : (sI H376 h0 (X.1.2 11 16)).toInt = (sI H375 h0 (X.1.2 11 16)).toInt := congrArg Int32.toInt (up_nI U376 (ne_k g0 gca (by decide)))
              have e381 := up_I U376
              have hz8 := tk_nn (sI H376 h0 (X.1.2 11 14)).toInt
              exact ret H376 locs376 _ _ dX12_readTest_146 ⟨hKp376, ⟨by omega, by omega, by omega, by omega⟩⟩ hC376 hS376
            · refine q_if_ne hx hb (a := 0) (by decide) (tgt := 112) dX12_readTest_100 rfl (fun c382 => absurd c382 (by omega)) (fun c382 => ?_)
              refine lv_aload_n hx hb dX12_readTest_103 rfl (lv_at hl 1 rfl) ?_
              refine lv_bipush (v := 61) hx hb dX12_readTest_104 rfl ?_
              refine q_goIp (q_runV (As := [.int 61]) (rest := [.ref h0]) E hC351 hS370 (m_X12_isSign l X Γ H351 hC351 h0 g0 61 (a1 := 61) (by decide) ca gca uc) cw_X12_isSign cl_RX12_255 g0 ⟨rfl, rfl⟩ rfl hl.1 rfl (show _ ≤ _ from by simp [Value.category]) (by decide) dX12_readTest_106) hS370 (fun v383 locs383 hr383 hS383 => ?_)
              rcases hr383 with ⟨rfl, f383a⟩ | ⟨rfl, -⟩
              · refine q_if_eq hx hb (a := 1) (by decide) (tgt := 116) dX12_readTest_109 rfl (fun c384 => absurd c384 (by omega)) (fun c384 => ?_)
                refine lv_iconst (v := 1) hx hb dX12_readTest_112 rfl ?_
                refine lv_goto (tgt := 117) hx hb dX12_readTest_113 rfl ?_
                refine q_goV (q_runV (As := [.int 1]) (rest := []) E hC351 hS383 (m_X12_must l X Γ H351 hC351 h0 g0 1 (a1 := 1) (by decide) ca gca uc (by omega) (by omega)) cw_X12_must cl_RX12_244 g0 ⟨rfl, rfl⟩ rfl hl.1 rfl (Nat.zero_le _) (by decide) dX12_readTest_117) hS383 (fun H385 locs385 hr385 hC385 hS385 => ?_)
                obtain ⟨hp385, hr385⟩ := hr385
                have hKp385 := hKp351.tr (hp385.mono rfl)
                obtain ⟨f385_0, f385_1, f385_2, f385_3, f385_4⟩ := hr385
                refine lv_aload_n hx hb dX12_readTest_120 rfl (lv_at hl 1 rfl) ?_
                refine q_getC E hC385 g0 fa_RX12_35 uc dX12_readTest_121 ?_
                refine lv_iload_n hx hb dX12_readTest_124 rfl (lv_at hl 2 rfl) ?_
                refine lv_iconst (v := 2) hx hb dX12_readTest_125 rfl ?_
                refine lv_iadd hx hb dX12_readTest_126 (lv_topi (fun v386 ev386 => ?_))
                have ev386i : v386.toInt = (a1 + 2) := i_add ev386 e1 (by decide) (by omega) (by omega)
                refine lv_aload_n hx hb dX12_readTest_127 rfl (lv_at hl 1 rfl) ?_
                refine lv_iconst (v := 0) hx hb dX12_readTest_128 rfl ?_
                refine lv_iload_n hx hb dX12_readTest_129 rfl (lv_at hl 0 rfl) ?_
                refine lv_iconst (v := 1) hx hb dX12_readTest_130 rfl ?_
                refine q_icmp_ne hx hb (a := v21.toInt) (b := 1) rfl (by decide) (tgt := 139) dX12_readTest_131 rfl (fun c387 => absurd c387 (by omega)) (fun c387 => ?_)
                refine lv_bipush (v := 99) hx hb dX12_readTest_134 rfl ?_
                refine lv_goto (tgt := 142) hx hb dX12_readTest_136 rfl ?_
                refine q_goI (q_runV (As := [.int 0, .int 99]) (rest := [.int v386, .ref ca]) E hC385 hS385 (m_X12_count l X Γ H385 hC385 h0 g0 0 (a1 := 0) (by decide) 99 (a2 := 99) (by decide) ca gca uc (by omega) (by omega) (by omega) (by omega)) cw_X12_count cl_RX12_248 g0 ⟨rfl, rfl⟩ rfl hl.1 rfl (show _ ≤ _ from by simp [Value.category]) (by decide) dX12_readTest_142) hS385 (fun v388 H388 locs388 hr388 hC388 hS388 => ?_)
                obtain ⟨hp388, hr388⟩ := hr388
                have hKp388 := hKp385.tr (hp388.mono rfl)
                obtain ⟨f388_0, f388_1, f388_2, f388_3, f388_4, f388_5, f388_6, f388_7⟩ := hr388
                refine q_cast E hC388 hS388 gca (a := (a1 + 2)) ev386i (by omega) (by omega) (cs_n244 (a := (a1 + 2)) (by omega) (by omega)) dX12_readTest_145 (fun H389 locs389 hC389 hS389 U389 => ?_)
                have hKp389 := Kp.upD gca rfl rfl (fun _ => ⟨fun _ => nd4 (by omega) (by omega), fun _ => by unfold dpu; omega, fun _ => by unfold dpn; omega⟩) U389 hKp388
                have m390 : (sI H389 h0 (X.1.2 11 12)).toInt = (sI H388 h0 (X.1.2 11 12)).toInt := congrArg Int32.toInt (up_nI U389 (ne_k g0 gca (by decide)))
                have m391 : (sI H389 h0 (X.1.2 11 14)).toInt = (sI H388 h0 (X.1.2 11 14)).toInt := congrArg Int32.toInt (up_nI U389 (ne_k g0 gca (by decide)))
                have m392 := congrArg tk m391
                have m393 : (sI H389 h0 (X.1.2 11 16)).toInt = (sI H388 h0 (X.1.2 11 16)).toInt := congrArg Int32.toInt (up_nI U389 (ne_k g0 gca (by decide)))
                have e394 := up_I U389
                have hz8 := tk_nn (sI H389 h0 (X.1.2 11 14)).toInt
                exact ret H389 locs389 _ _ dX12_readTest_146 ⟨hKp389, ⟨by omega, by omega, by omega, by omega⟩⟩ hC389 hS389
              · refine q_if_eq hx hb (a := 0) (by decide) (tgt := 116) dX12_readTest_109 rfl (fun c395 => ?_) (fun c395 => absurd c395 (by omega))
                refine lv_iconst (v := 0) hx hb dX12_readTest_116 rfl ?_
                refine q_goV (q_runV (As := [.int 0]) (rest := []) E hC351 hS383 (m_X12_must l X Γ H351 hC351 h0 g0 0 (a1 := 0) (by decide) ca gca uc (by omega) (by omega)) cw_X12_must cl_RX12_244 g0 ⟨rfl, rfl⟩ rfl hl.1 rfl (Nat.zero_le _) (by decide) dX12_readTest_117) hS383 (fun H396 locs396 hr396 hC396 hS396 => ?_)
                obtain ⟨hp396, hr396⟩ := hr396
                have hKp396 := hKp351.tr (hp396.mono rfl)
                obtain ⟨f396_0, f396_1, f396_2, f396_3, f396_4⟩ := hr396
                refine lv_aload_n hx hb dX12_readTest_120 rfl (lv_at hl 1 rfl) ?_
                refine q_getC E hC396 g0 fa_RX12_35 uc dX12_readTest_121 ?_
                refine lv_iload_n hx hb dX12_readTest_124 rfl (lv_at hl 2 rfl) ?_
                refine lv_iconst (v := 2) hx hb dX12_readTest_125 rfl ?_
                refine lv_iadd hx hb dX12_readTest_126 (lv_topi (fun v397 ev397 => ?_))
                have ev397i : v397.toInt = (a1 + 2) := i_add ev397 e1 (by decide) (by omega) (by omega)
                refine lv_aload_n hx hb dX12_readTest_127 rfl (lv_at hl 1 rfl) ?_
                refine lv_iconst (v := 0) hx hb dX12_readTest_128 rfl ?_
                refine lv_iload_n hx hb dX12_readTest_129 rfl (lv_at hl 0 rfl) ?_
                refine lv_iconst (v := 1) hx hb dX12_readTest_130 rfl ?_
                refine q_icmp_ne hx hb (a := v21.toInt) (b := 1) rfl (by decide) (tgt := 139) dX12_readTest_131 rfl (fun c398 => absurd c398 (by omega)) (fun c398 => ?_)
                refine lv_bipush (v := 99) hx hb dX12_readTest_134 rfl ?_
                refine lv_goto (tgt := 142) hx hb dX12_readTest_136 rfl ?_
                refine q_goI (q_runV (As := [.int 0, .int 99]) (rest := [.int v397, .ref ca]) E hC396 hS396 (m_X12_count l X Γ H396 hC396 h0 g0 0 (a1 := 0) (by decide) 99 (a2 := 99) (by decide) ca gca uc (by omega) (by omega) (by omega) (by omega)) cw_X12_count cl_RX12_248 g0 ⟨rfl, rfl⟩ rfl hl.1 rfl (show _ ≤ _ from by simp [Value.category]) (by decide) dX12_readTest_142) hS396 (fun v399 H399 locs399 hr399 hC399 hS399 => ?_)
                obtain ⟨hp399, hr399⟩ := hr399
                have hKp399 := hKp396.tr (hp399.mono rfl)
                obtain ⟨f399_0, f399_1, f399_2, f399_3, f399_4, f399_5, f399_6, f399_7⟩ := hr399
                refine q_cast E hC399 hS399 gca (a := (a1 + 2)) ev397i (by omega) (by omega) (cs_n244 (a := (a1 + 2)) (by omega) (by omega)) dX12_readTest_145 (fun H400 locs400 hC400 hS400 U400 => ?_)
                have hKp400 := Kp.upD gca rfl rfl (fun _ => ⟨fun _ => nd4 (by omega) (by omega), fun _ => by unfold dpu; omega, fun _ => by unfold dpn; omega⟩) U400 hKp399
                have m401 : (sI H400 h0 (X.1.2 11 12)).toInt = (sI H399 h0 (X.1.2 11 12)).toInt := congrArg Int32.toInt (up_nI U400 (ne_k g0 gca (by decide)))
                have m402 : (sI H400 h0 (X.1.2 11 14)).toInt = (sI H399 h0 (X.1.2 11 14)).toInt := congrArg Int32.toInt (up_nI U400 (ne_k g0 gca (by decide)))
                have m403 := congrArg tk m402
                have m404 : (sI H400 h0 (X.1.2 11 16)).toInt = (sI H399 h0 (X.1.2 11 16)).toInt := congrArg Int32.toInt (up_nI U400 (ne_k g0 gca (by decide)))
                have e405 := up_I U400
                have hz8 := tk_nn (sI H400 h0 (X.1.2 11 14)).toInt
                exact ret H400 locs400 _ _ dX12_readTest_146 ⟨hKp400, ⟨by omega, by omega, by omega, by omega⟩⟩ hC400 hS400
        · refine lv_aload_n hx hb dX12_readTest_75 rfl (lv_at hl 1 rfl) ?_
          refine q_getI E hC337 g0 fa_RX12_139 dX12_readTest_76 (fun v406 ev406 _ _ => ?_)
          refine lv_goto (tgt := 83) hx hb dX12_readTest_79 rfl ?_
          refine q_cast E hC337 hS337 gca (a := (a1 + 7)) ev347i (by omega) (by omega) (cs_n244 (a := (a1 + 7)) (by omega) (by omega)) dX12_readTest_83 (fun H407 locs407 hC407 hS407 U407 => ?_)
          have hKp407 := Kp.upD gca rfl rfl (fun _ => ⟨fun _ => nd4 (by omega) (by omega), fun _ => by unfold dpu; omega, fun _ => by unfold dpn; omega⟩) U407 hKp337
          have m408 : (sI H407 h0 (X.1.2 11 12)).toInt = (sI H337 h0 (X.1.2 11 12)).toInt := congrArg Int32.toInt (up_nI U407 (ne_k g0 gca (by decide)))
          have m409 : (sI H407 h0 (X.1.2 11 14)).toInt = (sI H337 h0 (X.1.2 11 14)).toInt := congrArg Int32.toInt (up_nI U407 (ne_k g0 gca (by decide)))
          have m410 := congrArg tk m409
          have m411 : (sI H407 h0 (X.1.2 11 16)).toInt = (sI H337 h0 (X.1.2 11 16)).toInt := congrArg Int32.toInt (up_nI U407 (ne_k g0 gca (by decide)))
          have e412 := up_I U407
          refine lv_aload_n hx hb dX12_readTest_84 rfl (lv_at hl 1 rfl) ?_
          refine lv_aload_n hx hb dX12_readTest_85 rfl (lv_at hl 1 rfl) ?_
          refine lv_bipush (v := 60) hx hb dX12_readTest_86 rfl ?_
          refine q_goIp (q_runV (As := [.int 60]) (rest := [.ref h0]) E hC407 hS407 (m_X12_isSign l X Γ H407 hC407 h0 g0 60 (a1 := 60) (by decide) ca gca uc) cw_X12_isSign cl_RX12_255 g0 ⟨rfl, rfl⟩ rfl hl.1 rfl (show _ ≤ _ from by simp [Value.category]) (by decide) dX12_readTest_88) hS407 (fun v413 locs413 hr413 hS413 => ?_)
          rcases hr413 with ⟨rfl, f413a⟩ | ⟨rfl, -⟩
          · refine q_if_ne hx hb (a := 1) (by decide) (tgt := 112) dX12_readTest_91 rfl (fun c414 => ?_) (fun c414 => absurd c414 (by omega))
            refine lv_iconst (v := 1) hx hb dX12_readTest_112 rfl ?_
            refine lv_goto (tgt := 117) hx hb dX12_readTest_113 rfl ?_
            refine q_goV (q_runV (As := [.int 1]) (rest := []) E hC407 hS413 (m_X12_must l X Γ H407 hC407 h0 g0 1 (a1 := 1) (by decide) ca gca uc (by omega) (by omega)) cw_X12_must cl_RX12_244 g0 ⟨rfl, rfl⟩ rfl hl.1 rfl (Nat.zero_le _) (by decide) dX12_readTest_117) hS413 (fun H415 locs415 hr415 hC415 hS415 => ?_)
            obtain ⟨hp415, hr415⟩ := hr415
            have hKp415 := hKp407.tr (hp415.mono rfl)
            obtain ⟨f415_0, f415_1, f415_2, f415_3, f415_4⟩ := hr415
            refine lv_aload_n hx hb dX12_readTest_120 rfl (lv_at hl 1 rfl) ?_
            refine q_getC E hC415 g0 fa_RX12_35 uc dX12_readTest_121 ?_
            refine lv_iload_n hx hb dX12_readTest_124 rfl (lv_at hl 2 rfl) ?_
            refine lv_iconst (v := 2) hx hb dX12_readTest_125 rfl ?_
            refine lv_iadd hx hb dX12_readTest_126 (lv_topi (fun v416 ev416 => ?_))
            have ev416i : v416.toInt = (a1 + 2) := i_add ev416 e1 (by decide) (by omega) (by omega)
            refine lv_aload_n hx hb dX12_readTest_127 rfl (lv_at hl 1 rfl) ?_
            refine lv_iconst (v := 0) hx hb dX12_readTest_128 rfl ?_
            refine lv_iload_n hx hb dX12_readTest_129 rfl (lv_at hl 0 rfl) ?_
            refine lv_iconst (v := 1) hx hb dX12_readTest_130 rfl ?_
            refine q_icmp_ne hx hb (a := v21.toInt) (b := 1) rfl (by decide) (tgt := 139) dX12_readTest_131 rfl (fun c417 => absurd c417 (by omega)) (fun c417 => ?_)
            refine lv_bipush (v := 99) hx hb dX12_readTest_134 rfl ?_
            refine lv_goto (tgt := 142) hx hb dX12_readTest_136 rfl ?_
            refine q_goI (q_runV (As := [.int 0, .int 99]) (rest := [.int v416, .ref ca]) E hC415 hS415 (m_X12_count l X Γ H415 hC415 h0 g0 0 (a1 := 0) (by decide) 99 (a2 := 99) (by decide) ca gca uc (by omega) (by omega) (by omega) (by omega)) cw_X12_count cl_RX12_248 g0 ⟨rfl, rfl⟩ rfl hl.1 rfl (show _ ≤ _ from by simp [Value.category]) (by decide) dX12_readTest_142) hS415 (fun v418 H418 locs418 hr418 hC418 hS418 => ?_)
            obtain ⟨hp418, hr418⟩ := hr418
            have hKp418 := hKp415.tr (hp418.mono rfl)
            obtain ⟨f418_0, f418_1, f418_2, f418_3, f418_4, f418_5, f418_6, f418_7⟩ := hr418
            refine q_cast E hC418 hS418 gca (a := (a1 + 2)) ev416i (by omega) (by omega) (cs_n244 (a := (a1 + 2)) (by omega) (by omega)) dX12_readTest_145 (fun H419 locs419 hC419 hS419 U419 => ?_)
            have hKp419 := Kp.upD gca rfl rfl (fun _ => ⟨fun _ => nd4 (by omega) (by omega), fun _ => by unfold dpu; omega, fun _ => by unfold dpn; omega⟩) U419 hKp418
            have m420 : (sI H419 h0 (X.1.2 11 12)).toInt = (sI H418 h0 (X.1.2 11 12)).toInt := congrArg Int32.toInt (up_nI U419 (ne_k g0 gca (by decide)))
            have m421 : (sI H419 h0 (X.1.2 11 14)).toInt = (sI H418 h0 (X.1.2 11 14)).toInt := congrArg Int32.toInt (up_nI U419 (ne_k g0 gca (by decide)))
            have m422 := congrArg tk m421
            have m423 : (sI H419 h0 (X.1.2 11 16)).toInt = (sI H418 h0 (X.1.2 11 16)).toInt := congrArg Int32.toInt (up_nI U419 (ne_k g0 gca (by decide)))
            have e424 := up_I U419
            have hz8 := tk_nn (sI H419 h0 (X.1.2 11 14)).toInt
            exact ret H419 locs419 _ _ dX12_readTest_146 ⟨hKp419, ⟨by omega, by omega, by omega, by omega⟩⟩ hC419 hS419
          · refine q_if_ne hx hb (a := 0) (by decide) (tgt := 112) dX12_readTest_91 rfl (fun c425 => absurd c425 (by omega)) (fun c425 => ?_)
            refine lv_aload_n hx hb dX12_readTest_94 rfl (lv_at hl 1 rfl) ?_
            refine lv_bipush (v := 62) hx hb dX12_readTest_95 rfl ?_
            refine q_goIp (q_runV (As := [.int 62]) (rest := [.ref h0]) E hC407 hS413 (m_X12_isSign l X Γ H407 hC407 h0 g0 62 (a1 := 62) (by decide) ca gca uc) cw_X12_isSign cl_RX12_255 g0 ⟨rfl, rfl⟩ rfl hl.1 rfl (show _ ≤ _ from by simp [Value.category]) (by decide) dX12_readTest_97) hS413 (fun v426 locs426 hr426 hS426 => ?_)
            rcases hr426 with ⟨rfl, f426a⟩ | ⟨rfl, -⟩
            · refine q_if_ne hx hb (a := 1) (by decide) (tgt := 112) dX12_readTest_100 rfl (fun c427 => ?_) (fun c427 => absurd c427 (by omega))
              refine lv_iconst (v := 1) hx hb dX12_readTest_112 rfl ?_
              refine lv_goto (tgt := 117) hx hb dX12_readTest_113 rfl ?_
              refine q_goV (q_runV (As := [.int 1]) (rest := []) E hC407 hS426 (m_X12_must l X Γ H407 hC407 h0 g0 1 (a1 := 1) (by decide) ca gca uc (by omega) (by omega)) cw_X12_must cl_RX12_244 g0 ⟨rfl, rfl⟩ rfl hl.1 rfl (Nat.zero_le _) (by decide) dX12_readTest_117) hS426 (fun H428 locs428 hr428 hC428 hS428 => ?_)
              obtain ⟨hp428, hr428⟩ := hr428
              have hKp428 := hKp407.tr (hp428.mono rfl)
              obtain ⟨f428_0, f428_1, f428_2, f428_3, f428_4⟩ := hr428
              refine lv_aload_n hx hb dX12_readTest_120 rfl (lv_at hl 1 rfl) ?_
              refine q_getC E hC428 g0 fa_RX12_35 uc dX12_readTest_121 ?_
              refine lv_iload_n hx hb dX12_readTest_124 rfl (lv_at hl 2 rfl) ?_
              refine lv_iconst (v := 2) hx hb dX12_readTest_125 rfl ?_
              refine lv_iadd hx hb dX12_readTest_126 (lv_topi (fun v429 ev429 => ?_))
              have ev429i : v429.toInt = (a1 + 2) := i_add ev429 e1 (by decide) (by omega) (by omega)
              refine lv_aload_n hx hb dX12_readTest_127 rfl (lv_at hl 1 rfl) ?_
              refine lv_iconst (v := 0) hx hb dX12_readTest_128 rfl ?_
              refine lv_iload_n hx hb dX12_readTest_129 rfl (lv_at hl 0 rfl) ?_
              refine lv_iconst (v := 1) hx hb dX12_readTest_130 rfl ?_
              refine q_icmp_ne hx hb (a := v21.toInt) (b := 1) rfl (by decide) (tgt := 139) dX12_readTest_131 rfl (fun c430 => absurd c430 (by omega)) (fun c430 => ?_)
              refine lv_bipush (v := 99) hx hb dX12_readTest_134 rfl ?_
              refine lv_goto (tgt := 142) hx hb dX12_readTest_136 rfl ?_
              refine q_goI (q_runV (As := [.int 0, .int 99]) (rest := [.int v429, .ref ca]) E hC428 hS428 (m_X12_count l X Γ H428 hC428 h0 g0 0 (a1 := 0) (by decide) 99 (a2 := 99) (by decide) ca gca uc (by omega) (by omega) (by omega) (by omega)) cw_X12_count cl_RX12_248 g0 ⟨rfl, rfl⟩ rfl hl.1 rfl (show _ ≤ _ from by simp [Value.category]) (by decide) dX12_readTest_142) hS428 (fun v431 H431 locs431 hr431 hC431 hS431 => ?_)
              obtain ⟨hp431, hr431⟩ := hr431
              have hKp431 := hKp428.tr (hp431.mono rfl)
              obtain ⟨f431_0, f431_1, f431_2, f431_3, f431_4, f431_5, f431_6, f431_7⟩ := hr431
              refine q_cast E hC431 hS431 gca (a := (a1 + 2)) ev429i (by omega) (by omega) (cs_n244 (a := (a1 + 2)) (by omega) (by omega)) dX12_readTest_145 (fun H432 locs432 hC432 hS432 U432 => ?_)
              have hKp432 := Kp.upD gca rfl rfl (fun _ => ⟨fun _ => nd4 (by omega) (by omega), fun _ => by unfold dpu; omega, fun _ => by unfold dpn; omega⟩) U432 hKp431
              have m433 : (sI H432 h0 (X.1.2 11 12)).toInt = (sI H431 h0 (X.1.2 11 12)).toInt := congrArg Int32.toInt (up_nI U432 (ne_k g0 gca (by decide)))
              have m434 : (sI H432 h0 (X.1.2 11 14)).toInt = (sI H431 h0 (X.1.2 11 14)).toInt := congrArg Int32.toInt (up_nI U432 (ne_k g0 gca (by decide)))
              have m435 := congrArg tk m434
              have m436 : (sI H432 h0 (X.1.2 11 16)).toInt = (sI H431 h0 (X.1.2 11 16)).toInt := congrArg Int32.toInt (up_nI U432 (ne_k g0 gca (by decide)))
              have e437 := up_I U432
              have hz8 := tk_nn (sI H432 h0 (X.1.2 11 14)).toInt
              exact ret H432 locs432 _ _ dX12_readTest_146 ⟨hKp432, ⟨by omega, by omega, by omega, by omega⟩⟩ hC432 hS432
            · refine q_if_ne hx hb (a := 0) (by decide) (tgt := 112) dX12_readTest_100 rfl (fun c438 => absurd c438 (by omega)) (fun c438 => ?_)
              refine lv_aload_n hx hb dX12_readTest_103 rfl (lv_at hl 1 rfl) ?_
              refine lv_bipush (v := 61) hx hb dX12_readTest_104 rfl ?_
              refine q_goIp (q_runV (As := [.int 61]) (rest := [.ref h0]) E hC407 hS426 (m_X12_isSign l X Γ H407 hC407 h0 g0 61 (a1 := 61) (by decide) ca gca uc) cw_X12_isSign cl_RX12_255 g0 ⟨rfl, rfl⟩ rfl hl.1 rfl (show _ ≤ _ from by simp [Value.category]) (by decide) dX12_readTest_106) hS426 (fun v439 locs439 hr439 hS439 => ?_)
              rcases hr439 with ⟨rfl, f439a⟩ | ⟨rfl, -⟩
              · refine q_if_eq hx hb (a := 1) (by decide) (tgt := 116) dX12_readTest_109 rfl (fun c440 => absurd c440 (by omega)) (fun c440 => ?_)
                refine lv_iconst (v := 1) hx hb dX12_readTest_112 rfl ?_
                refine lv_goto (tgt := 117) hx hb dX12_readTest_113 rfl ?_
                refine q_goV (q_runV (As := [.int 1]) (rest := []) E hC407 hS439 (m_X12_must l X Γ H407 hC407 h0 g0 1 (a1 := 1) (by decide) ca gca uc (by omega) (by omega)) cw_X12_must cl_RX12_244 g0 ⟨rfl, rfl⟩ rfl hl.1 rfl (Nat.zero_le _) (by decide) dX12_readTest_117) hS439 (fun H441 locs441 hr441 hC441 hS441 => ?_)
                obtain ⟨hp441, hr441⟩ := hr441
                have hKp441 := hKp407.tr (hp441.mono rfl)
                obtain ⟨f441_0, f441_1, f441_2, f441_3, f441_4⟩ := hr441
                refine lv_aload_n hx hb dX12_readTest_120 rfl (lv_at hl 1 rfl) ?_
                refine q_getC E hC441 g0 fa_RX12_35 uc dX12_readTest_121 ?_
                refine lv_iload_n hx hb dX12_readTest_124 rfl (lv_at hl 2 rfl) ?_
                refine lv_iconst (v := 2) hx hb dX12_readTest_125 rfl ?_
                refine lv_iadd hx hb dX12_readTest_126 (lv_topi (fun v442 ev442 => ?_))
                have ev442i : v442.toInt = (a1 + 2) := i_add ev442 e1 (by decide) (by omega) (by omega)
                refine lv_aload_n hx hb dX12_readTest_127 rfl (lv_at hl 1 rfl) ?_
                refine lv_iconst (v := 0) hx hb dX12_readTest_128 rfl ?_
                refine lv_iload_n hx hb dX12_readTest_129 rfl (lv_at hl 0 rfl) ?_
                refine lv_iconst (v := 1) hx hb dX12_readTest_130 rfl ?_
                refine q_icmp_ne hx hb (a := v21.toInt) (b := 1) rfl (by decide) (tgt := 139) dX12_readTest_131 rfl (fun c443 => absurd c443 (by omega)) (fun c443 => ?_)
                refine lv_bipush (v := 99) hx hb dX12_readTest_134 rfl ?_
                refine lv_goto (tgt := 142) hx hb dX12_readTest_136 rfl ?_
                refine q_goI (q_runV (As := [.int 0, .int 99]) (rest := [.int v442, .ref ca]) E hC441 hS441 (m_X12_count l X Γ H441 hC441 h0 g0 0 (a1 := 0) (by decide) 99 (a2 := 99) (by decide) ca gca uc (by omega) (by omega) (by omega) (by omega)) cw_X12_count cl_RX12_248 g0 ⟨rfl, rfl⟩ rfl hl.1 rfl (show _ ≤ _ from by simp [Value.category]) (by decide) dX12_readTest_142) hS441 (fun v444 H444 locs444 hr444 hC444 hS444 => ?_)
                obtain ⟨hp444, hr444⟩ := hr444
                have hKp444 := hKp441.tr (hp444.mono rfl)
                obtain ⟨f444_0, f444_1, f444_2, f444_3, f444_4, f444_5, f444_6, f444_7⟩ := hr444
                refine q_cast E hC444 hS444 gca (a := (a1 + 2)) ev442i (by omega) (by omega) (cs_n244 (a := (a1 + 2)) (by omega) (by omega)) dX12_readTest_145 (fun H445 locs445 hC445 hS445 U445 => ?_)
                have hKp445 := Kp.upD gca rfl rfl (fun _ => ⟨fun _ => nd4 (by omega) (by omega), fun _ => by unfold dpu; omega, fun _ => by unfold dpn; omega⟩) U445 hKp444
                have m446 : (sI H445 h0 (X.1.2 11 12)).toInt = (sI H444 h0 (X.1.2 11 12)).toInt := congrArg Int32.toInt (up_nI U445 (ne_k g0 gca (by decide)))
                have m447 : (sI H445 h0 (X.1.2 11 14)).toInt = (sI H444 h0 (X.1.2 11 14)).toInt := congrArg Int32.toInt (up_nI U445 (ne_k g0 gca (by decide)))
                have m448 := congrArg tk m447
                have m449 : (sI H445 h0 (X.1.2 11 16)).toInt = (sI H444 h0 (X.1.2 11 16)).toInt := congrArg Int32.toInt (up_nI U445 (ne_k g0 gca (by decide)))
                have e450 := up_I U445
                have hz8 := tk_nn (sI H445 h0 (X.1.2 11 14)).toInt
                exact ret H445 locs445 _ _ dX12_readTest_146 ⟨hKp445, ⟨by omega, by omega, by omega, by omega⟩⟩ hC445 hS445
              · refine q_if_eq hx hb (a := 0) (by decide) (tgt := 116) dX12_readTest_109 rfl (fun c451 => ?_) (fun c451 => absurd c451 (by omega))
                refine lv_iconst (v := 0) hx hb dX12_readTest_116 rfl ?_
                refine q_goV (q_runV (As := [.int 0]) (rest := []) E hC407 hS439 (m_X12_must l X Γ H407 hC407 h0 g0 0 (a1 := 0) (by decide) ca gca uc (by omega) (by omega)) cw_X12_must cl_RX12_244 g0 ⟨rfl, rfl⟩ rfl hl.1 rfl (Nat.zero_le _) (by decide) dX12_readTest_117) hS439 (fun H452 locs452 hr452 hC452 hS452 => ?_)
                obtain ⟨hp452, hr452⟩ := hr452
                have hKp452 := hKp407.tr (hp452.mono rfl)
                obtain ⟨f452_0, f452_1, f452_2, f452_3, f452_4⟩ := hr452
                refine lv_aload_n hx hb dX12_readTest_120 rfl (lv_at hl 1 rfl) ?_
                refine q_getC E hC452 g0 fa_RX12_35 uc dX12_readTest_121 ?_
                refine lv_iload_n hx hb dX12_readTest_124 rfl (lv_at hl 2 rfl) ?_
                refine lv_iconst (v := 2) hx hb dX12_readTest_125 rfl ?_
                refine lv_iadd hx hb dX12_readTest_126 (lv_topi (fun v453 ev453 => ?_))
                have ev453i : v453.toInt = (a1 + 2) := i_add ev453 e1 (by decide) (by omega) (by omega)
                refine lv_aload_n hx hb dX12_readTest_127 rfl (lv_at hl 1 rfl) ?_
                refine lv_iconst (v := 0) hx hb dX12_readTest_128 rfl ?_
                refine lv_iload_n hx hb dX12_readTest_129 rfl (lv_at hl 0 rfl) ?_
                refine lv_iconst (v := 1) hx hb dX12_readTest_130 rfl ?_
                refine q_icmp_ne hx hb (a := v21.toInt) (b := 1) rfl (by decide) (tgt := 139) dX12_readTest_131 rfl (fun c454 => absurd c454 (by omega)) (fun c454 => ?_)
                refine lv_bipush (v := 99) hx hb dX12_readTest_134 rfl ?_
                refine lv_goto (tgt := 142) hx hb dX12_readTest_136 rfl ?_
                refine q_goI (q_runV (As := [.int 0, .int 99]) (rest := [.int v453, .ref ca]) E hC452 hS452 (m_X12_count l X Γ H452 hC452 h0 g0 0 (a1 := 0) (by decide) 99 (a2 := 99) (by decide) ca gca uc (by omega) (by omega) (by omega) (by omega)) cw_X12_count cl_RX12_248 g0 ⟨rfl, rfl⟩ rfl hl.1 rfl (show _ ≤ _ from by simp [Value.category]) (by decide) dX12_readTest_142) hS452 (fun v455 H455 locs455 hr455 hC455 hS455 => ?_)
                obtain ⟨hp455, hr455⟩ := hr455
                have hKp455 := hKp452.tr (hp455.mono rfl)
                obtain ⟨f455_0, f455_1, f455_2, f455_3, f455_4, f455_5, f455_6, f455_7⟩ := hr455
                refine q_cast E hC455 hS455 gca (a := (a1 + 2)) ev453i (by omega) (by omega) (cs_n244 (a := (a1 + 2)) (by omega) (by omega)) dX12_readTest_145 (fun H456 locs456 hC456 hS456 U456 => ?_)
                have hKp456 := Kp.upD gca rfl rfl (fun _ => ⟨fun _ => nd4 (by omega) (by omega), fun _ => by unfold dpu; omega, fun _ => by unfold dpn; omega⟩) U456 hKp455
                have m457 : (sI H456 h0 (X.1.2 11 12)).toInt = (sI H455 h0 (X.1.2 11 12)).toInt := congrArg Int32.toInt (up_nI U456 (ne_k g0 gca (by decide)))
                have m458 : (sI H456 h0 (X.1.2 11 14)).toInt = (sI H455 h0 (X.1.2 11 14)).toInt := congrArg Int32.toInt (up_nI U456 (ne_k g0 gca (by decide)))
                have m459 := congrArg tk m458
                have m460 : (sI H456 h0 (X.1.2 11 16)).toInt = (sI H455 h0 (X.1.2 11 16)).toInt := congrArg Int32.toInt (up_nI U456 (ne_k g0 gca (by decide)))
                have e461 := up_I U456
                have hz8 := tk_nn (sI H456 h0 (X.1.2 11 14)).toInt
                exact ret H456 locs456 _ _ dX12_readTest_146 ⟨hKp456, ⟨by omega, by omega, by omega, by omega⟩⟩ hC456 hS456
