set_option maxRecDepth 100000 in
set_option maxHeartbeats 4000000 in
theorem m_X12_readCell (l : Launch) (X : xW) (Γ : Nat → Option Nat) (H0 : Heap) (hC0 : Conf X Γ H0) (h0 : Nat) (g0 : Γ h0 = some 11) (p1 : Int32) {a1 : Int} (e1 : p1.toInt = a1) (ca : Nat) (gca : Γ ca = some 64) (uc : ∀ a, Γ a = some 64 → a = ca) (r0 : 0 ≤ a1) (r1 : a1 ≤ 2) : Ctr l X Γ yX12_readCell cX12_readCell 7 none 3 [.ref h0, .int p1] H0 (QV X Γ (fun H1 => Kp X Γ [1, 6, 7, 8, 9, 10, 11, 12, 14, 16, 17, 19, 22, 24, 26, 28] H0 H1 ∧ (((sI H0 h0 (X.1.2 11 16)).toInt ≤ (sI H1 h0 (X.1.2 11 16)).toInt) ∧ ((sI H0 h0 (X.1.2 11 16)).toInt < (sI H1 h0 (X.1.2 11 16)).toInt + tk (sI H1 h0 (X.1.2 11 14)).toInt + 2000 * (sI H1 h0 (X.1.2 11 12)).toInt) ∧ ((sI H0 h0 (X.1.2 11 12)).toInt ≤ 7 * (sI H1 h0 (X.1.2 11 12)).toInt) ∧ (0 ≤ (sI H1 h0 (X.1.2 11 12)).toInt)))) := by
  refine q_enterV (own := "SnowFortsModel") (by decide) rfl (Nat.le_of_ble_eq_true rfl) ?_
  intro p e s m args below meth c ls Qz E hl ret hS0
  have hx := E.1; have hb := E.2.1
  have hKp0 : Kp X Γ [1, 6, 7, 8, 9, 10, 11, 12, 14, 16, 17, 19, 22, 24, 26, 28] H0 H0 := Kp.rf
  have hl : lv_has ls 7 [(0, .ref h0), (1, .int p1)] := hl
  have hz1 := f_bd hC0 g0 (ci := 11) (k := 16) rfl rfl
  have hz2 := f_bd hC0 g0 (ci := 11) (k := 12) rfl rfl
  refine lv_aload_n hx hb dX12_readCell_0 rfl (lv_at hl 0 rfl) ?_
  refine q_goV (q_runV (As := []) (rest := []) E hC0 hS0 (m_X12_next l X Γ H0 hC0 h0 g0 ca gca uc) cw_X12_next cl_RX12_228 g0 ⟨rfl, rfl⟩ rfl hl.1 rfl (Nat.zero_le _) (by decide) dX12_readCell_1) hS0 (fun H21 locs21 hr21 hC21 hS21 => ?_)
  obtain ⟨hp21, hr21⟩ := hr21
  have hKp21 := hKp0.tr (hp21.mono rfl)
  obtain ⟨f21_0, f21_1, f21_2⟩ := hr21
  refine lv_aload_n hx hb dX12_readCell_4 rfl (lv_at hl 0 rfl) ?_
  refine lv_iconst (v := 0) hx hb dX12_readCell_5 rfl ?_
  refine lv_aload_n hx hb dX12_readCell_6 rfl (lv_at hl 0 rfl) ?_
  refine q_getC E hC21 g0 fa_RX12_35 uc dX12_readCell_7 ?_
  refine lv_sipush (v := 2080) hx hb dX12_readCell_10 rfl ?_
  refine q_cald E hC21 (lo := 0) (hi := 6) gca (a := 2080) (show (2080 : Int32).toInt = 2080 from by decide) (by omega) (by omega) (cr_n0 (by omega) (by omega)) dX12_readCell_13 (fun v22 ev22 lv22 uv22 => ?_)
  refine lv_iconst (v := 1) hx hb dX12_readCell_14 rfl ?_
  refine lv_isub hx hb dX12_readCell_15 (lv_topi (fun v23 ev23 => ?_))
  have ev23i : v23.toInt = (v22.toInt - 1) := i_sub ev23 rfl (by decide) (by omega) (by omega)
  refine q_goI (q_runV (As := [.int 0, .int v23]) (rest := []) E hC21 hS21 (m_X12_count l X Γ H21 hC21 h0 g0 0 (a1 := 0) (by decide) v23 (a2 := (v22.toInt - 1)) ev23i ca gca uc (by omega) (by omega) (by omega) (by omega)) cw_X12_count cl_RX12_248 g0 ⟨rfl, rfl⟩ rfl hl.1 rfl (Nat.zero_le _) (by decide) dX12_readCell_16) hS21 (fun v24 H24 locs24 hr24 hC24 hS24 => ?_)
  obtain ⟨hp24, hr24⟩ := hr24
  have hKp24 := hKp21.tr (hp24.mono rfl)
  obtain ⟨f24_0, f24_1, f24_2, f24_3, f24_4, f24_5, f24_6, f24_7⟩ := hr24
  refine lv_istore_n hx hb dX12_readCell_19 rfl hl (by decide) rfl (fun ls hl => ?_)
  replace hl : lv_has ls 7 [(2, .int v24), (0, .ref h0), (1, .int p1)] := hl
  refine lv_aload_n hx hb dX12_readCell_20 rfl (lv_at hl 1 rfl) ?_
  refine q_getI E hC24 g0 fa_RX12_114 dX12_readCell_21 (fun v25 ev25 lv25 uv25 => ?_)
  refine lv_istore_n hx hb dX12_readCell_24 rfl hl (by decide) rfl (fun ls hl => ?_)
  replace hl : lv_has ls 7 [(3, .int v25), (2, .int v24), (0, .ref h0), (1, .int p1)] := hl
  refine lv_aload_n hx hb dX12_readCell_25 rfl (lv_at hl 2 rfl) ?_
  refine lv_iconst (v := 0) hx hb dX12_readCell_26 rfl ?_
  refine lv_aload_n hx hb dX12_readCell_27 rfl (lv_at hl 2 rfl) ?_
  refine q_getC E hC24 g0 fa_RX12_35 uc dX12_readCell_28 ?_
  refine lv_sipush (v := 2081) hx hb dX12_readCell_31 rfl ?_
  refine q_cald E hC24 (lo := 0) (hi := 6) gca (a := 2081) (show (2081 : Int32).toInt = 2081 from by decide) (by omega) (by omega) (cr_n0 (by omega) (by omega)) dX12_readCell_34 (fun v26 ev26 lv26 uv26 => ?_)
  refine lv_iconst (v := 1) hx hb dX12_readCell_35 rfl ?_
  refine lv_isub hx hb dX12_readCell_36 (lv_topi (fun v27 ev27 => ?_))
  have ev27i : v27.toInt = (v26.toInt - 1) := i_sub ev27 rfl (by decide) (by omega) (by omega)
  refine q_goI (q_runV (As := [.int 0, .int v27]) (rest := []) E hC24 hS24 (m_X12_count l X Γ H24 hC24 h0 g0 0 (a1 := 0) (by decide) v27 (a2 := (v26.toInt - 1)) ev27i ca gca uc (by omega) (by omega) (by omega) (by omega)) cw_X12_count cl_RX12_248 g0 ⟨rfl, rfl⟩ rfl hl.1 rfl (Nat.zero_le _) (by decide) dX12_readCell_37) hS24 (fun v28 H28 locs28 hr28 hC28 hS28 => ?_)
  obtain ⟨hp28, hr28⟩ := hr28
  have hKp28 := hKp24.tr (hp28.mono rfl)
  obtain ⟨f28_0, f28_1, f28_2, f28_3, f28_4, f28_5, f28_6, f28_7⟩ := hr28
  refine lv_istore hx hb dX12_readCell_40 hl (by decide) rfl (fun ls hl => ?_)
  replace hl : lv_has ls 7 [(4, .int v28), (3, .int v25), (2, .int v24), (0, .ref h0), (1, .int p1)] := hl
  refine lv_bipush (v := 6) hx hb dX12_readCell_42 rfl ?_
  refine lv_iload hx hb dX12_readCell_44 (lv_at hl 0 rfl) ?_
  refine lv_imul hx hb dX12_readCell_46 (lv_topi (fun v29 ev29 => ?_))
  have ev29i : v29.toInt = (6 * v28.toInt) := i_mul ev29 (by decide) rfl (by omega) (by omega)
  refine lv_iload_n hx hb dX12_readCell_47 rfl (lv_at hl 2 rfl) ?_
  refine lv_iadd hx hb dX12_readCell_48 (lv_topi (fun v30 ev30 => ?_))
  have ev30i : v30.toInt = ((6 * v28.toInt) + v24.toInt) := i_add ev30 ev29i rfl (by omega) (by omega)
  refine lv_istore hx hb dX12_readCell_49 hl (by decide) rfl (fun ls hl => ?_)
  replace hl : lv_has ls 7 [(5, .int v30), (4, .int v28), (3, .int v25), (2, .int v24), (0, .ref h0), (1, .int p1)] := hl
  refine lv_aload_n hx hb dX12_readCell_51 rfl (lv_at hl 4 rfl) ?_
  refine q_getI E hC28 g0 fa_RX12_218 dX12_readCell_52 (fun v31 ev31 lv31 uv31 => ?_)
  have m32 : (sI H28 h0 (X.1.2 11 12)).toInt = v31.toInt := (congrArg Int32.toInt ev31).trans rfl
  refine q_if_ne hx hb (a := v31.toInt) rfl (tgt := 80) dX12_readCell_55 rfl (fun c33 => ?_) (fun c33 => ?_)
  · refine lv_aload_n hx hb dX12_readCell_80 rfl (lv_at hl 4 rfl) ?_
    refine lv_iload_n hx hb dX12_readCell_81 rfl (lv_at hl 5 rfl) ?_
    refine q_if_ne hx hb (a := a1) e1 (tgt := 92) dX12_readCell_82 rfl (fun c34 => ?_) (fun c34 => ?_)
    · refine lv_iload_n hx hb dX12_readCell_92 rfl (lv_at hl 5 rfl) ?_
      refine lv_iconst (v := 1) hx hb dX12_readCell_93 rfl ?_
      refine q_icmp_ne hx hb (a := a1) (b := 1) e1 (by decide) (tgt := 104) dX12_readCell_94 rfl (fun c35 => ?_) (fun c35 => ?_)
      · refine lv_aload_n hx hb dX12_readCell_104 rfl (lv_at hl 4 rfl) ?_
        refine q_goIp (q_runV (As := []) (rest := [.ref h0]) E hC28 hS28 (m_X12_isBy l X Γ H28 hC28 h0 g0 ca gca uc) cw_X12_isBy cl_RX12_190 g0 ⟨rfl, rfl⟩ rfl hl.1 rfl (show _ ≤ _ from by simp [Value.category]) (by decide) dX12_readCell_105) hS28 (fun v36 locs36 hr36 hS36 => ?_)
        have b36 : v36.toInt = 0 ∨ v36.toInt = 1 := hr36.imp (fun h => by rw [h]; decide) (fun h => by rw [h]; decide)
        refine q_goV (q_runV (As := [.int v36]) (rest := []) E hC28 hS36 (m_X12_must l X Γ H28 hC28 h0 g0 v36 (a1 := v36.toInt) rfl ca gca uc (by omega) (by omega)) cw_X12_must cl_RX12_244 g0 ⟨rfl, rfl⟩ rfl hl.1 rfl (Nat.zero_le _) (by decide) dX12_readCell_108) hS36 (fun H37 locs37 hr37 hC37 hS37 => ?_)
        obtain ⟨hp37, hr37⟩ := hr37
        have hKp37 := hKp28.tr (hp37.mono rfl)
        obtain ⟨f37_0, f37_1, f37_2, f37_3, f37_4⟩ := hr37
        refine lv_aload_n hx hb dX12_readCell_111 rfl (lv_at hl 4 rfl) ?_
        refine lv_iconst (v := 0) hx hb dX12_readCell_112 rfl ?_
        refine lv_iload_n hx hb dX12_readCell_113 rfl (lv_at hl 5 rfl) ?_
        refine lv_iconst (v := 2) hx hb dX12_readCell_114 rfl ?_
        refine q_icmp_ne hx hb (a := a1) (b := 2) e1 (by decide) (tgt := 123) dX12_readCell_115 rfl (fun c38 => absurd c38 (by omega)) (fun c38 => ?_)
        refine lv_bipush (v := 9) hx hb dX12_readCell_118 rfl ?_
        refine lv_goto (tgt := 125) hx hb dX12_readCell_120 rfl ?_
        refine q_goI (q_runV (As := [.int 0, .int 9]) (rest := []) E hC37 hS37 (m_X12_count l X Γ H37 hC37 h0 g0 0 (a1 := 0) (by decide) 9 (a2 := 9) (by decide) ca gca uc (by omega) (by omega) (by omega) (by omega)) cw_X12_count cl_RX12_248 g0 ⟨rfl, rfl⟩ rfl hl.1 rfl (Nat.zero_le _) (by decide) dX12_readCell_125) hS37 (fun v39 H39 locs39 hr39 hC39 hS39 => ?_)
        obtain ⟨hp39, hr39⟩ := hr39
        have hKp39 := hKp37.tr (hp39.mono rfl)
        obtain ⟨f39_0, f39_1, f39_2, f39_3, f39_4, f39_5, f39_6, f39_7⟩ := hr39
        refine lv_istore hx hb dX12_readCell_128 hl (by decide) rfl (fun ls hl => ?_)
        replace hl : lv_has ls 7 [(6, .int v39), (5, .int v30), (4, .int v28), (3, .int v25), (2, .int v24), (0, .ref h0), (1, .int p1)] := hl
        refine lv_aload_n hx hb dX12_readCell_130 rfl (lv_at hl 5 rfl) ?_
        refine q_getI E hC39 g0 fa_RX12_218 dX12_readCell_131 (fun v40 ev40 lv40 uv40 => ?_)
        have m41 : (sI H39 h0 (X.1.2 11 12)).toInt = v40.toInt := (congrArg Int32.toInt ev40).trans rfl
        refine q_if_le hx hb (a := v40.toInt) rfl (tgt := 138) dX12_readCell_134 rfl (fun c42 => ?_) (fun c42 => ?_)
        · refine lv_aload_n hx hb dX12_readCell_138 rfl (lv_at hl 5 rfl) ?_
          refine q_getR E hC39 g0 fa_RX12_41 dX12_readCell_139 (fun q43 eq43 gq43 => ?_)
          refine lv_bipush (v := 36) hx hb dX12_readCell_142 rfl ?_
          refine lv_iload_n hx hb dX12_readCell_144 rfl (lv_at hl 6 rfl) ?_
          refine lv_imul hx hb dX12_readCell_145 (lv_topi (fun v44 ev44 => ?_))
          have ev44i : v44.toInt = (36 * a1) := i_mul ev44 (by decide) e1 (by omega) (by omega)
          refine lv_iload hx hb dX12_readCell_146 (lv_at hl 1 rfl) ?_
          refine lv_iadd hx hb dX12_readCell_148 (lv_topi (fun v45 ev45 => ?_))
          have ev45i : v45.toInt = ((36 * a1) + ((6 * v28.toInt) + v24.toInt)) := i_add ev45 ev44i ev30i (by omega) (by omega)
          refine lv_iconst (v := 1) hx hb dX12_readCell_149 rfl ?_
          refine q_iast E hC39 hS39 gq43 (by decide) rfl rfl (i_in (a := ((36 * a1) + ((6 * v28.toInt) + v24.toInt))) ev45i (by omega) (by omega)) tv_F dX12_readCell_150 (fun H46 locs46 hC46 hS46 U46 => ?_)
          have hKp46 := Kp.upA gq43 rfl (by decide) rfl U46 hKp39
          have m47 : (sI H46 h0 (X.1.2 11 12)).toInt = (sI H39 h0 (X.1.2 11 12)).toInt := congrArg Int32.toInt (up_nI U46 (ne_k g0 gq43 (by decide)))
          have m48 : (sI H46 h0 (X.1.2 11 14)).toInt = (sI H39 h0 (X.1.2 11 14)).toInt := congrArg Int32.toInt (up_nI U46 (ne_k g0 gq43 (by decide)))
          have m49 := congrArg tk m48
          have m50 : (sI H46 h0 (X.1.2 11 16)).toInt = (sI H39 h0 (X.1.2 11 16)).toInt := congrArg Int32.toInt (up_nI U46 (ne_k g0 gq43 (by decide)))
          refine lv_aload_n hx hb dX12_readCell_151 rfl (lv_at hl 5 rfl) ?_
          refine q_getC E hC46 g0 fa_RX12_35 uc dX12_readCell_152 ?_
          refine lv_sipush (v := 2080) hx hb dX12_readCell_155 rfl ?_
          refine lv_iload_n hx hb dX12_readCell_158 rfl (lv_at hl 6 rfl) ?_
          refine q_if_ne hx hb (a := a1) e1 (tgt := 167) dX12_readCell_159 rfl (fun c51 => ?_) (fun c51 => absurd c51 (by omega))
          refine lv_iload_n hx hb dX12_readCell_167 rfl (lv_at hl 6 rfl) ?_
          refine lv_iconst (v := 1) hx hb dX12_readCell_168 rfl ?_
          refine q_icmp_ne hx hb (a := a1) (b := 1) e1 (by decide) (tgt := 177) dX12_readCell_169 rfl (fun c52 => ?_) (fun c52 => absurd c52 (by omega))
          refine lv_bipush (v := 98) hx hb dX12_readCell_177 rfl ?_
          refine lv_iadd hx hb dX12_readCell_179 (lv_topi (fun v53 ev53 => ?_))
          have ev53i : v53.toInt = (2080 + 98) := i_add ev53 (by decide) (by decide) (by omega) (by omega)
          refine lv_iload hx hb dX12_readCell_180 (lv_at hl 1 rfl) ?_
          refine lv_iadd hx hb dX12_readCell_182 (lv_topi (fun v54 ev54 => ?_))
          have ev54i : v54.toInt = ((2080 + 98) + ((6 * v28.toInt) + v24.toInt)) := i_add ev54 ev53i ev30i (by omega) (by omega)
          refine lv_iload hx hb dX12_readCell_183 (lv_at hl 0 rfl) ?_
          refine q_cast E hC46 hS46 gca (a := ((2080 + 98) + ((6 * v28.toInt) + v24.toInt))) ev54i (by omega) (by omega) (cs_n98 (a := ((2080 + 98) + ((6 * v28.toInt) + v24.toInt))) (b := v39.toInt) (by omega) (by omega) rfl (by omega) (by omega)) dX12_readCell_185 (fun H55 locs55 hC55 hS55 U55 => ?_)
          have hKp55 := Kp.upD gca rfl rfl (fun _ => ⟨fun _ => nd4 (by omega) (by omega), fun _ => by unfold dpu; omega, fun _ => by unfold dpn; omega⟩) U55 hKp46
          have m56 : (sI H55 h0 (X.1.2 11 12)).toInt = (sI H46 h0 (X.1.2 11 12)).toInt := congrArg Int32.toInt (up_nI U55 (ne_k g0 gca (by decide)))
          have m57 : (sI H55 h0 (X.1.2 11 14)).toInt = (sI H46 h0 (X.1.2 11 14)).toInt := congrArg Int32.toInt (up_nI U55 (ne_k g0 gca (by decide)))
          have m58 := congrArg tk m57
          have m59 : (sI H55 h0 (X.1.2 11 16)).toInt = (sI H46 h0 (X.1.2 11 16)).toInt := congrArg Int32.toInt (up_nI U55 (ne_k g0 gca (by decide)))
          have e60 := up_I U55
          have hz8 := tk_nn (sI H55 h0 (X.1.2 11 14)).toInt
          exact ret H55 locs55 _ _ dX12_readCell_186 ⟨hKp55, ⟨by omega, by omega, by omega, by omega⟩⟩ hC55 hS55
        · have hz8 := tk_nn (sI H39 h0 (X.1.2 11 14)).toInt
          exact ret H39 locs39 _ _ dX12_readCell_137 ⟨hKp39, ⟨by omega, by omega, by omega, by omega⟩⟩ hC39 hS39
      · refine lv_aload_n hx hb dX12_readCell_97 rfl (lv_at hl 4 rfl) ?_
        refine q_goIp (q_runV (As := []) (rest := [.ref h0]) E hC28 hS28 (m_X12_isTall l X Γ H28 hC28 h0 g0 ca gca uc) cw_X12_isTall cl_RX12_184 g0 ⟨rfl, rfl⟩ rfl hl.1 rfl (show _ ≤ _ from by simp [Value.category]) (by decide) dX12_readCell_98) hS28 (fun v61 locs61 hr61 hS61 => ?_)
        rcases hr61 with rfl | rfl
        · refine lv_goto (tgt := 108) hx hb dX12_readCell_101 rfl ?_
          refine q_goV (q_runV (As := [.int 0]) (rest := []) E hC28 hS61 (m_X12_must l X Γ H28 hC28 h0 g0 0 (a1 := 0) (by decide) ca gca uc (by omega) (by omega)) cw_X12_must cl_RX12_244 g0 ⟨rfl, rfl⟩ rfl hl.1 rfl (Nat.zero_le _) (by decide) dX12_readCell_108) hS61 (fun H62 locs62 hr62 hC62 hS62 => ?_)
          obtain ⟨hp62, hr62⟩ := hr62
          have hKp62 := hKp28.tr (hp62.mono rfl)
          obtain ⟨f62_0, f62_1, f62_2, f62_3, f62_4⟩ := hr62
          refine lv_aload_n hx hb dX12_readCell_111 rfl (lv_at hl 4 rfl) ?_
          refine lv_iconst (v := 0) hx hb dX12_readCell_112 rfl ?_
          refine lv_iload_n hx hb dX12_readCell_113 rfl (lv_at hl 5 rfl) ?_
          refine lv_iconst (v := 2) hx hb dX12_readCell_114 rfl ?_
          refine q_icmp_ne hx hb (a := a1) (b := 2) e1 (by decide) (tgt := 123) dX12_readCell_115 rfl (fun c63 => ?_) (fun c63 => absurd c63 (by omega))
          refine lv_bipush (v := 99) hx hb dX12_readCell_123 rfl ?_
          refine q_goI (q_runV (As := [.int 0, .int 99]) (rest := []) E hC62 hS62 (m_X12_count l X Γ H62 hC62 h0 g0 0 (a1 := 0) (by decide) 99 (a2 := 99) (by decide) ca gca uc (by omega) (by omega) (by omega) (by omega)) cw_X12_count cl_RX12_248 g0 ⟨rfl, rfl⟩ rfl hl.1 rfl (Nat.zero_le _) (by decide) dX12_readCell_125) hS62 (fun v64 H64 locs64 hr64 hC64 hS64 => ?_)
          obtain ⟨hp64, hr64⟩ := hr64
          have hKp64 := hKp62.tr (hp64.mono rfl)
          obtain ⟨f64_0, f64_1, f64_2, f64_3, f64_4, f64_5, f64_6, f64_7⟩ := hr64
          refine lv_istore hx hb dX12_readCell_128 hl (by decide) rfl (fun ls hl => ?_)
          replace hl : lv_has ls 7 [(6, .int v64), (5, .int v30), (4, .int v28), (3, .int v25), (2, .int v24), (0, .ref h0), (1, .int p1)] := hl
          refine lv_aload_n hx hb dX12_readCell_130 rfl (lv_at hl 5 rfl) ?_
          refine q_getI E hC64 g0 fa_RX12_218 dX12_readCell_131 (fun v65 ev65 lv65 uv65 => ?_)
          have m66 : (sI H64 h0 (X.1.2 11 12)).toInt = v65.toInt := (congrArg Int32.toInt ev65).trans rfl
          refine q_if_le hx hb (a := v65.toInt) rfl (tgt := 138) dX12_readCell_134 rfl (fun c67 => ?_) (fun c67 => ?_)
          · refine lv_aload_n hx hb dX12_readCell_138 rfl (lv_at hl 5 rfl) ?_
            refine q_getR E hC64 g0 fa_RX12_41 dX12_readCell_139 (fun q68 eq68 gq68 => ?_)
            refine lv_bipush (v := 36) hx hb dX12_readCell_142 rfl ?_
            refine lv_iload_n hx hb dX12_readCell_144 rfl (lv_at hl 6 rfl) ?_
            refine lv_imul hx hb dX12_readCell_145 (lv_topi (fun v69 ev69 => ?_))
            have ev69i : v69.toInt = (36 * a1) := i_mul ev69 (by decide) e1 (by omega) (by omega)
            refine lv_iload hx hb dX12_readCell_146 (lv_at hl 1 rfl) ?_
            refine lv_iadd hx hb dX12_readCell_148 (lv_topi (fun v70 ev70 => ?_))
            have ev70i : v70.toInt = ((36 * a1) + ((6 * v28.toInt) + v24.toInt)) := i_add ev70 ev69i ev30i (by omega) (by omega)
            refine lv_iconst (v := 1) hx hb dX12_readCell_149 rfl ?_
            refine q_iast E hC64 hS64 gq68 (by decide) rfl rfl (i_in (a := ((36 * a1) + ((6 * v28.toInt) + v24.toInt))) ev70i (by omega) (by omega)) tv_F dX12_readCell_150 (fun H71 locs71 hC71 hS71 U71 => ?_)
            have hKp71 := Kp.upA gq68 rfl (by decide) rfl U71 hKp64
            have m72 : (sI H71 h0 (X.1.2 11 12)).toInt = (sI H64 h0 (X.1.2 11 12)).toInt := congrArg Int32.toInt (up_nI U71 (ne_k g0 gq68 (by decide)))
            have m73 : (sI H71 h0 (X.1.2 11 14)).toInt = (sI H64 h0 (X.1.2 11 14)).toInt := congrArg Int32.toInt (up_nI U71 (ne_k g0 gq68 (by decide)))
            have m74 := congrArg tk m73
            have m75 : (sI H71 h0 (X.1.2 11 16)).toInt = (sI H64 h0 (X.1.2 11 16)).toInt := congrArg Int32.toInt (up_nI U71 (ne_k g0 gq68 (by decide)))
            refine lv_aload_n hx hb dX12_readCell_151 rfl (lv_at hl 5 rfl) ?_
            refine q_getC E hC71 g0 fa_RX12_35 uc dX12_readCell_152 ?_
            refine lv_sipush (v := 2080) hx hb dX12_readCell_155 rfl ?_
            refine lv_iload_n hx hb dX12_readCell_158 rfl (lv_at hl 6 rfl) ?_
            refine q_if_ne hx hb (a := a1) e1 (tgt := 167) dX12_readCell_159 rfl (fun c76 => ?_) (fun c76 => absurd c76 (by omega))
            refine lv_iload_n hx hb dX12_readCell_167 rfl (lv_at hl 6 rfl) ?_
            refine lv_iconst (v := 1) hx hb dX12_readCell_168 rfl ?_
            refine q_icmp_ne hx hb (a := a1) (b := 1) e1 (by decide) (tgt := 177) dX12_readCell_169 rfl (fun c77 => absurd c77 (by omega)) (fun c77 => ?_)
            refine lv_bipush (v := 62) hx hb dX12_readCell_172 rfl ?_
            refine lv_goto (tgt := 179) hx hb dX12_readCell_174 rfl ?_
            refine lv_iadd hx hb dX12_readCell_179 (lv_topi (fun v78 ev78 => ?_))
            have ev78i : v78.toInt = (2080 + 62) := i_add ev78 (by decide) (by decide) (by omega) (by omega)
            refine lv_iload hx hb dX12_readCell_180 (lv_at hl 1 rfl) ?_
            refine lv_iadd hx hb dX12_readCell_182 (lv_topi (fun v79 ev79 => ?_))
            have ev79i : v79.toInt = ((2080 + 62) + ((6 * v28.toInt) + v24.toInt)) := i_add ev79 ev78i ev30i (by omega) (by omega)
            refine lv_iload hx hb dX12_readCell_183 (lv_at hl 0 rfl) ?_
            refine q_cast E hC71 hS71 gca (a := ((2080 + 62) + ((6 * v28.toInt) + v24.toInt))) ev79i (by omega) (by omega) (cs_n26 (a := ((2080 + 62) + ((6 * v28.toInt) + v24.toInt))) (b := v64.toInt) (by omega) (by omega) rfl (by omega) (by omega)) dX12_readCell_185 (fun H80 locs80 hC80 hS80 U80 => ?_)
            have hKp80 := Kp.upD gca rfl rfl (fun _ => ⟨fun _ => nd4 (by omega) (by omega), fun _ => by unfold dpu; omega, fun _ => by unfold dpn; omega⟩) U80 hKp71
            have m81 : (sI H80 h0 (X.1.2 11 12)).toInt = (sI H71 h0 (X.1.2 11 12)).toInt := congrArg Int32.toInt (up_nI U80 (ne_k g0 gca (by decide)))
            have m82 : (sI H80 h0 (X.1.2 11 14)).toInt = (sI H71 h0 (X.1.2 11 14)).toInt := congrArg Int32.toInt (up_nI U80 (ne_k g0 gca (by decide)))
            have m83 := congrArg tk m82
            have m84 : (sI H80 h0 (X.1.2 11 16)).toInt = (sI H71 h0 (X.1.2 11 16)).toInt := congrArg Int32.toInt (up_nI U80 (ne_k g0 gca (by decide)))
            have e85 := up_I U80
            have hz8 := tk_nn (sI H80 h0 (X.1.2 11 14)).toInt
            exact ret H80 locs80 _ _ dX12_readCell_186 ⟨hKp80, ⟨by omega, by omega, by omega, by omega⟩⟩ hC80 hS80
          · have hz8 := tk_nn (sI H64 h0 (X.1.2 11 14)).toInt
            exact ret H64 locs64 _ _ dX12_readCell_137 ⟨hKp64, ⟨by omega, by omega, by omega, by omega⟩⟩ hC64 hS64
        · refine lv_goto (tgt := 108) hx hb dX12_readCell_101 rfl ?_
          refine q_goV (q_runV (As := [.int 1]) (rest := []) E hC28 hS61 (m_X12_must l X Γ H28 hC28 h0 g0 1 (a1 := 1) (by decide) ca gca uc (by omega) (by omega)) cw_X12_must cl_RX12_244 g0 ⟨rfl, rfl⟩ rfl hl.1 rfl (Nat.zero_le _) (by decide) dX12_readCell_108) hS61 (fun H86 locs86 hr86 hC86 hS86 => ?_)
          obtain ⟨hp86, hr86⟩ := hr86
          have hKp86 := hKp28.tr (hp86.mono rfl)
          obtain ⟨f86_0, f86_1, f86_2, f86_3, f86_4⟩ := hr86
          refine lv_aload_n hx hb dX12_readCell_111 rfl (lv_at hl 4 rfl) ?_
          refine lv_iconst (v := 0) hx hb dX12_readCell_112 rfl ?_
          refine lv_iload_n hx hb dX12_readCell_113 rfl (lv_at hl 5 rfl) ?_
          refine lv_iconst (v := 2) hx hb dX12_readCell_114 rfl ?_
          refine q_icmp_ne hx hb (a := a1) (b := 2) e1 (by decide) (tgt := 123) dX12_readCell_115 rfl (fun c87 => ?_) (fun c87 => absurd c87 (by omega))
          refine lv_bipush (v := 99) hx hb dX12_readCell_123 rfl ?_
          refine q_goI (q_runV (As := [.int 0, .int 99]) (rest := []) E hC86 hS86 (m_X12_count l X Γ H86 hC86 h0 g0 0 (a1 := 0) (by decide) 99 (a2 := 99) (by decide) ca gca uc (by omega) (by omega) (by omega) (by omega)) cw_X12_count cl_RX12_248 g0 ⟨rfl, rfl⟩ rfl hl.1 rfl (Nat.zero_le _) (by decide) dX12_readCell_125) hS86 (fun v88 H88 locs88 hr88 hC88 hS88 => ?_)
          obtain ⟨hp88, hr88⟩ := hr88
          have hKp88 := hKp86.tr (hp88.mono rfl)
          obtain ⟨f88_0, f88_1, f88_2, f88_3, f88_4, f88_5, f88_6, f88_7⟩ := hr88
          refine lv_istore hx hb dX12_readCell_128 hl (by decide) rfl (fun ls hl => ?_)
          replace hl : lv_has ls 7 [(6, .int v88), (5, .int v30), (4, .int v28), (3, .int v25), (2, .int v24), (0, .ref h0), (1, .int p1)] := hl
          refine lv_aload_n hx hb dX12_readCell_130 rfl (lv_at hl 5 rfl) ?_
          refine q_getI E hC88 g0 fa_RX12_218 dX12_readCell_131 (fun v89 ev89 lv89 uv89 => ?_)
          have m90 : (sI H88 h0 (X.1.2 11 12)).toInt = v89.toInt := (congrArg Int32.toInt ev89).trans rfl
          refine q_if_le hx hb (a := v89.toInt) rfl (tgt := 138) dX12_readCell_134 rfl (fun c91 => ?_) (fun c91 => ?_)
          · refine lv_aload_n hx hb dX12_readCell_138 rfl (lv_at hl 5 rfl) ?_
            refine q_getR E hC88 g0 fa_RX12_41 dX12_readCell_139 (fun q92 eq92 gq92 => ?_)
            refine lv_bipush (v := 36) hx hb dX12_readCell_142 rfl ?_
            refine lv_iload_n hx hb dX12_readCell_144 rfl (lv_at hl 6 rfl) ?_
            refine lv_imul hx hb dX12_readCell_145 (lv_topi (fun v93 ev93 => ?_))
            have ev93i : v93.toInt = (36 * a1) := i_mul ev93 (by decide) e1 (by omega) (by omega)
            refine lv_iload hx hb dX12_readCell_146 (lv_at hl 1 rfl) ?_
            refine lv_iadd hx hb dX12_readCell_148 (lv_topi (fun v94 ev94 => ?_))
            have ev94i : v94.toInt = ((36 * a1) + ((6 * v28.toInt) + v24.toInt)) := i_add ev94 ev93i ev30i (by omega) (by omega)
            refine lv_iconst (v := 1) hx hb dX12_readCell_149 rfl ?_
            refine q_iast E hC88 hS88 gq92 (by decide) rfl rfl (i_in (a := ((36 * a1) + ((6 * v28.toInt) + v24.toInt))) ev94i (by omega) (by omega)) tv_F dX12_readCell_150 (fun H95 locs95 hC95 hS95 U95 => ?_)
            have hKp95 := Kp.upA gq92 rfl (by decide) rfl U95 hKp88
            have m96 : (sI H95 h0 (X.1.2 11 12)).toInt = (sI H88 h0 (X.1.2 11 12)).toInt := congrArg Int32.toInt (up_nI U95 (ne_k g0 gq92 (by decide)))
            have m97 : (sI H95 h0 (X.1.2 11 14)).toInt = (sI H88 h0 (X.1.2 11 14)).toInt := congrArg Int32.toInt (up_nI U95 (ne_k g0 gq92 (by decide)))
            have m98 := congrArg tk m97
            have m99 : (sI H95 h0 (X.1.2 11 16)).toInt = (sI H88 h0 (X.1.2 11 16)).toInt := congrArg Int32.toInt (up_nI U95 (ne_k g0 gq92 (by decide)))
            refine lv_aload_n hx hb dX12_readCell_151 rfl (lv_at hl 5 rfl) ?_
            refine q_getC E hC95 g0 fa_RX12_35 uc dX12_readCell_152 ?_
            refine lv_sipush (v := 2080) hx hb dX12_readCell_155 rfl ?_
            refine lv_iload_n hx hb dX12_readCell_158 rfl (lv_at hl 6 rfl) ?_
            refine q_if_ne hx hb (a := a1) e1 (tgt := 167) dX12_readCell_159 rfl (fun c100 => ?_) (fun c100 => absurd c100 (by omega))
            refine lv_iload_n hx hb dX12_readCell_167 rfl (lv_at hl 6 rfl) ?_
            refine lv_iconst (v := 1) hx hb dX12_readCell_168 rfl ?_
            refine q_icmp_ne hx hb (a := a1) (b := 1) e1 (by decide) (tgt := 177) dX12_readCell_169 rfl (fun c101 => absurd c101 (by omega)) (fun c101 => ?_)
            refine lv_bipush (v := 62) hx hb dX12_readCell_172 rfl ?_
            refine lv_goto (tgt := 179) hx hb dX12_readCell_174 rfl ?_
            refine lv_iadd hx hb dX12_readCell_179 (lv_topi (fun v102 ev102 => ?_))
            have ev102i : v102.toInt = (2080 + 62) := i_add ev102 (by decide) (by decide) (by omega) (by omega)
            refine lv_iload hx hb dX12_readCell_180 (lv_at hl 1 rfl) ?_
            refine lv_iadd hx hb dX12_readCell_182 (lv_topi (fun v103 ev103 => ?_))
            have ev103i : v103.toInt = ((2080 + 62) + ((6 * v28.toInt) + v24.toInt)) := i_add ev103 ev102i ev30i (by omega) (by omega)
            refine lv_iload hx hb dX12_readCell_183 (lv_at hl 0 rfl) ?_
            refine q_cast E hC95 hS95 gca (a := ((2080 + 62) + ((6 * v28.toInt) + v24.toInt))) ev103i (by omega) (by omega) (cs_n26 (a := ((2080 + 62) + ((6 * v28.toInt) + v24.toInt))) (b := v88.toInt) (by omega) (by omega) rfl (by omega) (by omega)) dX12_readCell_185 (fun H104 locs104 hC104 hS104 U104 => ?_)
            have hKp104 := Kp.upD gca rfl rfl (fun _ => ⟨fun _ => nd4 (by omega) (by omega), fun _ => by unfold dpu; omega, fun _ => by unfold dpn; omega⟩) U104 hKp95
            have m105 : (sI H104 h0 (X.1.2 11 12)).toInt = (sI H95 h0 (X.1.2 11 12)).toInt := congrArg Int32.toInt (up_nI U104 (ne_k g0 gca (by decide)))
            have m106 : (sI H104 h0 (X.1.2 11 14)).toInt = (sI H95 h0 (X.1.2 11 14)).toInt := congrArg Int32.toInt (up_nI U104 (ne_k g0 gca (by decide)))
            have m107 := congrArg tk m106
            have m108 : (sI H104 h0 (X.1.2 11 16)).toInt = (sI H95 h0 (X.1.2 11 16)).toInt := congrArg Int32.toInt (up_nI U104 (ne_k g0 gca (by decide)))
            have e109 := up_I U104
            have hz8 := tk_nn (sI H104 h0 (X.1.2 11 14)).toInt
            exact ret H104 locs104 _ _ dX12_readCell_186 ⟨hKp104, ⟨by omega, by omega, by omega, by omega⟩⟩ hC104 hS104
          · have hz8 := tk_nn (sI H88 h0 (X.1.2 11 14)).toInt
            exact ret H88 locs88 _ _ dX12_readCell_137 ⟨hKp88, ⟨by omega, by omega, by omega, by omega⟩⟩ hC88 hS88
    · refine lv_aload_n hx hb dX12_readCell_85 rfl (lv_at hl 4 rfl) ?_
      refine q_goIp (q_runV (As := []) (rest := [.ref h0]) E hC28 hS28 (m_X12_isDeep l X Γ H28 hC28 h0 g0 ca gca uc) cw_X12_isDeep cl_RX12_181 g0 ⟨rfl, rfl⟩ rfl hl.1 rfl (show _ ≤ _ from by simp [Value.category]) (by decide) dX12_readCell_86) hS28 (fun v110 locs110 hr110 hS110 => ?_)
      rcases hr110 with rfl | rfl
      · refine lv_goto (tgt := 108) hx hb dX12_readCell_89 rfl ?_
        refine q_goV (q_runV (As := [.int 0]) (rest := []) E hC28 hS110 (m_X12_must l X Γ H28 hC28 h0 g0 0 (a1 := 0) (by decide) ca gca uc (by omega) (by omega)) cw_X12_must cl_RX12_244 g0 ⟨rfl, rfl⟩ rfl hl.1 rfl (Nat.zero_le _) (by decide) dX12_readCell_108) hS110 (fun H111 locs111 hr111 hC111 hS111 => ?_)
        obtain ⟨hp111, hr111⟩ := hr111
        have hKp111 := hKp28.tr (hp111.mono rfl)
        obtain ⟨f111_0, f111_1, f111_2, f111_3, f111_4⟩ := hr111
        refine lv_aload_n hx hb dX12_readCell_111 rfl (lv_at hl 4 rfl) ?_
        refine lv_iconst (v := 0) hx hb dX12_readCell_112 rfl ?_
        refine lv_iload_n hx hb dX12_readCell_113 rfl (lv_at hl 5 rfl) ?_
        refine lv_iconst (v := 2) hx hb dX12_readCell_114 rfl ?_
        refine q_icmp_ne hx hb (a := a1) (b := 2) e1 (by decide) (tgt := 123) dX12_readCell_115 rfl (fun c112 => ?_) (fun c112 => absurd c112 (by omega))
        refine lv_bipush (v := 99) hx hb dX12_readCell_123 rfl ?_
        refine q_goI (q_runV (As := [.int 0, .int 99]) (rest := []) E hC111 hS111 (m_X12_count l X Γ H111 hC111 h0 g0 0 (a1 := 0) (by decide) 99 (a2 := 99) (by decide) ca gca uc (by omega) (by omega) (by omega) (by omega)) cw_X12_count cl_RX12_248 g0 ⟨rfl, rfl⟩ rfl hl.1 rfl (Nat.zero_le _) (by decide) dX12_readCell_125) hS111 (fun v113 H113 locs113 hr113 hC113 hS113 => ?_)
        obtain ⟨hp113, hr113⟩ := hr113
        have hKp113 := hKp111.tr (hp113.mono rfl)
        obtain ⟨f113_0, f113_1, f113_2, f113_3, f113_4, f113_5, f113_6, f113_7⟩ := hr113
        refine lv_istore hx hb dX12_readCell_128 hl (by decide) rfl (fun ls hl => ?_)
        replace hl : lv_has ls 7 [(6, .int v113), (5, .int v30), (4, .int v28), (3, .int v25), (2, .int v24), (0, .ref h0), (1, .int p1)] := hl
        refine lv_aload_n hx hb dX12_readCell_130 rfl (lv_at hl 5 rfl) ?_
        refine q_getI E hC113 g0 fa_RX12_218 dX12_readCell_131 (fun v114 ev114 lv114 uv114 => ?_)
        have m115 : (sI H113 h0 (X.1.2 11 12)).toInt = v114.toInt := (congrArg Int32.toInt ev114).trans rfl
        refine q_if_le hx hb (a := v114.toInt) rfl (tgt := 138) dX12_readCell_134 rfl (fun c116 => ?_) (fun c116 => ?_)
        · refine lv_aload_n hx hb dX12_readCell_138 rfl (lv_at hl 5 rfl) ?_
          refine q_getR E hC113 g0 fa_RX12_41 dX12_readCell_139 (fun q117 eq117 gq117 => ?_)
          refine lv_bipush (v := 36) hx hb dX12_readCell_142 rfl ?_
          refine lv_iload_n hx hb dX12_readCell_144 rfl (lv_at hl 6 rfl) ?_
          refine lv_imul hx hb dX12_readCell_145 (lv_topi (fun v118 ev118 => ?_))
          have ev118i : v118.toInt = (36 * a1) := i_mul ev118 (by decide) e1 (by omega) (by omega)
          refine lv_iload hx hb dX12_readCell_146 (lv_at hl 1 rfl) ?_
          refine lv_iadd hx hb dX12_readCell_148 (lv_topi (fun v119 ev119 => ?_))
          have ev119i : v119.toInt = ((36 * a1) + ((6 * v28.toInt) + v24.toInt)) := i_add ev119 ev118i ev30i (by omega) (by omega)
          refine lv_iconst (v := 1) hx hb dX12_readCell_149 rfl ?_
          refine q_iast E hC113 hS113 gq117 (by decide) rfl rfl (i_in (a := ((36 * a1) + ((6 * v28.toInt) + v24.toInt))) ev119i (by omega) (by omega)) tv_F dX12_readCell_150 (fun H120 locs120 hC120 hS120 U120 => ?_)
          have hKp120 := Kp.upA gq117 rfl (by decide) rfl U120 hKp113
          have m121 : (sI H120 h0 (X.1.2 11 12)).toInt = (sI H113 h0 (X.1.2 11 12)).toInt := congrArg Int32.toInt (up_nI U120 (ne_k g0 gq117 (by decide)))
          have m122 : (sI H120 h0 (X.1.2 11 14)).toInt = (sI H113 h0 (X.1.2 11 14)).toInt := congrArg Int32.toInt (up_nI U120 (ne_k g0 gq117 (by decide)))
          have m123 := congrArg tk m122
          have m124 : (sI H120 h0 (X.1.2 11 16)).toInt = (sI H113 h0 (X.1.2 11 16)).toInt := congrArg Int32.toInt (up_nI U120 (ne_k g0 gq117 (by decide)))
          refine lv_aload_n hx hb dX12_readCell_151 rfl (lv_at hl 5 rfl) ?_
          refine q_getC E hC120 g0 fa_RX12_35 uc dX12_readCell_152 ?_
          refine lv_sipush (v := 2080) hx hb dX12_readCell_155 rfl ?_
          refine lv_iload_n hx hb dX12_readCell_158 rfl (lv_at hl 6 rfl) ?_
          refine q_if_ne hx hb (a := a1) e1 (tgt := 167) dX12_readCell_159 rfl (fun c125 => absurd c125 (by omega)) (fun c125 => ?_)
          refine lv_bipush (v := 26) hx hb dX12_readCell_162 rfl ?_
          refine lv_goto (tgt := 179) hx hb dX12_readCell_164 rfl ?_
          refine lv_iadd hx hb dX12_readCell_179 (lv_topi (fun v126 ev126 => ?_))
          have ev126i : v126.toInt = (2080 + 26) := i_add ev126 (by decide) (by decide) (by omega) (by omega)
          refine lv_iload hx hb dX12_readCell_180 (lv_at hl 1 rfl) ?_
          refine lv_iadd hx hb dX12_readCell_182 (lv_topi (fun v127 ev127 => ?_))
          have ev127i : v127.toInt = ((2080 + 26) + ((6 * v28.toInt) + v24.toInt)) := i_add ev127 ev126i ev30i (by omega) (by omega)
          refine lv_iload hx hb dX12_readCell_183 (lv_at hl 0 rfl) ?_
          refine q_cast E hC120 hS120 gca (a := ((2080 + 26) + ((6 * v28.toInt) + v24.toInt))) ev127i (by omega) (by omega) (cs_n26 (a := ((2080 + 26) + ((6 * v28.toInt) + v24.toInt))) (b := v113.toInt) (by omega) (by omega) rfl (by omega) (by omega)) dX12_readCell_185 (fun H128 locs128 hC128 hS128 U128 => ?_)
          have hKp128 := Kp.upD gca rfl rfl (fun _ => ⟨fun _ => nd4 (by omega) (by omega), fun _ => by unfold dpu; omega, fun _ => by unfold dpn; omega⟩) U128 hKp120
          have m129 : (sI H128 h0 (X.1.2 11 12)).toInt = (sI H120 h0 (X.1.2 11 12)).toInt := congrArg Int32.toInt (up_nI U128 (ne_k g0 gca (by decide)))
          have m130 : (sI H128 h0 (X.1.2 11 14)).toInt = (sI H120 h0 (X.1.2 11 14)).toInt := congrArg Int32.toInt (up_nI U128 (ne_k g0 gca (by decide)))
          have m131 := congrArg tk m130
          have m132 : (sI H128 h0 (X.1.2 11 16)).toInt = (sI H120 h0 (X.1.2 11 16)).toInt := congrArg Int32.toInt (up_nI U128 (ne_k g0 gca (by decide)))
          have e133 := up_I U128
          have hz8 := tk_nn (sI H128 h0 (X.1.2 11 14)).toInt
          exact ret H128 locs128 _ _ dX12_readCell_186 ⟨hKp128, ⟨by omega, by omega, by omega, by omega⟩⟩ hC128 hS128
        · have hz8 := tk_nn (sI H113 h0 (X.1.2 11 14)).toInt
          exact ret H113 locs113 _ _ dX12_readCell_137 ⟨hKp113, ⟨by omega, by omega, by omega, by omega⟩⟩ hC113 hS113
      · refine lv_goto (tgt := 108) hx hb dX12_readCell_89 rfl ?_
        refine q_goV (q_runV (As := [.int 1]) (rest := []) E hC28 hS110 (m_X12_must l X Γ H28 hC28 h0 g0 1 (a1 := 1) (by decide) ca gca uc (by omega) (by omega)) cw_X12_must cl_RX12_244 g0 ⟨rfl, rfl⟩ rfl hl.1 rfl (Nat.zero_le _) (by decide) dX12_readCell_108) hS110 (fun H134 locs134 hr134 hC134 hS134 => ?_)
        obtain ⟨hp134, hr134⟩ := hr134
        have hKp134 := hKp28.tr (hp134.mono rfl)
        obtain ⟨f134_0, f134_1, f134_2, f134_3, f134_4⟩ := hr134
        refine lv_aload_n hx hb dX12_readCell_111 rfl (lv_at hl 4 rfl) ?_
        refine lv_iconst (v := 0) hx hb dX12_readCell_112 rfl ?_
        refine lv_iload_n hx hb dX12_readCell_113 rfl (lv_at hl 5 rfl) ?_
        refine lv_iconst (v := 2) hx hb dX12_readCell_114 rfl ?_
        refine q_icmp_ne hx hb (a := a1) (b := 2) e1 (by decide) (tgt := 123) dX12_readCell_115 rfl (fun c135 => ?_) (fun c135 => absurd c135 (by omega))
        refine lv_bipush (v := 99) hx hb dX12_readCell_123 rfl ?_
        refine q_goI (q_runV (As := [.int 0, .int 99]) (rest := []) E hC134 hS134 (m_X12_count l X Γ H134 hC134 h0 g0 0 (a1 := 0) (by decide) 99 (a2 := 99) (by decide) ca gca uc (by omega) (by omega) (by omega) (by omega)) cw_X12_count cl_RX12_248 g0 ⟨rfl, rfl⟩ rfl hl.1 rfl (Nat.zero_le _) (by decide) dX12_readCell_125) hS134 (fun v136 H136 locs136 hr136 hC136 hS136 => ?_)
        obtain ⟨hp136, hr136⟩ := hr136
        have hKp136 := hKp134.tr (hp136.mono rfl)
        obtain ⟨f136_0, f136_1, f136_2, f136_3, f136_4, f136_5, f136_6, f136_7⟩ := hr136
        refine lv_istore hx hb dX12_readCell_128 hl (by decide) rfl (fun ls hl => ?_)
        replace hl : lv_has ls 7 [(6, .int v136), (5, .int v30), (4, .int v28), (3, .int v25), (2, .int v24), (0, .ref h0), (1, .int p1)] := hl
        refine lv_aload_n hx hb dX12_readCell_130 rfl (lv_at hl 5 rfl) ?_
        refine q_getI E hC136 g0 fa_RX12_218 dX12_readCell_131 (fun v137 ev137 lv137 uv137 => ?_)
        have m138 : (sI H136 h0 (X.1.2 11 12)).toInt = v137.toInt := (congrArg Int32.toInt ev137).trans rfl
        refine q_if_le hx hb (a := v137.toInt) rfl (tgt := 138) dX12_readCell_134 rfl (fun c139 => ?_) (fun c139 => ?_)
        · refine lv_aload_n hx hb dX12_readCell_138 rfl (lv_at hl 5 rfl) ?_
          refine q_getR E hC136 g0 fa_RX12_41 dX12_readCell_139 (fun q140 eq140 gq140 => ?_)
          refine lv_bipush (v := 36) hx hb dX12_readCell_142 rfl ?_
          refine lv_iload_n hx hb dX12_readCell_144 rfl (lv_at hl 6 rfl) ?_
          refine lv_imul hx hb dX12_readCell_145 (lv_topi (fun v141 ev141 => ?_))
          have ev141i : v141.toInt = (36 * a1) := i_mul ev141 (by decide) e1 (by omega) (by omega)
          refine lv_iload hx hb dX12_readCell_146 (lv_at hl 1 rfl) ?_
          refine lv_iadd hx hb dX12_readCell_148 (lv_topi (fun v142 ev142 => ?_))
          have ev142i : v142.toInt = ((36 * a1) + ((6 * v28.toInt) + v24.toInt)) := i_add ev142 ev141i ev30i (by omega) (by omega)
          refine lv_iconst (v := 1) hx hb dX12_readCell_149 rfl ?_
          refine q_iast E hC136 hS136 gq140 (by decide) rfl rfl (i_in (a := ((36 * a1) + ((6 * v28.toInt) + v24.toInt))) ev142i (by omega) (by omega)) tv_F dX12_readCell_150 (fun H143 locs143 hC143 hS143 U143 => ?_)
          have hKp143 := Kp.upA gq140 rfl (by decide) rfl U143 hKp136
          have m144 : (sI H143 h0 (X.1.2 11 12)).toInt = (sI H136 h0 (X.1.2 11 12)).toInt := congrArg Int32.toInt (up_nI U143 (ne_k g0 gq140 (by decide)))
          have m145 : (sI H143 h0 (X.1.2 11 14)).toInt = (sI H136 h0 (X.1.2 11 14)).toInt := congrArg Int32.toInt (up_nI U143 (ne_k g0 gq140 (by decide)))
          have m146 := congrArg tk m145
          have m147 : (sI H143 h0 (X.1.2 11 16)).toInt = (sI H136 h0 (X.1.2 11 16)).toInt := congrArg Int32.toInt (up_nI U143 (ne_k g0 gq140 (by decide)))
          refine lv_aload_n hx hb dX12_readCell_151 rfl (lv_at hl 5 rfl) ?_
          refine q_getC E hC143 g0 fa_RX12_35 uc dX12_readCell_152 ?_
          refine lv_sipush (v := 2080) hx hb dX12_readCell_155 rfl ?_
          refine lv_iload_n hx hb dX12_readCell_158 rfl (lv_at hl 6 rfl) ?_
          refine q_if_ne hx hb (a := a1) e1 (tgt := 167) dX12_readCell_159 rfl (fun c148 => absurd c148 (by omega)) (fun c148 => ?_)
          refine lv_bipush (v := 26) hx hb dX12_readCell_162 rfl ?_
          refine lv_goto (tgt := 179) hx hb dX12_readCell_164 rfl ?_
          refine lv_iadd hx hb dX12_readCell_179 (lv_topi (fun v149 ev149 => ?_))
          have ev149i : v149.toInt = (2080 + 26) := i_add ev149 (by decide) (by decide) (by omega) (by omega)
          refine lv_iload hx hb dX12_readCell_180 (lv_at hl 1 rfl) ?_
          refine lv_iadd hx hb dX12_readCell_182 (lv_topi (fun v150 ev150 => ?_))
          have ev150i : v150.toInt = ((2080 + 26) + ((6 * v28.toInt) + v24.toInt)) := i_add ev150 ev149i ev30i (by omega) (by omega)
          refine lv_iload hx hb dX12_readCell_183 (lv_at hl 0 rfl) ?_
          refine q_cast E hC143 hS143 gca (a := ((2080 + 26) + ((6 * v28.toInt) + v24.toInt))) ev150i (by omega) (by omega) (cs_n26 (a := ((2080 + 26) + ((6 * v28.toInt) + v24.toInt))) (b := v136.toInt) (by omega) (by omega) rfl (by omega) (by omega)) dX12_readCell_185 (fun H151 locs151 hC151 hS151 U151 => ?_)
          have hKp151 := Kp.upD gca rfl rfl (fun _ => ⟨fun _ => nd4 (by omega) (by omega), fun _ => by unfold dpu; omega, fun _ => by unfold dpn; omega⟩) U151 hKp143
          have m152 : (sI H151 h0 (X.1.2 11 12)).toInt = (sI H143 h0 (X.1.2 11 12)).toInt := congrArg Int32.toInt (up_nI U151 (ne_k g0 gca (by decide)))
          have m153 : (sI H151 h0 (X.1.2 11 14)).toInt = (sI H143 h0 (X.1.2 11 14)).toInt := congrArg Int32.toInt (up_nI U151 (ne_k g0 gca (by decide)))
          have m154 := congrArg tk m153
          have m155 : (sI H151 h0 (X.1.2 11 16)).toInt = (sI H143 h0 (X.1.2 11 16)).toInt := congrArg Int32.toInt (up_nI U151 (ne_k g0 gca (by decide)))
          have e156 := up_I U151
          have hz8 := tk_nn (sI H151 h0 (X.1.2 11 14)).toInt
          exact ret H151 locs151 _ _ dX12_readCell_186 ⟨hKp151, ⟨by omega, by omega, by omega, by omega⟩⟩ hC151 hS151
        · have hz8 := tk_nn (sI H136 h0 (X.1.2 11 14)).toInt
          exact ret H136 locs136 _ _ dX12_readCell_137 ⟨hKp136, ⟨by omega, by omega, by omega, by omega⟩⟩ hC136 hS136
  · refine lv_aload_n hx hb dX12_readCell_58 rfl (lv_at hl 4 rfl) ?_
    refine q_getR E hC28 g0 fa_RX12_41 dX12_readCell_59 (fun q157 eq157 gq157 => ?_)
    refine lv_bipush (v := 36) hx hb dX12_readCell_62 rfl ?_
    refine lv_iload_n hx hb dX12_readCell_64 rfl (lv_at hl 5 rfl) ?_
    refine lv_imul hx hb dX12_readCell_65 (lv_topi (fun v158 ev158 => ?_))
    have ev158i : v158.toInt = (36 * a1) := i_mul ev158 (by decide) e1 (by omega) (by omega)
    refine lv_iload hx hb dX12_readCell_66 (lv_at hl 0 rfl) ?_
    refine lv_iadd hx hb dX12_readCell_68 (lv_topi (fun v159 ev159 => ?_))
    have ev159i : v159.toInt = ((36 * a1) + ((6 * v28.toInt) + v24.toInt)) := i_add ev159 ev158i ev30i (by omega) (by omega)
    refine q_iald E hC28 gq157 rfl rfl (fun _ h => h) (i_in (a := ((36 * a1) + ((6 * v28.toInt) + v24.toInt))) ev159i (by omega) (by omega)) dX12_readCell_69 (fun v160 ev160 _ _ => ?_)
    refine lv_iconst (v := 1) hx hb dX12_readCell_70 rfl ?_
    refine q_icmp_ne hx hb (a := v160.toInt) (b := 1) rfl (by decide) (tgt := 80) dX12_readCell_71 rfl (fun c161 => ?_) (fun c161 => ?_)
    · refine lv_aload_n hx hb dX12_readCell_80 rfl (lv_at hl 4 rfl) ?_
      refine lv_iload_n hx hb dX12_readCell_81 rfl (lv_at hl 5 rfl) ?_
      refine q_if_ne hx hb (a := a1) e1 (tgt := 92) dX12_readCell_82 rfl (fun c162 => ?_) (fun c162 => ?_)
      · refine lv_iload_n hx hb dX12_readCell_92 rfl (lv_at hl 5 rfl) ?_
        refine lv_iconst (v := 1) hx hb dX12_readCell_93 rfl ?_
        refine q_icmp_ne hx hb (a := a1) (b := 1) e1 (by decide) (tgt := 104) dX12_readCell_94 rfl (fun c163 => ?_) (fun c163 => ?_)
        · refine lv_aload_n hx hb dX12_readCell_104 rfl (lv_at hl 4 rfl) ?_
          refine q_goIp (q_runV (As := []) (rest := [.ref h0]) E hC28 hS28 (m_X12_isBy l X Γ H28 hC28 h0 g0 ca gca uc) cw_X12_isBy cl_RX12_190 g0 ⟨rfl, rfl⟩ rfl hl.1 rfl (show _ ≤ _ from by simp [Value.category]) (by decide) dX12_readCell_105) hS28 (fun v164 locs164 hr164 hS164 => ?_)
          have b164 : v164.toInt = 0 ∨ v164.toInt = 1 := hr164.imp (fun h => by rw [h]; decide) (fun h => by rw [h]; decide)
          refine q_goV (q_runV (As := [.int v164]) (rest := []) E hC28 hS164 (m_X12_must l X Γ H28 hC28 h0 g0 v164 (a1 := v164.toInt) rfl ca gca uc (by omega) (by omega)) cw_X12_must cl_RX12_244 g0 ⟨rfl, rfl⟩ rfl hl.1 rfl (Nat.zero_le _) (by decide) dX12_readCell_108) hS164 (fun H165 locs165 hr165 hC165 hS165 => ?_)
          obtain ⟨hp165, hr165⟩ := hr165
          have hKp165 := hKp28.tr (hp165.mono rfl)
          obtain ⟨f165_0, f165_1, f165_2, f165_3, f165_4⟩ := hr165
          refine lv_aload_n hx hb dX12_readCell_111 rfl (lv_at hl 4 rfl) ?_
          refine lv_iconst (v := 0) hx hb dX12_readCell_112 rfl ?_
          refine lv_iload_n hx hb dX12_readCell_113 rfl (lv_at hl 5 rfl) ?_
          refine lv_iconst (v := 2) hx hb dX12_readCell_114 rfl ?_
          refine q_icmp_ne hx hb (a := a1) (b := 2) e1 (by decide) (tgt := 123) dX12_readCell_115 rfl (fun c166 => absurd c166 (by omega)) (fun c166 => ?_)
          refine lv_bipush (v := 9) hx hb dX12_readCell_118 rfl ?_
          refine lv_goto (tgt := 125) hx hb dX12_readCell_120 rfl ?_
          refine q_goI (q_runV (As := [.int 0, .int 9]) (rest := []) E hC165 hS165 (m_X12_count l X Γ H165 hC165 h0 g0 0 (a1 := 0) (by decide) 9 (a2 := 9) (by decide) ca gca uc (by omega) (by omega) (by omega) (by omega)) cw_X12_count cl_RX12_248 g0 ⟨rfl, rfl⟩ rfl hl.1 rfl (Nat.zero_le _) (by decide) dX12_readCell_125) hS165 (fun v167 H167 locs167 hr167 hC167 hS167 => ?_)
          obtain ⟨hp167, hr167⟩ := hr167
          have hKp167 := hKp165.tr (hp167.mono rfl)
          obtain ⟨f167_0, f167_1, f167_2, f167_3, f167_4, f167_5, f167_6, f167_7⟩ := hr167
          refine lv_istore hx hb dX12_readCell_128 hl (by decide) rfl (fun ls hl => ?_)
          replace hl : lv_has ls 7 [(6, .int v167), (5, .int v30), (4, .int v28), (3, .int v25), (2, .int v24), (0, .ref h0), (1, .int p1)] := hl
          refine lv_aload_n hx hb dX12_readCell_130 rfl (lv_at hl 5 rfl) ?_
          refine q_getI E hC167 g0 fa_RX12_218 dX12_readCell_131 (fun v168 ev168 lv168 uv168 => ?_)
          have m169 : (sI H167 h0 (X.1.2 11 12)).toInt = v168.toInt := (congrArg Int32.toInt ev168).trans rfl
          refine q_if_le hx hb (a := v168.toInt) rfl (tgt := 138) dX12_readCell_134 rfl (fun c170 => ?_) (fun c170 => ?_)
          · refine lv_aload_n hx hb dX12_readCell_138 rfl (lv_at hl 5 rfl) ?_
            refine q_getR E hC167 g0 fa_RX12_41 dX12_readCell_139 (fun q171 eq171 gq171 => ?_)
            refine lv_bipush (v := 36) hx hb dX12_readCell_142 rfl ?_
            refine lv_iload_n hx hb dX12_readCell_144 rfl (lv_at hl 6 rfl) ?_
            refine lv_imul hx hb dX12_readCell_145 (lv_topi (fun v172 ev172 => ?_))
            have ev172i : v172.toInt = (36 * a1) := i_mul ev172 (by decide) e1 (by omega) (by omega)
            refine lv_iload hx hb dX12_readCell_146 (lv_at hl 1 rfl) ?_
            refine lv_iadd hx hb dX12_readCell_148 (lv_topi (fun v173 ev173 => ?_))
            have ev173i : v173.toInt = ((36 * a1) + ((6 * v28.toInt) + v24.toInt)) := i_add ev173 ev172i ev30i (by omega) (by omega)
            refine lv_iconst (v := 1) hx hb dX12_readCell_149 rfl ?_
            refine q_iast E hC167 hS167 gq171 (by decide) rfl rfl (i_in (a := ((36 * a1) + ((6 * v28.toInt) + v24.toInt))) ev173i (by omega) (by omega)) tv_F dX12_readCell_150 (fun H174 locs174 hC174 hS174 U174 => ?_)
            have hKp174 := Kp.upA gq171 rfl (by decide) rfl U174 hKp167
            have m175 : (sI H174 h0 (X.1.2 11 12)).toInt = (sI H167 h0 (X.1.2 11 12)).toInt := congrArg Int32.toInt (up_nI U174 (ne_k g0 gq171 (by decide)))
            have m176 : (sI H174 h0 (X.1.2 11 14)).toInt = (sI H167 h0 (X.1.2 11 14)).toInt := congrArg Int32.toInt (up_nI U174 (ne_k g0 gq171 (by decide)))
            have m177 := congrArg tk m176
            have m178 : (sI H174 h0 (X.1.2 11 16)).toInt = (sI H167 h0 (X.1.2 11 16)).toInt := congrArg Int32.toInt (up_nI U174 (ne_k g0 gq171 (by decide)))
            refine lv_aload_n hx hb dX12_readCell_151 rfl (lv_at hl 5 rfl) ?_
            refine q_getC E hC174 g0 fa_RX12_35 uc dX12_readCell_152 ?_
            refine lv_sipush (v := 2080) hx hb dX12_readCell_155 rfl ?_
            refine lv_iload_n hx hb dX12_readCell_158 rfl (lv_at hl 6 rfl) ?_
            refine q_if_ne hx hb (a := a1) e1 (tgt := 167) dX12_readCell_159 rfl (fun c179 => ?_) (fun c179 => absurd c179 (by omega))
            refine lv_iload_n hx hb dX12_readCell_167 rfl (lv_at hl 6 rfl) ?_
            refine lv_iconst (v := 1) hx hb dX12_readCell_168 rfl ?_
            refine q_icmp_ne hx hb (a := a1) (b := 1) e1 (by decide) (tgt := 177) dX12_readCell_169 rfl (fun c180 => ?_) (fun c180 => absurd c180 (by omega))
            refine lv_bipush (v := 98) hx hb dX12_readCell_177 rfl ?_
            refine lv_iadd hx hb dX12_readCell_179 (lv_topi (fun v181 ev181 => ?_))
            have ev181i : v181.toInt = (2080 + 98) := i_add ev181 (by decide) (by decide) (by omega) (by omega)
            refine lv_iload hx hb dX12_readCell_180 (lv_at hl 1 rfl) ?_
            refine lv_iadd hx hb dX12_readCell_182 (lv_topi (fun v182 ev182 => ?_))
            have ev182i : v182.toInt = ((2080 + 98) + ((6 * v28.toInt) + v24.toInt)) := i_add ev182 ev181i ev30i (by omega) (by omega)
            refine lv_iload hx hb dX12_readCell_183 (lv_at hl 0 rfl) ?_
            refine q_cast E hC174 hS174 gca (a := ((2080 + 98) + ((6 * v28.toInt) + v24.toInt))) ev182i (by omega) (by omega) (cs_n98 (a := ((2080 + 98) + ((6 * v28.toInt) + v24.toInt))) (b := v167.toInt) (by omega) (by omega) rfl (by omega) (by omega)) dX12_readCell_185 (fun H183 locs183 hC183 hS183 U183 => ?_)
            have hKp183 := Kp.upD gca rfl rfl (fun _ => ⟨fun _ => nd4 (by omega) (by omega), fun _ => by unfold dpu; omega, fun _ => by unfold dpn; omega⟩) U183 hKp174
            have m184 : (sI H183 h0 (X.1.2 11 12)).toInt = (sI H174 h0 (X.1.2 11 12)).toInt := congrArg Int32.toInt (up_nI U183 (ne_k g0 gca (by decide)))
            have m185 : (sI H183 h0 (X.1.2 11 14)).toInt = (sI H174 h0 (X.1.2 11 14)).toInt := congrArg Int32.toInt (up_nI U183 (ne_k g0 gca (by decide)))
            have m186 := congrArg tk m185
            have m187 : (sI H183 h0 (X.1.2 11 16)).toInt = (sI H174 h0 (X.1.2 11 16)).toInt := congrArg Int32.toInt (up_nI U183 (ne_k g0 gca (by decide)))
            have e188 := up_I U183
            have hz8 := tk_nn (sI H183 h0 (X.1.2 11 14)).toInt
            exact ret H183 locs183 _ _ dX12_readCell_186 ⟨hKp183, ⟨by omega, by omega, by omega, by omega⟩⟩ hC183 hS183
          · have hz8 := tk_nn (sI H167 h0 (X.1.2 11 14)).toInt
            exact ret H167 locs167 _ _ dX12_readCell_137 ⟨hKp167, ⟨by omega, by omega, by omega, by omega⟩⟩ hC167 hS167
        · refine lv_aload_n hx hb dX12_readCell_97 rfl (lv_at hl 4 rfl) ?_
          refine q_goIp (q_runV (As := []) (rest := [.ref h0]) E hC28 hS28 (m_X12_isTall l X Γ H28 hC28 h0 g0 ca gca uc) cw_X12_isTall cl_RX12_184 g0 ⟨rfl, rfl⟩ rfl hl.1 rfl (show _ ≤ _ from by simp [Value.category]) (by decide) dX12_readCell_98) hS28 (fun v189 locs189 hr189 hS189 => ?_)
          rcases hr189 with rfl | rfl
          · refine lv_goto (tgt := 108) hx hb dX12_readCell_101 rfl ?_
            refine q_goV (q_runV (As := [.int 0]) (rest := []) E hC28 hS189 (m_X12_must l X Γ H28 hC28 h0 g0 0 (a1 := 0) (by decide) ca gca uc (by omega) (by omega)) cw_X12_must cl_RX12_244 g0 ⟨rfl, rfl⟩ rfl hl.1 rfl (Nat.zero_le _) (by decide) dX12_readCell_108) hS189 (fun H190 locs190 hr190 hC190 hS190 => ?_)
            obtain ⟨hp190, hr190⟩ := hr190
            have hKp190 := hKp28.tr (hp190.mono rfl)
            obtain ⟨f190_0, f190_1, f190_2, f190_3, f190_4⟩ := hr190
            refine lv_aload_n hx hb dX12_readCell_111 rfl (lv_at hl 4 rfl) ?_
            refine lv_iconst (v := 0) hx hb dX12_readCell_112 rfl ?_
            refine lv_iload_n hx hb dX12_readCell_113 rfl (lv_at hl 5 rfl) ?_
            refine lv_iconst (v := 2) hx hb dX12_readCell_114 rfl ?_
            refine q_icmp_ne hx hb (a := a1) (b := 2) e1 (by decide) (tgt := 123) dX12_readCell_115 rfl (fun c191 => ?_) (fun c191 => absurd c191 (by omega))
            refine lv_bipush (v := 99) hx hb dX12_readCell_123 rfl ?_
            refine q_goI (q_runV (As := [.int 0, .int 99]) (rest := []) E hC190 hS190 (m_X12_count l X Γ H190 hC190 h0 g0 0 (a1 := 0) (by decide) 99 (a2 := 99) (by decide) ca gca uc (by omega) (by omega) (by omega) (by omega)) cw_X12_count cl_RX12_248 g0 ⟨rfl, rfl⟩ rfl hl.1 rfl (Nat.zero_le _) (by decide) dX12_readCell_125) hS190 (fun v192 H192 locs192 hr192 hC192 hS192 => ?_)
            obtain ⟨hp192, hr192⟩ := hr192
            have hKp192 := hKp190.tr (hp192.mono rfl)
            obtain ⟨f192_0, f192_1, f192_2, f192_3, f192_4, f192_5, f192_6, f192_7⟩ := hr192
            refine lv_istore hx hb dX12_readCell_128 hl (by decide) rfl (fun ls hl => ?_)
            replace hl : lv_has ls 7 [(6, .int v192), (5, .int v30), (4, .int v28), (3, .int v25), (2, .int v24), (0, .ref h0), (1, .int p1)] := hl
            refine lv_aload_n hx hb dX12_readCell_130 rfl (lv_at hl 5 rfl) ?_
            refine q_getI E hC192 g0 fa_RX12_218 dX12_readCell_131 (fun v193 ev193 lv193 uv193 => ?_)
            have m194 : (sI H192 h0 (X.1.2 11 12)).toInt = v193.toInt := (congrArg Int32.toInt ev193).trans rfl
            refine q_if_le hx hb (a := v193.toInt) rfl (tgt := 138) dX12_readCell_134 rfl (fun c195 => ?_) (fun c195 => ?_)
            · refine lv_aload_n hx hb dX12_readCell_138 rfl (lv_at hl 5 rfl) ?_
              refine q_getR E hC192 g0 fa_RX12_41 dX12_readCell_139 (fun q196 eq196 gq196 => ?_)
              refine lv_bipush (v := 36) hx hb dX12_readCell_142 rfl ?_
              refine lv_iload_n hx hb dX12_readCell_144 rfl (lv_at hl 6 rfl) ?_
              refine lv_imul hx hb dX12_readCell_145 (lv_topi (fun v197 ev197 => ?_))
              have ev197i : v197.toInt = (36 * a1) := i_mul ev197 (by decide) e1 (by omega) (by omega)
              refine lv_iload hx hb dX12_readCell_146 (lv_at hl 1 rfl) ?_
              refine lv_iadd hx hb dX12_readCell_148 (lv_topi (fun v198 ev198 => ?_))
              have ev198i : v198.toInt = ((36 * a1) + ((6 * v28.toInt) + v24.toInt)) := i_add ev198 ev197i ev30i (by omega) (by omega)
              refine lv_iconst (v := 1) hx hb dX12_readCell_149 rfl ?_
              refine q_iast E hC192 hS192 gq196 (by decide) rfl rfl (i_in (a := ((36 * a1) + ((6 * v28.toInt) + v24.toInt))) ev198i (by omega) (by omega)) tv_F dX12_readCell_150 (fun H199 locs199 hC199 hS199 U199 => ?_)
              have hKp199 := Kp.upA gq196 rfl (by decide) rfl U199 hKp192
              have m200 : (sI H199 h0 (X.1.2 11 12)).toInt = (sI H192 h0 (X.1.2 11 12)).toInt := congrArg Int32.toInt (up_nI U199 (ne_k g0 gq196 (by decide)))
              have m201 : (sI H199 h0 (X.1.2 11 14)).toInt = (sI H192 h0 (X.1.2 11 14)).toInt := congrArg Int32.toInt (up_nI U199 (ne_k g0 gq196 (by decide)))
              have m202 := congrArg tk m201
              have m203 : (sI H199 h0 (X.1.2 11 16)).toInt = (sI H192 h0 (X.1.2 11 16)).toInt := congrArg Int32.toInt (up_nI U199 (ne_k g0 gq196 (by decide)))
              refine lv_aload_n hx hb dX12_readCell_151 rfl (lv_at hl 5 rfl) ?_
              refine q_getC E hC199 g0 fa_RX12_35 uc dX12_readCell_152 ?_
              refine lv_sipush (v := 2080) hx hb dX12_readCell_155 rfl ?_
              refine lv_iload_n hx hb dX12_readCell_158 rfl (lv_at hl 6 rfl) ?_
              refine q_if_ne hx hb (a := a1) e1 (tgt := 167) dX12_readCell_159 rfl (fun c204 => ?_) (fun c204 => absurd c204 (by omega))
              refine lv_iload_n hx hb dX12_readCell_167 rfl (lv_at hl 6 rfl) ?_
              refine lv_iconst (v := 1) hx hb dX12_readCell_168 rfl ?_
              refine q_icmp_ne hx hb (a := a1) (b := 1) e1 (by decide) (tgt := 177) dX12_readCell_169 rfl (fun c205 => absurd c205 (by omega)) (fun c205 => ?_)
              refine lv_bipush (v := 62) hx hb dX12_readCell_172 rfl ?_
              refine lv_goto (tgt := 179) hx hb dX12_readCell_174 rfl ?_
              refine lv_iadd hx hb dX12_readCell_179 (lv_topi (fun v206 ev206 => ?_))
              have ev206i : v206.toInt = (2080 + 62) := i_add ev206 (by decide) (by decide) (by omega) (by omega)
              refine lv_iload hx hb dX12_readCell_180 (lv_at hl 1 rfl) ?_
              refine lv_iadd hx hb dX12_readCell_182 (lv_topi (fun v207 ev207 => ?_))
              have ev207i : v207.toInt = ((2080 + 62) + ((6 * v28.toInt) + v24.toInt)) := i_add ev207 ev206i ev30i (by omega) (by omega)
              refine lv_iload hx hb dX12_readCell_183 (lv_at hl 0 rfl) ?_
              refine q_cast E hC199 hS199 gca (a := ((2080 + 62) + ((6 * v28.toInt) + v24.toInt))) ev207i (by omega) (by omega) (cs_n26 (a := ((2080 + 62) + ((6 * v28.toInt) + v24.toInt))) (b := v192.toInt) (by omega) (by omega) rfl (by omega) (by omega)) dX12_readCell_185 (fun H208 locs208 hC208 hS208 U208 => ?_)
              have hKp208 := Kp.upD gca rfl rfl (fun _ => ⟨fun _ => nd4 (by omega) (by omega), fun _ => by unfold dpu; omega, fun _ => by unfold dpn; omega⟩) U208 hKp199
              have m209 : (sI H208 h0 (X.1.2 11 12)).toInt = (sI H199 h0 (X.1.2 11 12)).toInt := congrArg Int32.toInt (up_nI U208 (ne_k g0 gca (by decide)))
              have m210 : (sI H208 h0 (X.1.2 11 14)).toInt = (sI H199 h0 (X.1.2 11 14)).toInt := congrArg Int32.toInt (up_nI U208 (ne_k g0 gca (by decide)))
              have m211 := congrArg tk m210
              have m212 : (sI H208 h0 (X.1.2 11 16)).toInt = (sI H199 h0 (X.1.2 11 16)).toInt := congrArg Int32.toInt (up_nI U208 (ne_k g0 gca (by decide)))
              have e213 := up_I U208
              have hz8 := tk_nn (sI H208 h0 (X.1.2 11 14)).toInt
              exact ret H208 locs208 _ _ dX12_readCell_186 ⟨hKp208, ⟨by omega, by omega, by omega, by omega⟩⟩ hC208 hS208
            · have hz8 := tk_nn (sI H192 h0 (X.1.2 11 14)).toInt
              exact ret H192 locs192 _ _ dX12_readCell_137 ⟨hKp192, ⟨by omega, by omega, by omega, by omega⟩⟩ hC192 hS192
          · refine lv_goto (tgt := 108) hx hb dX12_readCell_101 rfl ?_
            refine q_goV (q_runV (As := [.int 1]) (rest := []) E hC28 hS189 (m_X12_must l X Γ H28 hC28 h0 g0 1 (a1 := 1) (by decide) ca gca uc (by omega) (by omega)) cw_X12_must cl_RX12_244 g0 ⟨rfl, rfl⟩ rfl hl.1 rfl (Nat.zero_le _) (by decide) dX12_readCell_108) hS189 (fun H214 locs214 hr214 hC214 hS214 => ?_)
            obtain ⟨hp214, hr214⟩ := hr214
            have hKp214 := hKp28.tr (hp214.mono rfl)
            obtain ⟨f214_0, f214_1, f214_2, f214_3, f214_4⟩ := hr214
            refine lv_aload_n hx hb dX12_readCell_111 rfl (lv_at hl 4 rfl) ?_
            refine lv_iconst (v := 0) hx hb dX12_readCell_112 rfl ?_
            refine lv_iload_n hx hb dX12_readCell_113 rfl (lv_at hl 5 rfl) ?_
            refine lv_iconst (v := 2) hx hb dX12_readCell_114 rfl ?_
            refine q_icmp_ne hx hb (a := a1) (b := 2) e1 (by decide) (tgt := 123) dX12_readCell_115 rfl (fun c215 => ?_) (fun c215 => absurd c215 (by omega))
            refine lv_bipush (v := 99) hx hb dX12_readCell_123 rfl ?_
            refine q_goI (q_runV (As := [.int 0, .int 99]) (rest := []) E hC214 hS214 (m_X12_count l X Γ H214 hC214 h0 g0 0 (a1 := 0) (by decide) 99 (a2 := 99) (by decide) ca gca uc (by omega) (by omega) (by omega) (by omega)) cw_X12_count cl_RX12_248 g0 ⟨rfl, rfl⟩ rfl hl.1 rfl (Nat.zero_le _) (by decide) dX12_readCell_125) hS214 (fun v216 H216 locs216 hr216 hC216 hS216 => ?_)
            obtain ⟨hp216, hr216⟩ := hr216
            have hKp216 := hKp214.tr (hp216.mono rfl)
            obtain ⟨f216_0, f216_1, f216_2, f216_3, f216_4, f216_5, f216_6, f216_7⟩ := hr216
            refine lv_istore hx hb dX12_readCell_128 hl (by decide) rfl (fun ls hl => ?_)
            replace hl : lv_has ls 7 [(6, .int v216), (5, .int v30), (4, .int v28), (3, .int v25), (2, .int v24), (0, .ref h0), (1, .int p1)] := hl
            refine lv_aload_n hx hb dX12_readCell_130 rfl (lv_at hl 5 rfl) ?_
            refine q_getI E hC216 g0 fa_RX12_218 dX12_readCell_131 (fun v217 ev217 lv217 uv217 => ?_)
            have m218 : (sI H216 h0 (X.1.2 11 12)).toInt = v217.toInt := (congrArg Int32.toInt ev217).trans rfl
            refine q_if_le hx hb (a := v217.toInt) rfl (tgt := 138) dX12_readCell_134 rfl (fun c219 => ?_) (fun c219 => ?_)
            · refine lv_aload_n hx hb dX12_readCell_138 rfl (lv_at hl 5 rfl) ?_
              refine q_getR E hC216 g0 fa_RX12_41 dX12_readCell_139 (fun q220 eq220 gq220 => ?_)
              refine lv_bipush (v := 36) hx hb dX12_readCell_142 rfl ?_
              refine lv_iload_n hx hb dX12_readCell_144 rfl (lv_at hl 6 rfl) ?_
              refine lv_imul hx hb dX12_readCell_145 (lv_topi (fun v221 ev221 => ?_))
              have ev221i : v221.toInt = (36 * a1) := i_mul ev221 (by decide) e1 (by omega) (by omega)
              refine lv_iload hx hb dX12_readCell_146 (lv_at hl 1 rfl) ?_
              refine lv_iadd hx hb dX12_readCell_148 (lv_topi (fun v222 ev222 => ?_))
              have ev222i : v222.toInt = ((36 * a1) + ((6 * v28.toInt) + v24.toInt)) := i_add ev222 ev221i ev30i (by omega) (by omega)
              refine lv_iconst (v := 1) hx hb dX12_readCell_149 rfl ?_
              refine q_iast E hC216 hS216 gq220 (by decide) rfl rfl (i_in (a := ((36 * a1) + ((6 * v28.toInt) + v24.toInt))) ev222i (by omega) (by omega)) tv_F dX12_readCell_150 (fun H223 locs223 hC223 hS223 U223 => ?_)
              have hKp223 := Kp.upA gq220 rfl (by decide) rfl U223 hKp216
              have m224 : (sI H223 h0 (X.1.2 11 12)).toInt = (sI H216 h0 (X.1.2 11 12)).toInt := congrArg Int32.toInt (up_nI U223 (ne_k g0 gq220 (by decide)))
              have m225 : (sI H223 h0 (X.1.2 11 14)).toInt = (sI H216 h0 (X.1.2 11 14)).toInt := congrArg Int32.toInt (up_nI U223 (ne_k g0 gq220 (by decide)))
              have m226 := congrArg tk m225
              have m227 : (sI H223 h0 (X.1.2 11 16)).toInt = (sI H216 h0 (X.1.2 11 16)).toInt := congrArg Int32.toInt (up_nI U223 (ne_k g0 gq220 (by decide)))
              refine lv_aload_n hx hb dX12_readCell_151 rfl (lv_at hl 5 rfl) ?_
              refine q_getC E hC223 g0 fa_RX12_35 uc dX12_readCell_152 ?_
              refine lv_sipush (v := 2080) hx hb dX12_readCell_155 rfl ?_
              refine lv_iload_n hx hb dX12_readCell_158 rfl (lv_at hl 6 rfl) ?_
              refine q_if_ne hx hb (a := a1) e1 (tgt := 167) dX12_readCell_159 rfl (fun c228 => ?_) (fun c228 => absurd c228 (by omega))
              refine lv_iload_n hx hb dX12_readCell_167 rfl (lv_at hl 6 rfl) ?_
              refine lv_iconst (v := 1) hx hb dX12_readCell_168 rfl ?_
              refine q_icmp_ne hx hb (a := a1) (b := 1) e1 (by decide) (tgt := 177) dX12_readCell_169 rfl (fun c229 => absurd c229 (by omega)) (fun c229 => ?_)
              refine lv_bipush (v := 62) hx hb dX12_readCell_172 rfl ?_
              refine lv_goto (tgt := 179) hx hb dX12_readCell_174 rfl ?_
              refine lv_iadd hx hb dX12_readCell_179 (lv_topi (fun v230 ev230 => ?_))
              have ev230i : v230.toInt = (2080 + 62) := i_add ev230 (by decide) (by decide) (by omega) (by omega)
              refine lv_iload hx hb dX12_readCell_180 (lv_at hl 1 rfl) ?_
              refine lv_iadd hx hb dX12_readCell_182 (lv_topi (fun v231 ev231 => ?_))
              have ev231i : v231.toInt = ((2080 + 62) + ((6 * v28.toInt) + v24.toInt)) := i_add ev231 ev230i ev30i (by omega) (by omega)
              refine lv_iload hx hb dX12_readCell_183 (lv_at hl 0 rfl) ?_
              refine q_cast E hC223 hS223 gca (a := ((2080 + 62) + ((6 * v28.toInt) + v24.toInt))) ev231i (by omega) (by omega) (cs_n26 (a := ((2080 + 62) + ((6 * v28.toInt) + v24.toInt))) (b := v216.toInt) (by omega) (by omega) rfl (by omega) (by omega)) dX12_readCell_185 (fun H232 locs232 hC232 hS232 U232 => ?_)
              have hKp232 := Kp.upD gca rfl rfl (fun _ => ⟨fun _ => nd4 (by omega) (by omega), fun _ => by unfold dpu; omega, fun _ => by unfold dpn; omega⟩) U232 hKp223
              have m233 : (sI H232 h0 (X.1.2 11 12)).toInt = (sI H223 h0 (X.1.2 11 12)).toInt := congrArg Int32.toInt (up_nI U232 (ne_k g0 gca (by decide)))
              have m234 : (sI H232 h0 (X.1.2 11 14)).toInt = (sI H223 h0 (X.1.2 11 14)).toInt := congrArg Int32.toInt (up_nI U232 (ne_k g0 gca (by decide)))
              have m235 := congrArg tk m234
              have m236 : (sI H232 h0 (X.1.2 11 16)).toInt = (sI H223 h0 (X.1.2 11 16)).toInt := congrArg Int32.toInt (up_nI U232 (ne_k g0 gca (by decide)))
              have e237 := up_I U232
              have hz8 := tk_nn (sI H232 h0 (X.1.2 11 14)).toInt
              exact ret H232 locs232 _ _ dX12_readCell_186 ⟨hKp232, ⟨by omega, by omega, by omega, by omega⟩⟩ hC232 hS232
            · have hz8 := tk_nn (sI H216 h0 (X.1.2 11 14)).toInt
              exact ret H216 locs216 _ _ dX12_readCell_137 ⟨hKp216, ⟨by omega, by omega, by omega, by omega⟩⟩ hC216 hS216
      · refine lv_aload_n hx hb dX12_readCell_85 rfl (lv_at hl 4 rfl) ?_
        refine q_goIp (q_runV (As := []) (rest := [.ref h0]) E hC28 hS28 (m_X12_isDeep l X Γ H28 hC28 h0 g0 ca gca uc) cw_X12_isDeep cl_RX12_181 g0 ⟨rfl, rfl⟩ rfl hl.1 rfl (show _ ≤ _ from by simp [Value.category]) (by decide) dX12_readCell_86) hS28 (fun v238 locs238 hr238 hS238 => ?_)
        rcases hr238 with rfl | rfl
        · refine lv_goto (tgt := 108) hx hb dX12_readCell_89 rfl ?_
          refine q_goV (q_runV (As := [.int 0]) (rest := []) E hC28 hS238 (m_X12_must l X Γ H28 hC28 h0 g0 0 (a1 := 0) (by decide) ca gca uc (by omega) (by omega)) cw_X12_must cl_RX12_244 g0 ⟨rfl, rfl⟩ rfl hl.1 rfl (Nat.zero_le _) (by decide) dX12_readCell_108) hS238 (fun H239 locs239 hr239 hC239 hS239 => ?_)
          obtain ⟨hp239, hr239⟩ := hr239
          have hKp239 := hKp28.tr (hp239.mono rfl)
          obtain ⟨f239_0, f239_1, f239_2, f239_3, f239_4⟩ := hr239
          refine lv_aload_n hx hb dX12_readCell_111 rfl (lv_at hl 4 rfl) ?_
          refine lv_iconst (v := 0) hx hb dX12_readCell_112 rfl ?_
          refine lv_iload_n hx hb dX12_readCell_113 rfl (lv_at hl 5 rfl) ?_
          refine lv_iconst (v := 2) hx hb dX12_readCell_114 rfl ?_
          refine q_icmp_ne hx hb (a := a1) (b := 2) e1 (by decide) (tgt := 123) dX12_readCell_115 rfl (fun c240 => ?_) (fun c240 => absurd c240 (by omega))
          refine lv_bipush (v := 99) hx hb dX12_readCell_123 rfl ?_
          refine q_goI (q_runV (As := [.int 0, .int 99]) (rest := []) E hC239 hS239 (m_X12_count l X Γ H239 hC239 h0 g0 0 (a1 := 0) (by decide) 99 (a2 := 99) (by decide) ca gca uc (by omega) (by omega) (by omega) (by omega)) cw_X12_count cl_RX12_248 g0 ⟨rfl, rfl⟩ rfl hl.1 rfl (Nat.zero_le _) (by decide) dX12_readCell_125) hS239 (fun v241 H241 locs241 hr241 hC241 hS241 => ?_)
          obtain ⟨hp241, hr241⟩ := hr241
          have hKp241 := hKp239.tr (hp241.mono rfl)
          obtain ⟨f241_0, f241_1, f241_2, f241_3, f241_4, f241_5, f241_6, f241_7⟩ := hr241
          refine lv_istore hx hb dX12_readCell_128 hl (by decide) rfl (fun ls hl => ?_)
          replace hl : lv_has ls 7 [(6, .int v241), (5, .int v30), (4, .int v28), (3, .int v25), (2, .int v24), (0, .ref h0), (1, .int p1)] := hl
          refine lv_aload_n hx hb dX12_readCell_130 rfl (lv_at hl 5 rfl) ?_
          refine q_getI E hC241 g0 fa_RX12_218 dX12_readCell_131 (fun v242 ev242 lv242 uv242 => ?_)
          have m243 : (sI H241 h0 (X.1.2 11 12)).toInt = v242.toInt := (congrArg Int32.toInt ev242).trans rfl
          refine q_if_le hx hb (a := v242.toInt) rfl (tgt := 138) dX12_readCell_134 rfl (fun c244 => ?_) (fun c244 => ?_)
          · refine lv_aload_n hx hb dX12_readCell_138 rfl (lv_at hl 5 rfl) ?_
            refine q_getR E hC241 g0 fa_RX12_41 dX12_readCell_139 (fun q245 eq245 gq245 => ?_)
            refine lv_bipush (v := 36) hx hb dX12_readCell_142 rfl ?_
            refine lv_iload_n hx hb dX12_readCell_144 rfl (lv_at hl 6 rfl) ?_
            refine lv_imul hx hb dX12_readCell_145 (lv_topi (fun v246 ev246 => ?_))
            have ev246i : v246.toInt = (36 * a1) := i_mul ev246 (by decide) e1 (by omega) (by omega)
            refine lv_iload hx hb dX12_readCell_146 (lv_at hl 1 rfl) ?_
            refine lv_iadd hx hb dX12_readCell_148 (lv_topi (fun v247 ev247 => ?_))
            have ev247i : v247.toInt = ((36 * a1) + ((6 * v28.toInt) + v24.toInt)) := i_add ev247 ev246i ev30i (by omega) (by omega)
            refine lv_iconst (v := 1) hx hb dX12_readCell_149 rfl ?_
            refine q_iast E hC241 hS241 gq245 (by decide) rfl rfl (i_in (a := ((36 * a1) + ((6 * v28.toInt) + v24.toInt))) ev247i (by omega) (by omega)) tv_F dX12_readCell_150 (fun H248 locs248 hC248 hS248 U248 => ?_)
            have hKp248 := Kp.upA gq245 rfl (by decide) rfl U248 hKp241
            have m249 : (sI H248 h0 (X.1.2 11 12)).toInt = (sI H241 h0 (X.1.2 11 12)).toInt := congrArg Int32.toInt (up_nI U248 (ne_k g0 gq245 (by decide)))
            have m250 : (sI H248 h0 (X.1.2 11 14)).toInt = (sI H241 h0 (X.1.2 11 14)).toInt := congrArg Int32.toInt (up_nI U248 (ne_k g0 gq245 (by decide)))
            have m251 := congrArg tk m250
            have m252 : (sI H248 h0 (X.1.2 11 16)).toInt = (sI H241 h0 (X.1.2 11 16)).toInt := congrArg Int32.toInt (up_nI U248 (ne_k g0 gq245 (by decide)))
            refine lv_aload_n hx hb dX12_readCell_151 rfl (lv_at hl 5 rfl) ?_
            refine q_getC E hC248 g0 fa_RX12_35 uc dX12_readCell_152 ?_
            refine lv_sipush (v := 2080) hx hb dX12_readCell_155 rfl ?_
            refine lv_iload_n hx hb dX12_readCell_158 rfl (lv_at hl 6 rfl) ?_
            refine q_if_ne hx hb (a := a1) e1 (tgt := 167) dX12_readCell_159 rfl (fun c253 => absurd c253 (by omega)) (fun c253 => ?_)
            refine lv_bipush (v := 26) hx hb dX12_readCell_162 rfl ?_
            refine lv_goto (tgt := 179) hx hb dX12_readCell_164 rfl ?_
            refine lv_iadd hx hb dX12_readCell_179 (lv_topi (fun v254 ev254 => ?_))
            have ev254i : v254.toInt = (2080 + 26) := i_add ev254 (by decide) (by decide) (by omega) (by omega)
            refine lv_iload hx hb dX12_readCell_180 (lv_at hl 1 rfl) ?_
            refine lv_iadd hx hb dX12_readCell_182 (lv_topi (fun v255 ev255 => ?_))
            have ev255i : v255.toInt = ((2080 + 26) + ((6 * v28.toInt) + v24.toInt)) := i_add ev255 ev254i ev30i (by omega) (by omega)
            refine lv_iload hx hb dX12_readCell_183 (lv_at hl 0 rfl) ?_
            refine q_cast E hC248 hS248 gca (a := ((2080 + 26) + ((6 * v28.toInt) + v24.toInt))) ev255i (by omega) (by omega) (cs_n26 (a := ((2080 + 26) + ((6 * v28.toInt) + v24.toInt))) (b := v241.toInt) (by omega) (by omega) rfl (by omega) (by omega)) dX12_readCell_185 (fun H256 locs256 hC256 hS256 U256 => ?_)
            have hKp256 := Kp.upD gca rfl rfl (fun _ => ⟨fun _ => nd4 (by omega) (by omega), fun _ => by unfold dpu; omega, fun _ => by unfold dpn; omega⟩) U256 hKp248
            have m257 : (sI H256 h0 (X.1.2 11 12)).toInt = (sI H248 h0 (X.1.2 11 12)).toInt := congrArg Int32.toInt (up_nI U256 (ne_k g0 gca (by decide)))
            have m258 : (sI H256 h0 (X.1.2 11 14)).toInt = (sI H248 h0 (X.1.2 11 14)).toInt := congrArg Int32.toInt (up_nI U256 (ne_k g0 gca (by decide)))
            have m259 := congrArg tk m258
            have m260 : (sI H256 h0 (X.1.2 11 16)).toInt = (sI H248 h0 (X.1.2 11 16)).toInt := congrArg Int32.toInt (up_nI U256 (ne_k g0 gca (by decide)))
            have e261 := up_I U256
            have hz8 := tk_nn (sI H256 h0 (X.1.2 11 14)).toInt
            exact ret H256 locs256 _ _ dX12_readCell_186 ⟨hKp256, ⟨by omega, by omega, by omega, by omega⟩⟩ hC256 hS256
          · have hz8 := tk_nn (sI H241 h0 (X.1.2 11 14)).toInt
            exact ret H241 locs241 _ _ dX12_readCell_137 ⟨hKp241, ⟨by omega, by omega, by omega, by omega⟩⟩ hC241 hS241
        · refine lv_goto (tgt := 108) hx hb dX12_readCell_89 rfl ?_
          refine q_goV (q_runV (As := [.int 1]) (rest := []) E hC28 hS238 (m_X12_must l X Γ H28 hC28 h0 g0 1 (a1 := 1) (by decide) ca gca uc (by omega) (by omega)) cw_X12_must cl_RX12_244 g0 ⟨rfl, rfl⟩ rfl hl.1 rfl (Nat.zero_le _) (by decide) dX12_readCell_108) hS238 (fun H262 locs262 hr262 hC262 hS262 => ?_)
          obtain ⟨hp262, hr262⟩ := hr262
          have hKp262 := hKp28.tr (hp262.mono rfl)
          obtain ⟨f262_0, f262_1, f262_2, f262_3, f262_4⟩ := hr262
          refine lv_aload_n hx hb dX12_readCell_111 rfl (lv_at hl 4 rfl) ?_
          refine lv_iconst (v := 0) hx hb dX12_readCell_112 rfl ?_
          refine lv_iload_n hx hb dX12_readCell_113 rfl (lv_at hl 5 rfl) ?_
          refine lv_iconst (v := 2) hx hb dX12_readCell_114 rfl ?_
          refine q_icmp_ne hx hb (a := a1) (b := 2) e1 (by decide) (tgt := 123) dX12_readCell_115 rfl (fun c263 => ?_) (fun c263 => absurd c263 (by omega))
          refine lv_bipush (v := 99) hx hb dX12_readCell_123 rfl ?_
          refine q_goI (q_runV (As := [.int 0, .int 99]) (rest := []) E hC262 hS262 (m_X12_count l X Γ H262 hC262 h0 g0 0 (a1 := 0) (by decide) 99 (a2 := 99) (by decide) ca gca uc (by omega) (by omega) (by omega) (by omega)) cw_X12_count cl_RX12_248 g0 ⟨rfl, rfl⟩ rfl hl.1 rfl (Nat.zero_le _) (by decide) dX12_readCell_125) hS262 (fun v264 H264 locs264 hr264 hC264 hS264 => ?_)
          obtain ⟨hp264, hr264⟩ := hr264
          have hKp264 := hKp262.tr (hp264.mono rfl)
          obtain ⟨f264_0, f264_1, f264_2, f264_3, f264_4, f264_5, f264_6, f264_7⟩ := hr264
          refine lv_istore hx hb dX12_readCell_128 hl (by decide) rfl (fun ls hl => ?_)
          replace hl : lv_has ls 7 [(6, .int v264), (5, .int v30), (4, .int v28), (3, .int v25), (2, .int v24), (0, .ref h0), (1, .int p1)] := hl
          refine lv_aload_n hx hb dX12_readCell_130 rfl (lv_at hl 5 rfl) ?_
          refine q_getI E hC264 g0 fa_RX12_218 dX12_readCell_131 (fun v265 ev265 lv265 uv265 => ?_)
          have m266 : (sI H264 h0 (X.1.2 11 12)).toInt = v265.toInt := (congrArg Int32.toInt ev265).trans rfl
          refine q_if_le hx hb (a := v265.toInt) rfl (tgt := 138) dX12_readCell_134 rfl (fun c267 => ?_) (fun c267 => ?_)
          · refine lv_aload_n hx hb dX12_readCell_138 rfl (lv_at hl 5 rfl) ?_
            refine q_getR E hC264 g0 fa_RX12_41 dX12_readCell_139 (fun q268 eq268 gq268 => ?_)
            refine lv_bipush (v := 36) hx hb dX12_readCell_142 rfl ?_
            refine lv_iload_n hx hb dX12_readCell_144 rfl (lv_at hl 6 rfl) ?_
            refine lv_imul hx hb dX12_readCell_145 (lv_topi (fun v269 ev269 => ?_))
            have ev269i : v269.toInt = (36 * a1) := i_mul ev269 (by decide) e1 (by omega) (by omega)
            refine lv_iload hx hb dX12_readCell_146 (lv_at hl 1 rfl) ?_
            refine lv_iadd hx hb dX12_readCell_148 (lv_topi (fun v270 ev270 => ?_))
            have ev270i : v270.toInt = ((36 * a1) + ((6 * v28.toInt) + v24.toInt)) := i_add ev270 ev269i ev30i (by omega) (by omega)
            refine lv_iconst (v := 1) hx hb dX12_readCell_149 rfl ?_
            refine q_iast E hC264 hS264 gq268 (by decide) rfl rfl (i_in (a := ((36 * a1) + ((6 * v28.toInt) + v24.toInt))) ev270i (by omega) (by omega)) tv_F dX12_readCell_150 (fun H271 locs271 hC271 hS271 U271 => ?_)
            have hKp271 := Kp.upA gq268 rfl (by decide) rfl U271 hKp264
            have m272 : (sI H271 h0 (X.1.2 11 12)).toInt = (sI H264 h0 (X.1.2 11 12)).toInt := congrArg Int32.toInt (up_nI U271 (ne_k g0 gq268 (by decide)))
            have m273 : (sI H271 h0 (X.1.2 11 14)).toInt = (sI H264 h0 (X.1.2 11 14)).toInt := congrArg Int32.toInt (up_nI U271 (ne_k g0 gq268 (by decide)))
            have m274 := congrArg tk m273
            have m275 : (sI H271 h0 (X.1.2 11 16)).toInt = (sI H264 h0 (X.1.2 11 16)).toInt := congrArg Int32.toInt (up_nI U271 (ne_k g0 gq268 (by decide)))
            refine lv_aload_n hx hb dX12_readCell_151 rfl (lv_at hl 5 rfl) ?_
            refine q_getC E hC271 g0 fa_RX12_35 uc dX12_readCell_152 ?_
            refine lv_sipush (v := 2080) hx hb dX12_readCell_155 rfl ?_
            refine lv_iload_n hx hb dX12_readCell_158 rfl (lv_at hl 6 rfl) ?_
            refine q_if_ne hx hb (a := a1) e1 (tgt := 167) dX12_readCell_159 rfl (fun c276 => absurd c276 (by omega)) (fun c276 => ?_)
            refine lv_bipush (v := 26) hx hb dX12_readCell_162 rfl ?_
            refine lv_goto (tgt := 179) hx hb dX12_readCell_164 rfl ?_
            refine lv_iadd hx hb dX12_readCell_179 (lv_topi (fun v277 ev277 => ?_))
            have ev277i : v277.toInt = (2080 + 26) := i_add ev277 (by decide) (by decide) (by omega) (by omega)
            refine lv_iload hx hb dX12_readCell_180 (lv_at hl 1 rfl) ?_
            refine lv_iadd hx hb dX12_readCell_182 (lv_topi (fun v278 ev278 => ?_))
            have ev278i : v278.toInt = ((2080 + 26) + ((6 * v28.toInt) + v24.toInt)) := i_add ev278 ev277i ev30i (by omega) (by omega)
            refine lv_iload hx hb dX12_readCell_183 (lv_at hl 0 rfl) ?_
            refine q_cast E hC271 hS271 gca (a := ((2080 + 26) + ((6 * v28.toInt) + v24.toInt))) ev278i (by omega) (by omega) (cs_n26 (a := ((2080 + 26) + ((6 * v28.toInt) + v24.toInt))) (b := v264.toInt) (by omega) (by omega) rfl (by omega) (by omega)) dX12_readCell_185 (fun H279 locs279 hC279 hS279 U279 => ?_)
            have hKp279 := Kp.upD gca rfl rfl (fun _ => ⟨fun _ => nd4 (by omega) (by omega), fun _ => by unfold dpu; omega, fun _ => by unfold dpn; omega⟩) U279 hKp271
            have m280 : (sI H279 h0 (X.1.2 11 12)).toInt = (sI H271 h0 (X.1.2 11 12)).toInt := congrArg Int32.toInt (up_nI U279 (ne_k g0 gca (by decide)))
            have m281 : (sI H279 h0 (X.1.2 11 14)).toInt = (sI H271 h0 (X.1.2 11 14)).toInt := congrArg Int32.toInt (up_nI U279 (ne_k g0 gca (by decide)))
            have m282 := congrArg tk m281
            have m283 : (sI H279 h0 (X.1.2 11 16)).toInt = (sI H271 h0 (X.1.2 11 16)).toInt := congrArg Int32.toInt (up_nI U279 (ne_k g0 gca (by decide)))
            have e284 := up_I U279
            have hz8 := tk_nn (sI H279 h0 (X.1.2 11 14)).toInt
            exact ret H279 locs279 _ _ dX12_readCell_186 ⟨hKp279, ⟨by omega, by omega, by omega, by omega⟩⟩ hC279 hS279
          · have hz8 := tk_nn (sI H264 h0 (X.1.2 11 14)).toInt
            exact ret H264 locs264 _ _ dX12_readCell_137 ⟨hKp264, ⟨by omega, by omega, by omega, by omega⟩⟩ hC264 hS264
    · refine lv_aload_n hx hb dX12_readCell_74 rfl (lv_at hl 4 rfl) ?_
      refine lv_iconst (v := 5) hx hb dX12_readCell_75 rfl ?_
      refine lv_iload_n hx hb dX12_readCell_76 rfl (lv_at hl 2 rfl) ?_
      refine q_goV (q_runV (As := [.int 5, .int v25]) (rest := []) E hC28 hS28 (m_X12_fail l X Γ H28 hC28 h0 g0 5 (a1 := 5) (by decide) v25 (a2 := v25.toInt) rfl ca gca uc (by omega) (by omega)) cw_X12_fail cl_RX12_224 g0 ⟨rfl, rfl⟩ rfl hl.1 rfl (Nat.zero_le _) (by decide) dX12_readCell_77) hS28 (fun H285 locs285 hr285 hC285 hS285 => ?_)
      obtain ⟨hp285, hr285⟩ := hr285
      have hKp285 := hKp28.tr (hp285.mono rfl)
      obtain ⟨f285_0, f285_1, f285_2, f285_3⟩ := hr285
      refine lv_aload_n hx hb dX12_readCell_80 rfl (lv_at hl 4 rfl) ?_
      refine lv_iload_n hx hb dX12_readCell_81 rfl (lv_at hl 5 rfl) ?_
      refine q_if_ne hx hb (a := a1) e1 (tgt := 92) dX12_readCell_82 rfl (fun c286 => ?_) (fun c286 => ?_)
      · refine lv_iload_n hx hb dX12_readCell_92 rfl (lv_at hl 5 rfl) ?_
        refine lv_iconst (v := 1) hx hb dX12_readCell_93 rfl ?_
        refine q_icmp_ne hx hb (a := a1) (b := 1) e1 (by decide) (tgt := 104) dX12_readCell_94 rfl (fun c287 => ?_) (fun c287 => ?_)
        · refine lv_aload_n hx hb dX12_readCell_104 rfl (lv_at hl 4 rfl) ?_
          refine q_goIp (q_runV (As := []) (rest := [.ref h0]) E hC285 hS285 (m_X12_isBy l X Γ H285 hC285 h0 g0 ca gca uc) cw_X12_isBy cl_RX12_190 g0 ⟨rfl, rfl⟩ rfl hl.1 rfl (show _ ≤ _ from by simp [Value.category]) (by decide) dX12_readCell_105) hS285 (fun v288 locs288 hr288 hS288 => ?_)
          have b288 : v288.toInt = 0 ∨ v288.toInt = 1 := hr288.imp (fun h => by rw [h]; decide) (fun h => by rw [h]; decide)
          refine q_goV (q_runV (As := [.int v288]) (rest := []) E hC285 hS288 (m_X12_must l X Γ H285 hC285 h0 g0 v288 (a1 := v288.toInt) rfl ca gca uc (by omega) (by omega)) cw_X12_must cl_RX12_244 g0 ⟨rfl, rfl⟩ rfl hl.1 rfl (Nat.zero_le _) (by decide) dX12_readCell_108) hS288 (fun H289 locs289 hr289 hC289 hS289 => ?_)
          obtain ⟨hp289, hr289⟩ := hr289
          have hKp289 := hKp285.tr (hp289.mono rfl)
          obtain ⟨f289_0, f289_1, f289_2, f289_3, f289_4⟩ := hr289
          refine lv_aload_n hx hb dX12_readCell_111 rfl (lv_at hl 4 rfl) ?_
          refine lv_iconst (v := 0) hx hb dX12_readCell_112 rfl ?_
          refine lv_iload_n hx hb dX12_readCell_113 rfl (lv_at hl 5 rfl) ?_
          refine lv_iconst (v := 2) hx hb dX12_readCell_114 rfl ?_
          refine q_icmp_ne hx hb (a := a1) (b := 2) e1 (by decide) (tgt := 123) dX12_readCell_115 rfl (fun c290 => absurd c290 (by omega)) (fun c290 => ?_)
          refine lv_bipush (v := 9) hx hb dX12_readCell_118 rfl ?_
          refine lv_goto (tgt := 125) hx hb dX12_readCell_120 rfl ?_
          refine q_goI (q_runV (As := [.int 0, .int 9]) (rest := []) E hC289 hS289 (m_X12_count l X Γ H289 hC289 h0 g0 0 (a1 := 0) (by decide) 9 (a2 := 9) (by decide) ca gca uc (by omega) (by omega) (by omega) (by omega)) cw_X12_count cl_RX12_248 g0 ⟨rfl, rfl⟩ rfl hl.1 rfl (Nat.zero_le _) (by decide) dX12_readCell_125) hS289 (fun v291 H291 locs291 hr291 hC291 hS291 => ?_)
          obtain ⟨hp291, hr291⟩ := hr291
          have hKp291 := hKp289.tr (hp291.mono rfl)
          obtain ⟨f291_0, f291_1, f291_2, f291_3, f291_4, f291_5, f291_6, f291_7⟩ := hr291
          refine lv_istore hx hb dX12_readCell_128 hl (by decide) rfl (fun ls hl => ?_)
          replace hl : lv_has ls 7 [(6, .int v291), (5, .int v30), (4, .int v28), (3, .int v25), (2, .int v24), (0, .ref h0), (1, .int p1)] := hl
          refine lv_aload_n hx hb dX12_readCell_130 rfl (lv_at hl 5 rfl) ?_
          refine q_getI E hC291 g0 fa_RX12_218 dX12_readCell_131 (fun v292 ev292 lv292 uv292 => ?_)
          have m293 : (sI H291 h0 (X.1.2 11 12)).toInt = v292.toInt := (congrArg Int32.toInt ev292).trans rfl
          refine q_if_le hx hb (a := v292.toInt) rfl (tgt := 138) dX12_readCell_134 rfl (fun c294 => ?_) (fun c294 => ?_)
          · refine lv_aload_n hx hb dX12_readCell_138 rfl (lv_at hl 5 rfl) ?_
            refine q_getR E hC291 g0 fa_RX12_41 dX12_readCell_139 (fun q295 eq295 gq295 => ?_)
            refine lv_bipush (v := 36) hx hb dX12_readCell_142 rfl ?_
            refine lv_iload_n hx hb dX12_readCell_144 rfl (lv_at hl 6 rfl) ?_
            refine lv_imul hx hb dX12_readCell_145 (lv_topi (fun v296 ev296 => ?_))
            have ev296i : v296.toInt = (36 * a1) := i_mul ev296 (by decide) e1 (by omega) (by omega)
            refine lv_iload hx hb dX12_readCell_146 (lv_at hl 1 rfl) ?_
            refine lv_iadd hx hb dX12_readCell_148 (lv_topi (fun v297 ev297 => ?_))
            have ev297i : v297.toInt = ((36 * a1) + ((6 * v28.toInt) + v24.toInt)) := i_add ev297 ev296i ev30i (by omega) (by omega)
            refine lv_iconst (v := 1) hx hb dX12_readCell_149 rfl ?_
            refine q_iast E hC291 hS291 gq295 (by decide) rfl rfl (i_in (a := ((36 * a1) + ((6 * v28.toInt) + v24.toInt))) ev297i (by omega) (by omega)) tv_F dX12_readCell_150 (fun H298 locs298 hC298 hS298 U298 => ?_)
            have hKp298 := Kp.upA gq295 rfl (by decide) rfl U298 hKp291
            have m299 : (sI H298 h0 (X.1.2 11 12)).toInt = (sI H291 h0 (X.1.2 11 12)).toInt := congrArg Int32.toInt (up_nI U298 (ne_k g0 gq295 (by decide)))
            have m300 : (sI H298 h0 (X.1.2 11 14)).toInt = (sI H291 h0 (X.1.2 11 14)).toInt := congrArg Int32.toInt (up_nI U298 (ne_k g0 gq295 (by decide)))
            have m301 := congrArg tk m300
            have m302 : (sI H298 h0 (X.1.2 11 16)).toInt = (sI H291 h0 (X.1.2 11 16)).toInt := congrArg Int32.toInt (up_nI U298 (ne_k g0 gq295 (by decide)))
            refine lv_aload_n hx hb dX12_readCell_151 rfl (lv_at hl 5 rfl) ?_
            refine q_getC E hC298 g0 fa_RX12_35 uc dX12_readCell_152 ?_
            refine lv_sipush (v := 2080) hx hb dX12_readCell_155 rfl ?_
            refine lv_iload_n hx hb dX12_readCell_158 rfl (lv_at hl 6 rfl) ?_
            refine q_if_ne hx hb (a := a1) e1 (tgt := 167) dX12_readCell_159 rfl (fun c303 => ?_) (fun c303 => absurd c303 (by omega))
            refine lv_iload_n hx hb dX12_readCell_167 rfl (lv_at hl 6 rfl) ?_
            refine lv_iconst (v := 1) hx hb dX12_readCell_168 rfl ?_
            refine q_icmp_ne hx hb (a := a1) (b := 1) e1 (by decide) (tgt := 177) dX12_readCell_169 rfl (fun c304 => ?_) (fun c304 => absurd c304 (by omega))
            refine lv_bipush (v := 98) hx hb dX12_readCell_177 rfl ?_
            refine lv_iadd hx hb dX12_readCell_179 (lv_topi (fun v305 ev305 => ?_))
            have ev305i : v305.toInt = (2080 + 98) := i_add ev305 (by decide) (by decide) (by omega) (by omega)
            refine lv_iload hx hb dX12_readCell_180 (lv_at hl 1 rfl) ?_
            refine lv_iadd hx hb dX12_readCell_182 (lv_topi (fun v306 ev306 => ?_))
            have ev306i : v306.toInt = ((2080 + 98) + ((6 * v28.toInt) + v24.toInt)) := i_add ev306 ev305i ev30i (by omega) (by omega)
            refine lv_iload hx hb dX12_readCell_183 (lv_at hl 0 rfl) ?_
            refine q_cast E hC298 hS298 gca (a := ((2080 + 98) + ((6 * v28.toInt) + v24.toInt))) ev306i (by omega) (by omega) (cs_n98 (a := ((2080 + 98) + ((6 * v28.toInt) + v24.toInt))) (b := v291.toInt) (by omega) (by omega) rfl (by omega) (by omega)) dX12_readCell_185 (fun H307 locs307 hC307 hS307 U307 => ?_)
            have hKp307 := Kp.upD gca rfl rfl (fun _ => ⟨fun _ => nd4 (by omega) (by omega), fun _ => by unfold dpu; omega, fun _ => by unfold dpn; omega⟩) U307 hKp298
            have m308 : (sI H307 h0 (X.1.2 11 12)).toInt = (sI H298 h0 (X.1.2 11 12)).toInt := congrArg Int32.toInt (up_nI U307 (ne_k g0 gca (by decide)))
            have m309 : (sI H307 h0 (X.1.2 11 14)).toInt = (sI H298 h0 (X.1.2 11 14)).toInt := congrArg Int32.toInt (up_nI U307 (ne_k g0 gca (by decide)))
            have m310 := congrArg tk m309
            have m311 : (sI H307 h0 (X.1.2 11 16)).toInt = (sI H298 h0 (X.1.2 11 16)).toInt := congrArg Int32.toInt (up_nI U307 (ne_k g0 gca (by decide)))
            have e312 := up_I U307
            have hz8 := tk_nn (sI H307 h0 (X.1.2 11 14)).toInt
            exact ret H307 locs307 _ _ dX12_readCell_186 ⟨hKp307, ⟨by omega, by omega, by omega, by omega⟩⟩ hC307 hS307
          · have hz8 := tk_nn (sI H291 h0 (X.1.2 11 14)).toInt
            exact ret H291 locs291 _ _ dX12_readCell_137 ⟨hKp291, ⟨by omega, by omega, by omega, by omega⟩⟩ hC291 hS291
        · refine lv_aload_n hx hb dX12_readCell_97 rfl (lv_at hl 4 rfl) ?_
          refine q_goIp (q_runV (As := []) (rest := [.ref h0]) E hC285 hS285 (m_X12_isTall l X Γ H285 hC285 h0 g0 ca gca uc) cw_X12_isTall cl_RX12_184 g0 ⟨rfl, rfl⟩ rfl hl.1 rfl (show _ ≤ _ from by simp [Value.category]) (by decide) dX12_readCell_98) hS285 (fun v313 locs313 hr313 hS313 => ?_)
          rcases hr313 with rfl | rfl
          · refine lv_goto (tgt := 108) hx hb dX12_readCell_101 rfl ?_
            refine q_goV (q_runV (As := [.int 0]) (rest := []) E hC285 hS313 (m_X12_must l X Γ H285 hC285 h0 g0 0 (a1 := 0) (by decide) ca gca uc (by omega) (by omega)) cw_X12_must cl_RX12_244 g0 ⟨rfl, rfl⟩ rfl hl.1 rfl (Nat.zero_le _) (by decide) dX12_readCell_108) hS313 (fun H314 locs314 hr314 hC314 hS314 => ?_)
            obtain ⟨hp314, hr314⟩ := hr314
            have hKp314 := hKp285.tr (hp314.mono rfl)
            obtain ⟨f314_0, f314_1, f314_2, f314_3, f314_4⟩ := hr314
            refine lv_aload_n hx hb dX12_readCell_111 rfl (lv_at hl 4 rfl) ?_
            refine lv_iconst (v := 0) hx hb dX12_readCell_112 rfl ?_
            refine lv_iload_n hx hb dX12_readCell_113 rfl (lv_at hl 5 rfl) ?_
            refine lv_iconst (v := 2) hx hb dX12_readCell_114 rfl ?_
            refine q_icmp_ne hx hb (a := a1) (b := 2) e1 (by decide) (tgt := 123) dX12_readCell_115 rfl (fun c315 => ?_) (fun c315 => absurd c315 (by omega))
            refine lv_bipush (v := 99) hx hb dX12_readCell_123 rfl ?_
            refine q_goI (q_runV (As := [.int 0, .int 99]) (rest := []) E hC314 hS314 (m_X12_count l X Γ H314 hC314 h0 g0 0 (a1 := 0) (by decide) 99 (a2 := 99) (by decide) ca gca uc (by omega) (by omega) (by omega) (by omega)) cw_X12_count cl_RX12_248 g0 ⟨rfl, rfl⟩ rfl hl.1 rfl (Nat.zero_le _) (by decide) dX12_readCell_125) hS314 (fun v316 H316 locs316 hr316 hC316 hS316 => ?_)
            obtain ⟨hp316, hr316⟩ := hr316
            have hKp316 := hKp314.tr (hp316.mono rfl)
            obtain ⟨f316_0, f316_1, f316_2, f316_3, f316_4, f316_5, f316_6, f316_7⟩ := hr316
            refine lv_istore hx hb dX12_readCell_128 hl (by decide) rfl (fun ls hl => ?_)
            replace hl : lv_has ls 7 [(6, .int v316), (5, .int v30), (4, .int v28), (3, .int v25), (2, .int v24), (0, .ref h0), (1, .int p1)] := hl
            refine lv_aload_n hx hb dX12_readCell_130 rfl (lv_at hl 5 rfl) ?_
            refine q_getI E hC316 g0 fa_RX12_218 dX12_readCell_131 (fun v317 ev317 lv317 uv317 => ?_)
            have m318 : (sI H316 h0 (X.1.2 11 12)).toInt = v317.toInt := (congrArg Int32.toInt ev317).trans rfl
            refine q_if_le hx hb (a := v317.toInt) rfl (tgt := 138) dX12_readCell_134 rfl (fun c319 => ?_) (fun c319 => ?_)
            · refine lv_aload_n hx hb dX12_readCell_138 rfl (lv_at hl 5 rfl) ?_
              refine q_getR E hC316 g0 fa_RX12_41 dX12_readCell_139 (fun q320 eq320 gq320 => ?_)
              refine lv_bipush (v := 36) hx hb dX12_readCell_142 rfl ?_
              refine lv_iload_n hx hb dX12_readCell_144 rfl (lv_at hl 6 rfl) ?_
              refine lv_imul hx hb dX12_readCell_145 (lv_topi (fun v321 ev321 => ?_))
              have ev321i : v321.toInt = (36 * a1) := i_mul ev321 (by decide) e1 (by omega) (by omega)
              refine lv_iload hx hb dX12_readCell_146 (lv_at hl 1 rfl) ?_
              refine lv_iadd hx hb dX12_readCell_148 (lv_topi (fun v322 ev322 => ?_))
              have ev322i : v322.toInt = ((36 * a1) + ((6 * v28.toInt) + v24.toInt)) := i_add ev322 ev321i ev30i (by omega) (by omega)
              refine lv_iconst (v := 1) hx hb dX12_readCell_149 rfl ?_
              refine q_iast E hC316 hS316 gq320 (by decide) rfl rfl (i_in (a := ((36 * a1) + ((6 * v28.toInt) + v24.toInt))) ev322i (by omega) (by omega)) tv_F dX12_readCell_150 (fun H323 locs323 hC323 hS323 U323 => ?_)
              have hKp323 := Kp.upA gq320 rfl (by decide) rfl U323 hKp316
              have m324 : (sI H323 h0 (X.1.2 11 12)).toInt = (sI H316 h0 (X.1.2 11 12)).toInt := congrArg Int32.toInt (up_nI U323 (ne_k g0 gq320 (by decide)))
              have m325 : (sI H323 h0 (X.1.2 11 14)).toInt = (sI H316 h0 (X.1.2 11 14)).toInt := congrArg Int32.toInt (up_nI U323 (ne_k g0 gq320 (by decide)))
              have m326 := congrArg tk m325
              have m327 : (sI H323 h0 (X.1.2 11 16)).toInt = (sI H316 h0 (X.1.2 11 16)).toInt := congrArg Int32.toInt (up_nI U323 (ne_k g0 gq320 (by decide)))
              refine lv_aload_n hx hb dX12_readCell_151 rfl (lv_at hl 5 rfl) ?_
              refine q_getC E hC323 g0 fa_RX12_35 uc dX12_readCell_152 ?_
              refine lv_sipush (v := 2080) hx hb dX12_readCell_155 rfl ?_
              refine lv_iload_n hx hb dX12_readCell_158 rfl (lv_at hl 6 rfl) ?_
              refine q_if_ne hx hb (a := a1) e1 (tgt := 167) dX12_readCell_159 rfl (fun c328 => ?_) (fun c328 => absurd c328 (by omega))
              refine lv_iload_n hx hb dX12_readCell_167 rfl (lv_at hl 6 rfl) ?_
              refine lv_iconst (v := 1) hx hb dX12_readCell_168 rfl ?_
              refine q_icmp_ne hx hb (a := a1) (b := 1) e1 (by decide) (tgt := 177) dX12_readCell_169 rfl (fun c329 => absurd c329 (by omega)) (fun c329 => ?_)
              refine lv_bipush (v := 62) hx hb dX12_readCell_172 rfl ?_
              refine lv_goto (tgt := 179) hx hb dX12_readCell_174 rfl ?_
              refine lv_iadd hx hb dX12_readCell_179 (lv_topi (fun v330 ev330 => ?_))
              have ev330i : v330.toInt = (2080 + 62) := i_add ev330 (by decide) (by decide) (by omega) (by omega)
              refine lv_iload hx hb dX12_readCell_180 (lv_at hl 1 rfl) ?_
              refine lv_iadd hx hb dX12_readCell_182 (lv_topi (fun v331 ev331 => ?_))
              have ev331i : v331.toInt = ((2080 + 62) + ((6 * v28.toInt) + v24.toInt)) := i_add ev331 ev330i ev30i (by omega) (by omega)
              refine lv_iload hx hb dX12_readCell_183 (lv_at hl 0 rfl) ?_
              refine q_cast E hC323 hS323 gca (a := ((2080 + 62) + ((6 * v28.toInt) + v24.toInt))) ev331i (by omega) (by omega) (cs_n26 (a := ((2080 + 62) + ((6 * v28.toInt) + v24.toInt))) (b := v316.toInt) (by omega) (by omega) rfl (by omega) (by omega)) dX12_readCell_185 (fun H332 locs332 hC332 hS332 U332 => ?_)
              have hKp332 := Kp.upD gca rfl rfl (fun _ => ⟨fun _ => nd4 (by omega) (by omega), fun _ => by unfold dpu; omega, fun _ => by unfold dpn; omega⟩) U332 hKp323
              have m333 : (sI H332 h0 (X.1.2 11 12)).toInt = (sI H323 h0 (X.1.2 11 12)).toInt := congrArg Int32.toInt (up_nI U332 (ne_k g0 gca (by decide)))
              have m334 : (sI H332 h0 (X.1.2 11 14)).toInt = (sI H323 h0 (X.1.2 11 14)).toInt := congrArg Int32.toInt (up_nI U332 (ne_k g0 gca (by decide)))
              have m335 := congrArg tk m334
              have m336 : (sI H332 h0 (X.1.2 11 16)).toInt = (sI H323 h0 (X.1.2 11 16)).toInt := congrArg Int32.toInt (up_nI U332 (ne_k g0 gca (by decide)))
              have e337 := up_I U332
              have hz8 := tk_nn (sI H332 h0 (X.1.2 11 14)).toInt
              exact ret H332 locs332 _ _ dX12_readCell_186 ⟨hKp332, ⟨by omega, by omega, by omega, by omega⟩⟩ hC332 hS332
            · have hz8 := tk_nn (sI H316 h0 (X.1.2 11 14)).toInt
              exact ret H316 locs316 _ _ dX12_readCell_137 ⟨hKp316, ⟨by omega, by omega, by omega, by omega⟩⟩ hC316 hS316
          · refine lv_goto (tgt := 108) hx hb dX12_readCell_101 rfl ?_
            refine q_goV (q_runV (As := [.int 1]) (rest := []) E hC285 hS313 (m_X12_must l X Γ H285 hC285 h0 g0 1 (a1 := 1) (by decide) ca gca uc (by omega) (by omega)) cw_X12_must cl_RX12_244 g0 ⟨rfl, rfl⟩ rfl hl.1 rfl (Nat.zero_le _) (by decide) dX12_readCell_108) hS313 (fun H338 locs338 hr338 hC338 hS338 => ?_)
            obtain ⟨hp338, hr338⟩ := hr338
            have hKp338 := hKp285.tr (hp338.mono rfl)
            obtain ⟨f338_0, f338_1, f338_2, f338_3, f338_4⟩ := hr338
            refine lv_aload_n hx hb dX12_readCell_111 rfl (lv_at hl 4 rfl) ?_
            refine lv_iconst (v := 0) hx hb dX12_readCell_112 rfl ?_
            refine lv_iload_n hx hb dX12_readCell_113 rfl (lv_at hl 5 rfl) ?_
            refine lv_iconst (v := 2) hx hb dX12_readCell_114 rfl ?_
            refine q_icmp_ne hx hb (a := a1) (b := 2) e1 (by decide) (tgt := 123) dX12_readCell_115 rfl (fun c339 => ?_) (fun c339 => absurd c339 (by omega))
            refine lv_bipush (v := 99) hx hb dX12_readCell_123 rfl ?_
            refine q_goI (q_runV (As := [.int 0, .int 99]) (rest := []) E hC338 hS338 (m_X12_count l X Γ H338 hC338 h0 g0 0 (a1 := 0) (by decide) 99 (a2 := 99) (by decide) ca gca uc (by omega) (by omega) (by omega) (by omega)) cw_X12_count cl_RX12_248 g0 ⟨rfl, rfl⟩ rfl hl.1 rfl (Nat.zero_le _) (by decide) dX12_readCell_125) hS338 (fun v340 H340 locs340 hr340 hC340 hS340 => ?_)
            obtain ⟨hp340, hr340⟩ := hr340
            have hKp340 := hKp338.tr (hp340.mono rfl)
            obtain ⟨f340_0, f340_1, f340_2, f340_3, f340_4, f340_5, f340_6, f340_7⟩ := hr340
            refine lv_istore hx hb dX12_readCell_128 hl (by decide) rfl (fun ls hl => ?_)
            replace hl : lv_has ls 7 [(6, .int v340), (5, .int v30), (4, .int v28), (3, .int v25), (2, .int v24), (0, .ref h0), (1, .int p1)] := hl
            refine lv_aload_n hx hb dX12_readCell_130 rfl (lv_at hl 5 rfl) ?_
            refine q_getI E hC340 g0 fa_RX12_218 dX12_readCell_131 (fun v341 ev341 lv341 uv341 => ?_)
            have m342 : (sI H340 h0 (X.1.2 11 12)).toInt = v341.toInt := (congrArg Int32.toInt ev341).trans rfl
            refine q_if_le hx hb (a := v341.toInt) rfl (tgt := 138) dX12_readCell_134 rfl (fun c343 => ?_) (fun c343 => ?_)
            · refine lv_aload_n hx hb dX12_readCell_138 rfl (lv_at hl 5 rfl) ?_
              refine q_getR E hC340 g0 fa_RX12_41 dX12_readCell_139 (fun q344 eq344 gq344 => ?_)
              refine lv_bipush (v := 36) hx hb dX12_readCell_142 rfl ?_
              refine lv_iload_n hx hb dX12_readCell_144 rfl (lv_at hl 6 rfl) ?_
              refine lv_imul hx hb dX12_readCell_145 (lv_topi (fun v345 ev345 => ?_))
              have ev345i : v345.toInt = (36 * a1) := i_mul ev345 (by decide) e1 (by omega) (by omega)
              refine lv_iload hx hb dX12_readCell_146 (lv_at hl 1 rfl) ?_
              refine lv_iadd hx hb dX12_readCell_148 (lv_topi (fun v346 ev346 => ?_))
              have ev346i : v346.toInt = ((36 * a1) + ((6 * v28.toInt) + v24.toInt)) := i_add ev346 ev345i ev30i (by omega) (by omega)
              refine lv_iconst (v := 1) hx hb dX12_readCell_149 rfl ?_
              refine q_iast E hC340 hS340 gq344 (by decide) rfl rfl (i_in (a := ((36 * a1) + ((6 * v28.toInt) + v24.toInt))) ev346i (by omega) (by omega)) tv_F dX12_readCell_150 (fun H347 locs347 hC347 hS347 U347 => ?_)
              have hKp347 := Kp.upA gq344 rfl (by decide) rfl U347 hKp340
              have m348 : (sI H347 h0 (X.1.2 11 12)).toInt = (sI H340 h0 (X.1.2 11 12)).toInt := congrArg Int32.toInt (up_nI U347 (ne_k g0 gq344 (by decide)))
              have m349 : (sI H347 h0 (X.1.2 11 14)).toInt = (sI H340 h0 (X.1.2 11 14)).toInt := congrArg Int32.toInt (up_nI U347 (ne_k g0 gq344 (by decide)))
              have m350 := congrArg tk m349
              have m351 : (sI H347 h0 (X.1.2 11 16)).toInt = (sI H340 h0 (X.1.2 11 16)).toInt := congrArg Int32.toInt (up_nI U347 (ne_k g0 gq344 (by decide)))
              refine lv_aload_n hx hb dX12_readCell_151 rfl (lv_at hl 5 rfl) ?_
              refine q_getC E hC347 g0 fa_RX12_35 uc dX12_readCell_152 ?_
              refine lv_sipush (v := 2080) hx hb dX12_readCell_155 rfl ?_
              refine lv_iload_n hx hb dX12_readCell_158 rfl (lv_at hl 6 rfl) ?_
              refine q_if_ne hx hb (a := a1) e1 (tgt := 167) dX12_readCell_159 rfl (fun c352 => ?_) (fun c352 => absurd c352 (by omega))
              refine lv_iload_n hx hb dX12_readCell_167 rfl (lv_at hl 6 rfl) ?_
              refine lv_iconst (v := 1) hx hb dX12_readCell_168 rfl ?_
              refine q_icmp_ne hx hb (a := a1) (b := 1) e1 (by decide) (tgt := 177) dX12_readCell_169 rfl (fun c353 => absurd c353 (by omega)) (fun c353 => ?_)
              refine lv_bipush (v := 62) hx hb dX12_readCell_172 rfl ?_
              refine lv_goto (tgt := 179) hx hb dX12_readCell_174 rfl ?_
              refine lv_iadd hx hb dX12_readCell_179 (lv_topi (fun v354 ev354 => ?_))
              have ev354i : v354.toInt = (2080 + 62) := i_add ev354 (by decide) (by decide) (by omega) (by omega)
              refine lv_iload hx hb dX12_readCell_180 (lv_at hl 1 rfl) ?_
              refine lv_iadd hx hb dX12_readCell_182 (lv_topi (fun v355 ev355 => ?_))
              have ev355i : v355.toInt = ((2080 + 62) + ((6 * v28.toInt) + v24.toInt)) := i_add ev355 ev354i ev30i (by omega) (by omega)
              refine lv_iload hx hb dX12_readCell_183 (lv_at hl 0 rfl) ?_
              refine q_cast E hC347 hS347 gca (a := ((2080 + 62) + ((6 * v28.toInt) + v24.toInt))) ev355i (by omega) (by omega) (cs_n26 (a := ((2080 + 62) + ((6 * v28.toInt) + v24.toInt))) (b := v340.toInt) (by omega) (by omega) rfl (by omega) (by omega)) dX12_readCell_185 (fun H356 locs356 hC356 hS356 U356 => ?_)
              have hKp356 := Kp.upD gca rfl rfl (fun _ => ⟨fun _ => nd4 (by omega) (by omega), fun _ => by unfold dpu; omega, fun _ => by unfold dpn; omega⟩) U356 hKp347
              have m357 : (sI H356 h0 (X.1.2 11 12)).toInt = (sI H347 h0 (X.1.2 11 12)).toInt := congrArg Int32.toInt (up_nI U356 (ne_k g0 gca (by decide)))
              have m358 : (sI H356 h0 (X.1.2 11 14)).toInt = (sI H347 h0 (X.1.2 11 14)).toInt := congrArg Int32.toInt (up_nI U356 (ne_k g0 gca (by decide)))
              have m359 := congrArg tk m358
              have m360 : (sI H356 h0 (X.1.2 11 16)).toInt = (sI H347 h0 (X.1.2 11 16)).toInt := congrArg Int32.toInt (up_nI U356 (ne_k g0 gca (by decide)))
              have e361 := up_I U356
              have hz8 := tk_nn (sI H356 h0 (X.1.2 11 14)).toInt
              exact ret H356 locs356 _ _ dX12_readCell_186 ⟨hKp356, ⟨by omega, by omega, by omega, by omega⟩⟩ hC356 hS356
            · have hz8 := tk_nn (sI H340 h0 (X.1.2 11 14)).toInt
              exact ret H340 locs340 _ _ dX12_readCell_137 ⟨hKp340, ⟨by omega, by omega, by omega, by omega⟩⟩ hC340 hS340
      · refine lv_aload_n hx hb dX12_readCell_85 rfl (lv_at hl 4 rfl) ?_
        refine q_goIp (q_runV (As := []) (rest := [.ref h0]) E hC285 hS285 (m_X12_isDeep l X Γ H285 hC285 h0 g0 ca gca uc) cw_X12_isDeep cl_RX12_181 g0 ⟨rfl, rfl⟩ rfl hl.1 rfl (show _ ≤ _ from by simp [Value.category]) (by decide) dX12_readCell_86) hS285 (fun v362 locs362 hr362 hS362 => ?_)
        rcases hr362 with rfl | rfl
        · refine lv_goto (tgt := 108) hx hb dX12_readCell_89 rfl ?_
          refine q_goV (q_runV (As := [.int 0]) (rest := []) E hC285 hS362 (m_X12_must l X Γ H285 hC285 h0 g0 0 (a1 := 0) (by decide) ca gca uc (by omega) (by omega)) cw_X12_must cl_RX12_244 g0 ⟨rfl, rfl⟩ rfl hl.1 rfl (Nat.zero_le _) (by decide) dX12_readCell_108) hS362 (fun H363 locs363 hr363 hC363 hS363 => ?_)
          obtain ⟨hp363, hr363⟩ := hr363
          have hKp363 := hKp285.tr (hp363.mono rfl)
          obtain ⟨f363_0, f363_1, f363_2, f363_3, f363_4⟩ := hr363
          refine lv_aload_n hx hb dX12_readCell_111 rfl (lv_at hl 4 rfl) ?_
          refine lv_iconst (v := 0) hx hb dX12_readCell_112 rfl ?_
          refine lv_iload_n hx hb dX12_readCell_113 rfl (lv_at hl 5 rfl) ?_
          refine lv_iconst (v := 2) hx hb dX12_readCell_114 rfl ?_
          refine q_icmp_ne hx hb (a := a1) (b := 2) e1 (by decide) (tgt := 123) dX12_readCell_115 rfl (fun c364 => ?_) (fun c364 => absurd c364 (by omega))
          refine lv_bipush (v := 99) hx hb dX12_readCell_123 rfl ?_
          refine q_goI (q_runV (As := [.int 0, .int 99]) (rest := []) E hC363 hS363 (m_X12_count l X Γ H363 hC363 h0 g0 0 (a1 := 0) (by decide) 99 (a2 := 99) (by decide) ca gca uc (by omega) (by omega) (by omega) (by omega)) cw_X12_count cl_RX12_248 g0 ⟨rfl, rfl⟩ rfl hl.1 rfl (Nat.zero_le _) (by decide) dX12_readCell_125) hS363 (fun v365 H365 locs365 hr365 hC365 hS365 => ?_)
          obtain ⟨hp365, hr365⟩ := hr365
          have hKp365 := hKp363.tr (hp365.mono rfl)
          obtain ⟨f365_0, f365_1, f365_2, f365_3, f365_4, f365_5, f365_6, f365_7⟩ := hr365
          refine lv_istore hx hb dX12_readCell_128 hl (by decide) rfl (fun ls hl => ?_)
          replace hl : lv_has ls 7 [(6, .int v365), (5, .int v30), (4, .int v28), (3, .int v25), (2, .int v24), (0, .ref h0), (1, .int p1)] := hl
          refine lv_aload_n hx hb dX12_readCell_130 rfl (lv_at hl 5 rfl) ?_
          refine q_getI E hC365 g0 fa_RX12_218 dX12_readCell_131 (fun v366 ev366 lv366 uv366 => ?_)
          have m367 : (sI H365 h0 (X.1.2 11 12)).toInt = v366.toInt := (congrArg Int32.toInt ev366).trans rfl
          refine q_if_le hx hb (a := v366.toInt) rfl (tgt := 138) dX12_readCell_134 rfl (fun c368 => ?_) (fun c368 => ?_)
          · refine lv_aload_n hx hb dX12_readCell_138 rfl (lv_at hl 5 rfl) ?_
            refine q_getR E hC365 g0 fa_RX12_41 dX12_readCell_139 (fun q369 eq369 gq369 => ?_)
            refine lv_bipush (v := 36) hx hb dX12_readCell_142 rfl ?_
            refine lv_iload_n hx hb dX12_readCell_144 rfl (lv_at hl 6 rfl) ?_
            refine lv_imul hx hb dX12_readCell_145 (lv_topi (fun v370 ev370 => ?_))
            have ev370i : v370.toInt = (36 * a1) := i_mul ev370 (by decide) e1 (by omega) (by omega)
            refine lv_iload hx hb dX12_readCell_146 (lv_at hl 1 rfl) ?_
            refine lv_iadd hx hb dX12_readCell_148 (lv_topi (fun v371 ev371 => ?_))
            have ev371i : v371.toInt = ((36 * a1) + ((6 * v28.toInt) + v24.toInt)) := i_add ev371 ev370i ev30i (by omega) (by omega)
            refine lv_iconst (v := 1) hx hb dX12_readCell_149 rfl ?_
            refine q_iast E hC365 hS365 gq369 (by decide) rfl rfl (i_in (a := ((36 * a1) + ((6 * v28.toInt) + v24.toInt))) ev371i (by omega) (by omega)) tv_F dX12_readCell_150 (fun H372 locs372 hC372 hS372 U372 => ?_)
            have hKp372 := Kp.upA gq369 rfl (by decide) rfl U372 hKp365
            have m373 : (sI H372 h0 (X.1.2 11 12)).toInt = (sI H365 h0 (X.1.2 11 12)).toInt := congrArg Int32.toInt (up_nI U372 (ne_k g0 gq369 (by decide)))
            have m374 : (sI H372 h0 (X.1.2 11 14)).toInt = (sI H365 h0 (X.1.2 11 14)).toInt := congrArg Int32.toInt (up_nI U372 (ne_k g0 gq369 (by decide)))
            have m375 := congrArg tk m374
            have m376 : (sI H372 h0 (X.1.2 11 16)).toInt = (sI H365 h0 (X.1.2 11 16)).toInt := congrArg Int32.toInt (up_nI U372 (ne_k g0 gq369 (by decide)))
            refine lv_aload_n hx hb dX12_readCell_151 rfl (lv_at hl 5 rfl) ?_
            refine q_getC E hC372 g0 fa_RX12_35 uc dX12_readCell_152 ?_
            refine lv_sipush (v := 2080) hx hb dX12_readCell_155 rfl ?_
            refine lv_iload_n hx hb dX12_readCell_158 rfl (lv_at hl 6 rfl) ?_
            refine q_if_ne hx hb (a := a1) e1 (tgt := 167) dX12_readCell_159 rfl (fun c377 => absurd c377 (by omega)) (fun c377 => ?_)
            refine lv_bipush (v := 26) hx hb dX12_readCell_162 rfl ?_
            refine lv_goto (tgt := 179) hx hb dX12_readCell_164 rfl ?_
            refine lv_iadd hx hb dX12_readCell_179 (lv_topi (fun v378 ev378 => ?_))
            have ev378i : v378.toInt = (2080 + 26) := i_add ev378 (by decide) (by decide) (by omega) (by omega)
            refine lv_iload hx hb dX12_readCell_180 (lv_at hl 1 rfl) ?_
            refine lv_iadd hx hb dX12_readCell_182 (lv_topi (fun v379 ev379 => ?_))
            have ev379i : v379.toInt = ((2080 + 26) + ((6 * v28.toInt) + v24.toInt)) := i_add ev379 ev378i ev30i (by omega) (by omega)
            refine lv_iload hx hb dX12_readCell_183 (lv_at hl 0 rfl) ?_
            refine q_cast E hC372 hS372 gca (a := ((2080 + 26) + ((6 * v28.toInt) + v24.toInt))) ev379i (by omega) (by omega) (cs_n26 (a := ((2080 + 26) + ((6 * v28.toInt) + v24.toInt))) (b := v365.toInt) (by omega) (by omega) rfl (by omega) (by omega)) dX12_readCell_185 (fun H380 locs380 hC380 hS380 U380 => ?_)
            have hKp380 := Kp.upD gca rfl rfl (fun _ => ⟨fun _ => nd4 (by omega) (by omega), fun _ => by unfold dpu; omega, fun _ => by unfold dpn; omega⟩) U380 hKp372
            have m381 : (sI H380 h0 (X.1.2 11 12)).toInt = (sI H372 h0 (X.1.2 11 12)).toInt := congrArg Int32.toInt (up_nI U380 (ne_k g0 gca (by decide)))
            have m382 : (sI H380 h0 (X.1.2 11 14)).toInt = (sI H372 h0 (X.1.2 11 14)).toInt := congrArg Int32.toInt (up_nI U380 (ne_k g0 gca (by decide)))
            have m383 := congrArg tk m382
            have m384 : (sI H380 h0 (X.1.2 11 16)).toInt = (sI H372 h0 (X.1.2 11 16)).toInt := congrArg Int32.toInt (up_nI U380 (ne_k g0 gca (by decide)))
            have e385 := up_I U380
            have hz8 := tk_nn (sI H380 h0 (X.1.2 11 14)).toInt
            exact ret H380 locs380 _ _ dX12_readCell_186 ⟨hKp380, ⟨by omega, by omega, by omega, by omega⟩⟩ hC380 hS380
          · have hz8 := tk_nn (sI H365 h0 (X.1.2 11 14)).toInt
            exact ret H365 locs365 _ _ dX12_readCell_137 ⟨hKp365, ⟨by omega, by omega, by omega, by omega⟩⟩ hC365 hS365
        · refine lv_goto (tgt := 108) hx hb dX12_readCell_89 rfl ?_
          refine q_goV (q_runV (As := [.int 1]) (rest := []) E hC285 hS362 (m_X12_must l X Γ H285 hC285 h0 g0 1 (a1 := 1) (by decide) ca gca uc (by omega) (by omega)) cw_X12_must cl_RX12_244 g0 ⟨rfl, rfl⟩ rfl hl.1 rfl (Nat.zero_le _) (by decide) dX12_readCell_108) hS362 (fun H386 locs386 hr386 hC386 hS386 => ?_)
          obtain ⟨hp386, hr386⟩ := hr386
          have hKp386 := hKp285.tr (hp386.mono rfl)
          obtain ⟨f386_0, f386_1, f386_2, f386_3, f386_4⟩ := hr386
          refine lv_aload_n hx hb dX12_readCell_111 rfl (lv_at hl 4 rfl) ?_
          refine lv_iconst (v := 0) hx hb dX12_readCell_112 rfl ?_
          refine lv_iload_n hx hb dX12_readCell_113 rfl (lv_at hl 5 rfl) ?_
          refine lv_iconst (v := 2) hx hb dX12_readCell_114 rfl ?_
          refine q_icmp_ne hx hb (a := a1) (b := 2) e1 (by decide) (tgt := 123) dX12_readCell_115 rfl (fun c387 => ?_) (fun c387 => absurd c387 (by omega))
          refine lv_bipush (v := 99) hx hb dX12_readCell_123 rfl ?_
          refine q_goI (q_runV (As := [.int 0, .int 99]) (rest := []) E hC386 hS386 (m_X12_count l X Γ H386 hC386 h0 g0 0 (a1 := 0) (by decide) 99 (a2 := 99) (by decide) ca gca uc (by omega) (by omega) (by omega) (by omega)) cw_X12_count cl_RX12_248 g0 ⟨rfl, rfl⟩ rfl hl.1 rfl (Nat.zero_le _) (by decide) dX12_readCell_125) hS386 (fun v388 H388 locs388 hr388 hC388 hS388 => ?_)
          obtain ⟨hp388, hr388⟩ := hr388
          have hKp388 := hKp386.tr (hp388.mono rfl)
          obtain ⟨f388_0, f388_1, f388_2, f388_3, f388_4, f388_5, f388_6, f388_7⟩ := hr388
          refine lv_istore hx hb dX12_readCell_128 hl (by decide) rfl (fun ls hl => ?_)
          replace hl : lv_has ls 7 [(6, .int v388), (5, .int v30), (4, .int v28), (3, .int v25), (2, .int v24), (0, .ref h0), (1, .int p1)] := hl
          refine lv_aload_n hx hb dX12_readCell_130 rfl (lv_at hl 5 rfl) ?_
          refine q_getI E hC388 g0 fa_RX12_218 dX12_readCell_131 (fun v389 ev389 lv389 uv389 => ?_)
          have m390 : (sI H388 h0 (X.1.2 11 12)).toInt = v389.toInt := (congrArg Int32.toInt ev389).trans rfl
          refine q_if_le hx hb (a := v389.toInt) rfl (tgt := 138) dX12_readCell_134 rfl (fun c391 => ?_) (fun c391 => ?_)
          · refine lv_aload_n hx hb dX12_readCell_138 rfl (lv_at hl 5 rfl) ?_
            refine q_getR E hC388 g0 fa_RX12_41 dX12_readCell_139 (fun q392 eq392 gq392 => ?_)
            refine lv_bipush (v := 36) hx hb dX12_readCell_142 rfl ?_
            refine lv_iload_n hx hb dX12_readCell_144 rfl (lv_at hl 6 rfl) ?_
            refine lv_imul hx hb dX12_readCell_145 (lv_topi (fun v393 ev393 => ?_))
            have ev393i : v393.toInt = (36 * a1) := i_mul ev393 (by decide) e1 (by omega) (by omega)
            refine lv_iload hx hb dX12_readCell_146 (lv_at hl 1 rfl) ?_
            refine lv_iadd hx hb dX12_readCell_148 (lv_topi (fun v394 ev394 => ?_))
            have ev394i : v394.toInt = ((36 * a1) + ((6 * v28.toInt) + v24.toInt)) := i_add ev394 ev393i ev30i (by omega) (by omega)
            refine lv_iconst (v := 1) hx hb dX12_readCell_149 rfl ?_
            refine q_iast E hC388 hS388 gq392 (by decide) rfl rfl (i_in (a := ((36 * a1) + ((6 * v28.toInt) + v24.toInt))) ev394i (by omega) (by omega)) tv_F dX12_readCell_150 (fun H395 locs395 hC395 hS395 U395 => ?_)
            have hKp395 := Kp.upA gq392 rfl (by decide) rfl U395 hKp388
            have m396 : (sI H395 h0 (X.1.2 11 12)).toInt = (sI H388 h0 (X.1.2 11 12)).toInt := congrArg Int32.toInt (up_nI U395 (ne_k g0 gq392 (by decide)))
            have m397 : (sI H395 h0 (X.1.2 11 14)).toInt = (sI H388 h0 (X.1.2 11 14)).toInt := congrArg Int32.toInt (up_nI U395 (ne_k g0 gq392 (by decide)))
            have m398 := congrArg tk m397
            have m399 : (sI H395 h0 (X.1.2 11 16)).toInt = (sI H388 h0 (X.1.2 11 16)).toInt := congrArg Int32.toInt (up_nI U395 (ne_k g0 gq392 (by decide)))
            refine lv_aload_n hx hb dX12_readCell_151 rfl (lv_at hl 5 rfl) ?_
            refine q_getC E hC395 g0 fa_RX12_35 uc dX12_readCell_152 ?_
            refine lv_sipush (v := 2080) hx hb dX12_readCell_155 rfl ?_
            refine lv_iload_n hx hb dX12_readCell_158 rfl (lv_at hl 6 rfl) ?_
            refine q_if_ne hx hb (a := a1) e1 (tgt := 167) dX12_readCell_159 rfl (fun c400 => absurd c400 (by omega)) (fun c400 => ?_)
            refine lv_bipush (v := 26) hx hb dX12_readCell_162 rfl ?_
            refine lv_goto (tgt := 179) hx hb dX12_readCell_164 rfl ?_
            refine lv_iadd hx hb dX12_readCell_179 (lv_topi (fun v401 ev401 => ?_))
            have ev401i : v401.toInt = (2080 + 26) := i_add ev401 (by decide) (by decide) (by omega) (by omega)
            refine lv_iload hx hb dX12_readCell_180 (lv_at hl 1 rfl) ?_
            refine lv_iadd hx hb dX12_readCell_182 (lv_topi (fun v402 ev402 => ?_))
            have ev402i : v402.toInt = ((2080 + 26) + ((6 * v28.toInt) + v24.toInt)) := i_add ev402 ev401i ev30i (by omega) (by omega)
            refine lv_iload hx hb dX12_readCell_183 (lv_at hl 0 rfl) ?_
            refine q_cast E hC395 hS395 gca (a := ((2080 + 26) + ((6 * v28.toInt) + v24.toInt))) ev402i (by omega) (by omega) (cs_n26 (a := ((2080 + 26) + ((6 * v28.toInt) + v24.toInt))) (b := v388.toInt) (by omega) (by omega) rfl (by omega) (by omega)) dX12_readCell_185 (fun H403 locs403 hC403 hS403 U403 => ?_)
            have hKp403 := Kp.upD gca rfl rfl (fun _ => ⟨fun _ => nd4 (by omega) (by omega), fun _ => by unfold dpu; omega, fun _ => by unfold dpn; omega⟩) U403 hKp395
            have m404 : (sI H403 h0 (X.1.2 11 12)).toInt = (sI H395 h0 (X.1.2 11 12)).toInt := congrArg Int32.toInt (up_nI U403 (ne_k g0 gca (by decide)))
            have m405 : (sI H403 h0 (X.1.2 11 14)).toInt = (sI H395 h0 (X.1.2 11 14)).toInt := congrArg Int32.toInt (up_nI U403 (ne_k g0 gca (by decide)))
            have m406 := congrArg tk m405
            have m407 : (sI H403 h0 (X.1.2 11 16)).toInt = (sI H395 h0 (X.1.2 11 16)).toInt := congrArg Int32.toInt (up_nI U403 (ne_k g0 gca (by decide)))
            have e408 := up_I U403
            have hz8 := tk_nn (sI H403 h0 (X.1.2 11 14)).toInt
            exact ret H403 locs403 _ _ dX12_readCell_186 ⟨hKp403, ⟨by omega, by omega, by omega, by omega⟩⟩ hC403 hS403
          · have hz8 := tk_nn (sI H388 h0 (X.1.2 11 14)).toInt
            exact ret H388 locs388 _ _ dX12_readCell_137 ⟨hKp388, ⟨by omega, by omega, by omega, by omega⟩⟩ hC388 hS388
