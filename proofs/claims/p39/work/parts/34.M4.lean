set_option maxRecDepth 100000 in
set_option maxHeartbeats 4000000 in
theorem m_X12_readArticle (l : Launch) (X : xW) (Γ : Nat → Option Nat) (H0 : Heap) (hC0 : Conf X Γ H0) (h0 : Nat) (g0 : Γ h0 = some 11) (ca : Nat) (gca : Γ ca = some 64) (uc : ∀ a, Γ a = some 64 → a = ca) : Ctr l X Γ yX12_readArticle cX12_readArticle 2 none 3 [.ref h0] H0 (QV X Γ (fun H1 => Kp X Γ [1, 6, 7, 8, 9, 10, 11, 12, 14, 16, 17, 19, 22, 24, 26, 28] H0 H1 ∧ (((sI H0 h0 (X.1.2 11 16)).toInt ≤ (sI H1 h0 (X.1.2 11 16)).toInt) ∧ ((sI H0 h0 (X.1.2 11 16)).toInt < (sI H1 h0 (X.1.2 11 16)).toInt + tk (sI H1 h0 (X.1.2 11 14)).toInt + 2000 * (sI H1 h0 (X.1.2 11 12)).toInt) ∧ ((sI H0 h0 (X.1.2 11 12)).toInt ≤ 7 * (sI H1 h0 (X.1.2 11 12)).toInt) ∧ (0 ≤ (sI H1 h0 (X.1.2 11 12)).toInt)))) := by
  refine q_enterV (own := "SnowFortsModel") (by decide) rfl (Nat.le_of_ble_eq_true rfl) ?_
  intro p e s m args below meth c ls Qz E hl ret hS0
  have hx := E.1; have hb := E.2.1
  have hKp0 : Kp X Γ [1, 6, 7, 8, 9, 10, 11, 12, 14, 16, 17, 19, 22, 24, 26, 28] H0 H0 := Kp.rf
  have hl : lv_has ls 2 [(0, .ref h0)] := hl
  have hz1 := f_bd hC0 g0 (ci := 11) (k := 16) rfl rfl
  have hz2 := f_bd hC0 g0 (ci := 11) (k := 12) rfl rfl
  refine lv_aload_n hx hb dX12_readArticle_0 rfl (lv_at hl 0 rfl) ?_
  refine q_goV (q_runV (As := []) (rest := []) E hC0 hS0 (m_X12_next l X Γ H0 hC0 h0 g0 ca gca uc) cw_X12_next cl_RX12_228 g0 ⟨rfl, rfl⟩ rfl hl.1 rfl (Nat.zero_le _) (by decide) dX12_readArticle_1) hS0 (fun H21 locs21 hr21 hC21 hS21 => ?_)
  obtain ⟨hp21, hr21⟩ := hr21
  have hKp21 := hKp0.tr (hp21.mono rfl)
  obtain ⟨f21_0, f21_1, f21_2⟩ := hr21
  refine lv_aload_n hx hb dX12_readArticle_4 rfl (lv_at hl 0 rfl) ?_
  refine q_goIp (q_runV (As := []) (rest := []) E hC21 hS21 (m_X12_isWall l X Γ H21 hC21 h0 g0 ca gca uc) cw_X12_isWall cl_RX12_163 g0 ⟨rfl, rfl⟩ rfl hl.1 rfl (Nat.zero_le _) (by decide) dX12_readArticle_5) hS21 (fun v22 locs22 hr22 hS22 => ?_)
  rcases hr22 with rfl | rfl
  · refine q_if_eq hx hb (a := 0) (by decide) (tgt := 15) dX12_readArticle_8 rfl (fun c23 => ?_) (fun c23 => absurd c23 (by omega))
    refine lv_aload_n hx hb dX12_readArticle_15 rfl (lv_at hl 0 rfl) ?_
    refine q_goIp (q_runV (As := []) (rest := []) E hC21 hS22 (m_X12_isBuild l X Γ H21 hC21 h0 g0 ca gca uc) cw_X12_isBuild cl_RX12_153 g0 ⟨rfl, rfl⟩ rfl hl.1 rfl (Nat.zero_le _) (by decide) dX12_readArticle_16) hS22 (fun v24 locs24 hr24 hS24 => ?_)
    rcases hr24 with rfl | rfl
    · refine q_if_eq hx hb (a := 0) (by decide) (tgt := 26) dX12_readArticle_19 rfl (fun c25 => ?_) (fun c25 => absurd c25 (by omega))
      refine lv_aload_n hx hb dX12_readArticle_26 rfl (lv_at hl 0 rfl) ?_
      refine q_goIp (q_runV (As := []) (rest := []) E hC21 hS24 (m_X12_isSteal l X Γ H21 hC21 h0 g0 ca gca uc) cw_X12_isSteal cl_RX12_160 g0 ⟨rfl, rfl⟩ rfl hl.1 rfl (Nat.zero_le _) (by decide) dX12_readArticle_27) hS24 (fun v26 locs26 hr26 hS26 => ?_)
      rcases hr26 with rfl | rfl
      · refine q_if_eq hx hb (a := 0) (by decide) (tgt := 37) dX12_readArticle_30 rfl (fun c27 => ?_) (fun c27 => absurd c27 (by omega))
        refine lv_aload_n hx hb dX12_readArticle_37 rfl (lv_at hl 0 rfl) ?_
        refine q_goIp (q_runV (As := []) (rest := []) E hC21 hS26 (m_X12_isIce l X Γ H21 hC21 h0 g0 ca gca uc) cw_X12_isIce cl_RX12_157 g0 ⟨rfl, rfl⟩ rfl hl.1 rfl (Nat.zero_le _) (by decide) dX12_readArticle_38) hS26 (fun v28 locs28 hr28 hS28 => ?_)
        rcases hr28 with rfl | rfl
        · refine q_if_eq hx hb (a := 0) (by decide) (tgt := 48) dX12_readArticle_41 rfl (fun c29 => ?_) (fun c29 => absurd c29 (by omega))
          refine lv_iconst (v := (-1)) hx hb dX12_readArticle_48 rfl ?_
          refine lv_istore_n hx hb dX12_readArticle_49 rfl hl (by decide) rfl (fun ls hl => ?_)
          replace hl : lv_has ls 2 [(1, .int (-1)), (0, .ref h0)] := hl
          refine lv_iload_n hx hb dX12_readArticle_50 rfl (lv_at hl 0 rfl) ?_
          refine q_if_ge hx hb (a := (-1)) (by decide) (tgt := 58) dX12_readArticle_51 rfl (fun c30 => absurd c30 (by omega)) (fun c30 => ?_)
          refine lv_aload_n hx hb dX12_readArticle_54 rfl (lv_at hl 1 rfl) ?_
          refine q_goV (q_runV (As := []) (rest := []) E hC21 hS28 (m_X12_wrong l X Γ H21 hC21 h0 g0 ca gca uc) cw_X12_wrong cl_RX12_231 g0 ⟨rfl, rfl⟩ rfl hl.1 rfl (Nat.zero_le _) (by decide) dX12_readArticle_55) hS28 (fun H31 locs31 hr31 hC31 hS31 => ?_)
          obtain ⟨hp31, hr31⟩ := hr31
          have hKp31 := hKp21.tr (hp31.mono rfl)
          obtain ⟨f31_0, f31_1, f31_2, f31_3⟩ := hr31
          refine lv_aload_n hx hb dX12_readArticle_58 rfl (lv_at hl 1 rfl) ?_
          refine q_getI E hC31 g0 fa_RX12_218 dX12_readArticle_59 (fun v32 ev32 lv32 uv32 => ?_)
          have m33 : (sI H31 h0 (X.1.2 11 12)).toInt = v32.toInt := (congrArg Int32.toInt ev32).trans rfl
          refine q_if_ne hx hb (a := v32.toInt) rfl (tgt := 88) dX12_readArticle_62 rfl (fun c34 => ?_) (fun c34 => absurd c34 (by omega))
          refine lv_aload_n hx hb dX12_readArticle_88 rfl (lv_at hl 1 rfl) ?_
          refine lv_iconst (v := 1) hx hb dX12_readArticle_89 rfl ?_
          refine q_goV (q_runV (As := [.int 1]) (rest := []) E hC31 hS31 (m_X12_must l X Γ H31 hC31 h0 g0 1 (a1 := 1) (by decide) ca gca uc (by omega) (by omega)) cw_X12_must cl_RX12_244 g0 ⟨rfl, rfl⟩ rfl hl.1 rfl (Nat.zero_le _) (by decide) dX12_readArticle_90) hS31 (fun H35 locs35 hr35 hC35 hS35 => ?_)
          obtain ⟨hp35, hr35⟩ := hr35
          have hKp35 := hKp31.tr (hp35.mono rfl)
          obtain ⟨f35_0, f35_1, f35_2, f35_3, f35_4⟩ := hr35
          refine lv_aload_n hx hb dX12_readArticle_93 rfl (lv_at hl 1 rfl) ?_
          refine q_getI E hC35 g0 fa_RX12_218 dX12_readArticle_94 (fun v36 ev36 lv36 uv36 => ?_)
          have m37 : (sI H35 h0 (X.1.2 11 12)).toInt = v36.toInt := (congrArg Int32.toInt ev36).trans rfl
          refine q_if_ne hx hb (a := v36.toInt) rfl (tgt := 161) dX12_readArticle_97 rfl (fun c38 => ?_) (fun c38 => ?_)
          · refine lv_aload_n hx hb dX12_readArticle_161 rfl (lv_at hl 1 rfl) ?_
            refine q_getI E hC35 g0 fa_RX12_218 dX12_readArticle_162 (fun v39 ev39 lv39 uv39 => ?_)
            have qv39 := ev36.symm.trans ev39; subst qv39
            refine q_if_ne hx hb (a := v36.toInt) rfl (tgt := 179) dX12_readArticle_165 rfl (fun c40 => ?_) (fun c40 => absurd c40 (by omega))
            have hz8 := tk_nn (sI H35 h0 (X.1.2 11 14)).toInt
            exact ret H35 locs35 _ _ dX12_readArticle_179 ⟨hKp35, ⟨by omega, by omega, by omega, by omega⟩⟩ hC35 hS35
          · refine lv_iload_n hx hb dX12_readArticle_100 rfl (lv_at hl 0 rfl) ?_
            refine lv_iconst (v := 2) hx hb dX12_readArticle_101 rfl ?_
            refine q_icmp_eq hx hb (a := (-1)) (b := 2) (by decide) (by decide) (tgt := 161) dX12_readArticle_102 rfl (fun c41 => absurd c41 (by omega)) (fun c41 => ?_)
            refine lv_aload_n hx hb dX12_readArticle_105 rfl (lv_at hl 1 rfl) ?_
            refine lv_iload_n hx hb dX12_readArticle_106 rfl (lv_at hl 0 rfl) ?_
            refine lv_iconst (v := 1) hx hb dX12_readArticle_107 rfl ?_
            refine q_icmp_ne hx hb (a := (-1)) (b := 1) (by decide) (by decide) (tgt := 118) dX12_readArticle_108 rfl (fun c42 => ?_) (fun c42 => absurd c42 (by omega))
            refine lv_aload_n hx hb dX12_readArticle_118 rfl (lv_at hl 1 rfl) ?_
            refine q_goIp (q_runV (As := []) (rest := [.ref h0]) E hC35 hS35 (m_X12_isAbove l X Γ H35 hC35 h0 g0 ca gca uc) cw_X12_isAbove cl_RX12_196 g0 ⟨rfl, rfl⟩ rfl hl.1 rfl (show _ ≤ _ from by simp [Value.category]) (by decide) dX12_readArticle_119) hS35 (fun v43 locs43 hr43 hS43 => ?_)
            have b43 : v43.toInt = 0 ∨ v43.toInt = 1 := hr43.imp (fun h => by rw [h]; decide) (fun h => by rw [h]; decide)
            refine q_goV (q_runV (As := [.int v43]) (rest := []) E hC35 hS43 (m_X12_must l X Γ H35 hC35 h0 g0 v43 (a1 := v43.toInt) rfl ca gca uc (by omega) (by omega)) cw_X12_must cl_RX12_244 g0 ⟨rfl, rfl⟩ rfl hl.1 rfl (Nat.zero_le _) (by decide) dX12_readArticle_122) hS43 (fun H44 locs44 hr44 hC44 hS44 => ?_)
            obtain ⟨hp44, hr44⟩ := hr44
            have hKp44 := hKp35.tr (hp44.mono rfl)
            obtain ⟨f44_0, f44_1, f44_2, f44_3, f44_4⟩ := hr44
            refine lv_aload_n hx hb dX12_readArticle_125 rfl (lv_at hl 1 rfl) ?_
            refine q_getC E hC44 g0 fa_RX12_35 uc dX12_readArticle_126 ?_
            refine lv_sipush (v := 2102) hx hb dX12_readArticle_129 rfl ?_
            refine lv_iload_n hx hb dX12_readArticle_132 rfl (lv_at hl 0 rfl) ?_
            refine lv_iadd hx hb dX12_readArticle_133 (lv_topi (fun v45 ev45 => ?_))
            have ev45i : v45.toInt = (2102 + (-1)) := i_add ev45 (by decide) (by decide) (by omega) (by omega)
            refine lv_aload_n hx hb dX12_readArticle_134 rfl (lv_at hl 1 rfl) ?_
            refine lv_iconst (v := 0) hx hb dX12_readArticle_135 rfl ?_
            refine lv_iload_n hx hb dX12_readArticle_136 rfl (lv_at hl 0 rfl) ?_
            refine q_if_ne hx hb (a := (-1)) (by decide) (tgt := 145) dX12_readArticle_137 rfl (fun c46 => ?_) (fun c46 => absurd c46 (by omega))
            refine lv_iload_n hx hb dX12_readArticle_145 rfl (lv_at hl 0 rfl) ?_
            refine lv_iconst (v := 1) hx hb dX12_readArticle_146 rfl ?_
            refine q_icmp_ne hx hb (a := (-1)) (b := 1) (by decide) (by decide) (tgt := 155) dX12_readArticle_147 rfl (fun c47 => ?_) (fun c47 => absurd c47 (by omega))
            refine lv_bipush (v := 18) hx hb dX12_readArticle_155 rfl ?_
            refine q_goI (q_runV (As := [.int 0, .int 18]) (rest := [.int v45, .ref ca]) E hC44 hS44 (m_X12_count l X Γ H44 hC44 h0 g0 0 (a1 := 0) (by decide) 18 (a2 := 18) (by decide) ca gca uc (by omega) (by omega) (by omega) (by omega)) cw_X12_count cl_RX12_248 g0 ⟨rfl, rfl⟩ rfl hl.1 rfl (show _ ≤ _ from by simp [Value.category]) (by decide) dX12_readArticle_157) hS44 (fun v48 H48 locs48 hr48 hC48 hS48 => ?_)
            obtain ⟨hp48, hr48⟩ := hr48
            have hKp48 := hKp44.tr (hp48.mono rfl)
            obtain ⟨f48_0, f48_1, f48_2, f48_3, f48_4, f48_5, f48_6, f48_7⟩ := hr48
            refine q_cast E hC48 hS48 gca (a := (2102 + (-1))) ev45i (by omega) (by omega) (cs_n16 (a := (2102 + (-1))) (by omega) (by omega)) dX12_readArticle_160 (fun H49 locs49 hC49 hS49 U49 => ?_)
            have hKp49 := Kp.upD gca rfl rfl (fun _ => ⟨fun _ => nd4 (by omega) (by omega), fun _ => by unfold dpu; omega, fun _ => by unfold dpn; omega⟩) U49 hKp48
            have m50 : (sI H49 h0 (X.1.2 11 12)).toInt = (sI H48 h0 (X.1.2 11 12)).toInt := congrArg Int32.toInt (up_nI U49 (ne_k g0 gca (by decide)))
            have m51 : (sI H49 h0 (X.1.2 11 14)).toInt = (sI H48 h0 (X.1.2 11 14)).toInt := congrArg Int32.toInt (up_nI U49 (ne_k g0 gca (by decide)))
            have m52 := congrArg tk m51
            have m53 : (sI H49 h0 (X.1.2 11 16)).toInt = (sI H48 h0 (X.1.2 11 16)).toInt := congrArg Int32.toInt (up_nI U49 (ne_k g0 gca (by decide)))
            have e54 := up_I U49
            refine lv_aload_n hx hb dX12_readArticle_161 rfl (lv_at hl 1 rfl) ?_
            refine q_getI E hC49 g0 fa_RX12_218 dX12_readArticle_162 (fun v55 ev55 lv55 uv55 => ?_)
            have m56 : (sI H49 h0 (X.1.2 11 12)).toInt = v55.toInt := (congrArg Int32.toInt ev55).trans rfl
            refine q_if_ne hx hb (a := v55.toInt) rfl (tgt := 179) dX12_readArticle_165 rfl (fun c57 => ?_) (fun c57 => ?_)
            · have hz8 := tk_nn (sI H49 h0 (X.1.2 11 14)).toInt
              exact ret H49 locs49 _ _ dX12_readArticle_179 ⟨hKp49, ⟨by omega, by omega, by omega, by omega⟩⟩ hC49 hS49
            · refine lv_aload_n hx hb dX12_readArticle_168 rfl (lv_at hl 1 rfl) ?_
              refine q_getC E hC49 g0 fa_RX12_35 uc dX12_readArticle_169 ?_
              refine lv_sipush (v := 2098) hx hb dX12_readArticle_172 rfl ?_
              refine lv_iload_n hx hb dX12_readArticle_175 rfl (lv_at hl 0 rfl) ?_
              refine lv_iadd hx hb dX12_readArticle_176 (lv_topi (fun v58 ev58 => ?_))
              have ev58i : v58.toInt = (2098 + (-1)) := i_add ev58 (by decide) (by decide) (by omega) (by omega)
              refine lv_iconst (v := 1) hx hb dX12_readArticle_177 rfl ?_
              refine q_cast E hC49 hS49 gca (a := (2098 + (-1))) ev58i (by omega) (by omega) (cs_n16 (a := (2098 + (-1))) (by omega) (by omega)) dX12_readArticle_178 (fun H59 locs59 hC59 hS59 U59 => ?_)
              have hKp59 := Kp.upD gca rfl rfl (fun _ => ⟨fun _ => nd4 (by omega) (by omega), fun _ => by unfold dpu; omega, fun _ => by unfold dpn; omega⟩) U59 hKp49
              have m60 : (sI H59 h0 (X.1.2 11 12)).toInt = (sI H49 h0 (X.1.2 11 12)).toInt := congrArg Int32.toInt (up_nI U59 (ne_k g0 gca (by decide)))
              have m61 : (sI H59 h0 (X.1.2 11 14)).toInt = (sI H49 h0 (X.1.2 11 14)).toInt := congrArg Int32.toInt (up_nI U59 (ne_k g0 gca (by decide)))
              have m62 := congrArg tk m61
              have m63 : (sI H59 h0 (X.1.2 11 16)).toInt = (sI H49 h0 (X.1.2 11 16)).toInt := congrArg Int32.toInt (up_nI U59 (ne_k g0 gca (by decide)))
              have e64 := up_I U59
              have hz8 := tk_nn (sI H59 h0 (X.1.2 11 14)).toInt
              exact ret H59 locs59 _ _ dX12_readArticle_179 ⟨hKp59, ⟨by omega, by omega, by omega, by omega⟩⟩ hC59 hS59
        · refine q_if_eq hx hb (a := 1) (by decide) (tgt := 48) dX12_readArticle_41 rfl (fun c65 => absurd c65 (by omega)) (fun c65 => ?_)
          refine lv_iconst (v := 3) hx hb dX12_readArticle_44 rfl ?_
          refine lv_goto (tgt := 49) hx hb dX12_readArticle_45 rfl ?_
          refine lv_istore_n hx hb dX12_readArticle_49 rfl hl (by decide) rfl (fun ls hl => ?_)
          replace hl : lv_has ls 2 [(1, .int 3), (0, .ref h0)] := hl
          refine lv_iload_n hx hb dX12_readArticle_50 rfl (lv_at hl 0 rfl) ?_
          refine q_if_ge hx hb (a := 3) (by decide) (tgt := 58) dX12_readArticle_51 rfl (fun c66 => ?_) (fun c66 => absurd c66 (by omega))
          refine lv_aload_n hx hb dX12_readArticle_58 rfl (lv_at hl 1 rfl) ?_
          refine q_getI E hC21 g0 fa_RX12_218 dX12_readArticle_59 (fun v67 ev67 lv67 uv67 => ?_)
          have m68 : (sI H21 h0 (X.1.2 11 12)).toInt = v67.toInt := (congrArg Int32.toInt ev67).trans rfl
          refine q_if_ne hx hb (a := v67.toInt) rfl (tgt := 88) dX12_readArticle_62 rfl (fun c69 => ?_) (fun c69 => ?_)
          · refine lv_aload_n hx hb dX12_readArticle_88 rfl (lv_at hl 1 rfl) ?_
            refine lv_iconst (v := 1) hx hb dX12_readArticle_89 rfl ?_
            refine q_goV (q_runV (As := [.int 1]) (rest := []) E hC21 hS28 (m_X12_must l X Γ H21 hC21 h0 g0 1 (a1 := 1) (by decide) ca gca uc (by omega) (by omega)) cw_X12_must cl_RX12_244 g0 ⟨rfl, rfl⟩ rfl hl.1 rfl (Nat.zero_le _) (by decide) dX12_readArticle_90) hS28 (fun H70 locs70 hr70 hC70 hS70 => ?_)
            obtain ⟨hp70, hr70⟩ := hr70
            have hKp70 := hKp21.tr (hp70.mono rfl)
            obtain ⟨f70_0, f70_1, f70_2, f70_3, f70_4⟩ := hr70
            refine lv_aload_n hx hb dX12_readArticle_93 rfl (lv_at hl 1 rfl) ?_
            refine q_getI E hC70 g0 fa_RX12_218 dX12_readArticle_94 (fun v71 ev71 lv71 uv71 => ?_)
            have m72 : (sI H70 h0 (X.1.2 11 12)).toInt = v71.toInt := (congrArg Int32.toInt ev71).trans rfl
            refine q_if_ne hx hb (a := v71.toInt) rfl (tgt := 161) dX12_readArticle_97 rfl (fun c73 => ?_) (fun c73 => ?_)
            · refine lv_aload_n hx hb dX12_readArticle_161 rfl (lv_at hl 1 rfl) ?_
              refine q_getI E hC70 g0 fa_RX12_218 dX12_readArticle_162 (fun v74 ev74 lv74 uv74 => ?_)
              have qv74 := ev71.symm.trans ev74; subst qv74
              refine q_if_ne hx hb (a := v71.toInt) rfl (tgt := 179) dX12_readArticle_165 rfl (fun c75 => ?_) (fun c75 => absurd c75 (by omega))
              have hz8 := tk_nn (sI H70 h0 (X.1.2 11 14)).toInt
              exact ret H70 locs70 _ _ dX12_readArticle_179 ⟨hKp70, ⟨by omega, by omega, by omega, by omega⟩⟩ hC70 hS70
            · refine lv_iload_n hx hb dX12_readArticle_100 rfl (lv_at hl 0 rfl) ?_
              refine lv_iconst (v := 2) hx hb dX12_readArticle_101 rfl ?_
              refine q_icmp_eq hx hb (a := 3) (b := 2) (by decide) (by decide) (tgt := 161) dX12_readArticle_102 rfl (fun c76 => absurd c76 (by omega)) (fun c76 => ?_)
              refine lv_aload_n hx hb dX12_readArticle_105 rfl (lv_at hl 1 rfl) ?_
              refine lv_iload_n hx hb dX12_readArticle_106 rfl (lv_at hl 0 rfl) ?_
              refine lv_iconst (v := 1) hx hb dX12_readArticle_107 rfl ?_
              refine q_icmp_ne hx hb (a := 3) (b := 1) (by decide) (by decide) (tgt := 118) dX12_readArticle_108 rfl (fun c77 => ?_) (fun c77 => absurd c77 (by omega))
              refine lv_aload_n hx hb dX12_readArticle_118 rfl (lv_at hl 1 rfl) ?_
              refine q_goIp (q_runV (As := []) (rest := [.ref h0]) E hC70 hS70 (m_X12_isAbove l X Γ H70 hC70 h0 g0 ca gca uc) cw_X12_isAbove cl_RX12_196 g0 ⟨rfl, rfl⟩ rfl hl.1 rfl (show _ ≤ _ from by simp [Value.category]) (by decide) dX12_readArticle_119) hS70 (fun v78 locs78 hr78 hS78 => ?_)
              have b78 : v78.toInt = 0 ∨ v78.toInt = 1 := hr78.imp (fun h => by rw [h]; decide) (fun h => by rw [h]; decide)
              refine q_goV (q_runV (As := [.int v78]) (rest := []) E hC70 hS78 (m_X12_must l X Γ H70 hC70 h0 g0 v78 (a1 := v78.toInt) rfl ca gca uc (by omega) (by omega)) cw_X12_must cl_RX12_244 g0 ⟨rfl, rfl⟩ rfl hl.1 rfl (Nat.zero_le _) (by decide) dX12_readArticle_122) hS78 (fun H79 locs79 hr79 hC79 hS79 => ?_)
              obtain ⟨hp79, hr79⟩ := hr79
              have hKp79 := hKp70.tr (hp79.mono rfl)
              obtain ⟨f79_0, f79_1, f79_2, f79_3, f79_4⟩ := hr79
              refine lv_aload_n hx hb dX12_readArticle_125 rfl (lv_at hl 1 rfl) ?_
              refine q_getC E hC79 g0 fa_RX12_35 uc dX12_readArticle_126 ?_
              refine lv_sipush (v := 2102) hx hb dX12_readArticle_129 rfl ?_
              refine lv_iload_n hx hb dX12_readArticle_132 rfl (lv_at hl 0 rfl) ?_
              refine lv_iadd hx hb dX12_readArticle_133 (lv_topi (fun v80 ev80 => ?_))
              have ev80i : v80.toInt = (2102 + 3) := i_add ev80 (by decide) (by decide) (by omega) (by omega)
              refine lv_aload_n hx hb dX12_readArticle_134 rfl (lv_at hl 1 rfl) ?_
              refine lv_iconst (v := 0) hx hb dX12_readArticle_135 rfl ?_
              refine lv_iload_n hx hb dX12_readArticle_136 rfl (lv_at hl 0 rfl) ?_
              refine q_if_ne hx hb (a := 3) (by decide) (tgt := 145) dX12_readArticle_137 rfl (fun c81 => ?_) (fun c81 => absurd c81 (by omega))
              refine lv_iload_n hx hb dX12_readArticle_145 rfl (lv_at hl 0 rfl) ?_
              refine lv_iconst (v := 1) hx hb dX12_readArticle_146 rfl ?_
              refine q_icmp_ne hx hb (a := 3) (b := 1) (by decide) (by decide) (tgt := 155) dX12_readArticle_147 rfl (fun c82 => ?_) (fun c82 => absurd c82 (by omega))
              refine lv_bipush (v := 18) hx hb dX12_readArticle_155 rfl ?_
              refine q_goI (q_runV (As := [.int 0, .int 18]) (rest := [.int v80, .ref ca]) E hC79 hS79 (m_X12_count l X Γ H79 hC79 h0 g0 0 (a1 := 0) (by decide) 18 (a2 := 18) (by decide) ca gca uc (by omega) (by omega) (by omega) (by omega)) cw_X12_count cl_RX12_248 g0 ⟨rfl, rfl⟩ rfl hl.1 rfl (show _ ≤ _ from by simp [Value.category]) (by decide) dX12_readArticle_157) hS79 (fun v83 H83 locs83 hr83 hC83 hS83 => ?_)
              obtain ⟨hp83, hr83⟩ := hr83
              have hKp83 := hKp79.tr (hp83.mono rfl)
              obtain ⟨f83_0, f83_1, f83_2, f83_3, f83_4, f83_5, f83_6, f83_7⟩ := hr83
              refine q_cast E hC83 hS83 gca (a := (2102 + 3)) ev80i (by omega) (by omega) (cs_n16 (a := (2102 + 3)) (by omega) (by omega)) dX12_readArticle_160 (fun H84 locs84 hC84 hS84 U84 => ?_)
              have hKp84 := Kp.upD gca rfl rfl (fun _ => ⟨fun _ => nd4 (by omega) (by omega), fun _ => by unfold dpu; omega, fun _ => by unfold dpn; omega⟩) U84 hKp83
              have m85 : (sI H84 h0 (X.1.2 11 12)).toInt = (sI H83 h0 (X.1.2 11 12)).toInt := congrArg Int32.toInt (up_nI U84 (ne_k g0 gca (by decide)))
              have m86 : (sI H84 h0 (X.1.2 11 14)).toInt = (sI H83 h0 (X.1.2 11 14)).toInt := congrArg Int32.toInt (up_nI U84 (ne_k g0 gca (by decide)))
              have m87 := congrArg tk m86
              have m88 : (sI H84 h0 (X.1.2 11 16)).toInt = (sI H83 h0 (X.1.2 11 16)).toInt := congrArg Int32.toInt (up_nI U84 (ne_k g0 gca (by decide)))
              have e89 := up_I U84
              refine lv_aload_n hx hb dX12_readArticle_161 rfl (lv_at hl 1 rfl) ?_
              refine q_getI E hC84 g0 fa_RX12_218 dX12_readArticle_162 (fun v90 ev90 lv90 uv90 => ?_)
              have m91 : (sI H84 h0 (X.1.2 11 12)).toInt = v90.toInt := (congrArg Int32.toInt ev90).trans rfl
              refine q_if_ne hx hb (a := v90.toInt) rfl (tgt := 179) dX12_readArticle_165 rfl (fun c92 => ?_) (fun c92 => ?_)
              · have hz8 := tk_nn (sI H84 h0 (X.1.2 11 14)).toInt
                exact ret H84 locs84 _ _ dX12_readArticle_179 ⟨hKp84, ⟨by omega, by omega, by omega, by omega⟩⟩ hC84 hS84
              · refine lv_aload_n hx hb dX12_readArticle_168 rfl (lv_at hl 1 rfl) ?_
                refine q_getC E hC84 g0 fa_RX12_35 uc dX12_readArticle_169 ?_
                refine lv_sipush (v := 2098) hx hb dX12_readArticle_172 rfl ?_
                refine lv_iload_n hx hb dX12_readArticle_175 rfl (lv_at hl 0 rfl) ?_
                refine lv_iadd hx hb dX12_readArticle_176 (lv_topi (fun v93 ev93 => ?_))
                have ev93i : v93.toInt = (2098 + 3) := i_add ev93 (by decide) (by decide) (by omega) (by omega)
                refine lv_iconst (v := 1) hx hb dX12_readArticle_177 rfl ?_
                refine q_cast E hC84 hS84 gca (a := (2098 + 3)) ev93i (by omega) (by omega) (cs_n16 (a := (2098 + 3)) (by omega) (by omega)) dX12_readArticle_178 (fun H94 locs94 hC94 hS94 U94 => ?_)
                have hKp94 := Kp.upD gca rfl rfl (fun _ => ⟨fun _ => nd4 (by omega) (by omega), fun _ => by unfold dpu; omega, fun _ => by unfold dpn; omega⟩) U94 hKp84
                have m95 : (sI H94 h0 (X.1.2 11 12)).toInt = (sI H84 h0 (X.1.2 11 12)).toInt := congrArg Int32.toInt (up_nI U94 (ne_k g0 gca (by decide)))
                have m96 : (sI H94 h0 (X.1.2 11 14)).toInt = (sI H84 h0 (X.1.2 11 14)).toInt := congrArg Int32.toInt (up_nI U94 (ne_k g0 gca (by decide)))
                have m97 := congrArg tk m96
                have m98 : (sI H94 h0 (X.1.2 11 16)).toInt = (sI H84 h0 (X.1.2 11 16)).toInt := congrArg Int32.toInt (up_nI U94 (ne_k g0 gca (by decide)))
                have e99 := up_I U94
                have hz8 := tk_nn (sI H94 h0 (X.1.2 11 14)).toInt
                exact ret H94 locs94 _ _ dX12_readArticle_179 ⟨hKp94, ⟨by omega, by omega, by omega, by omega⟩⟩ hC94 hS94
          · refine lv_aload_n hx hb dX12_readArticle_65 rfl (lv_at hl 1 rfl) ?_
            refine q_getC E hC21 g0 fa_RX12_35 uc dX12_readArticle_66 ?_
            refine lv_sipush (v := 2098) hx hb dX12_readArticle_69 rfl ?_
            refine lv_iload_n hx hb dX12_readArticle_72 rfl (lv_at hl 0 rfl) ?_
            refine lv_iadd hx hb dX12_readArticle_73 (lv_topi (fun v100 ev100 => ?_))
            have ev100i : v100.toInt = (2098 + 3) := i_add ev100 (by decide) (by decide) (by omega) (by omega)
            refine q_cald E hC21 (lo := -2147483648) (hi := 2147483647) gca (a := (2098 + 3)) ev100i (by omega) (by omega) (cr_n16 (by omega) (by omega)) dX12_readArticle_74 (fun v101 ev101 _ _ => ?_)
            refine lv_iconst (v := 1) hx hb dX12_readArticle_75 rfl ?_
            refine q_icmp_ne hx hb (a := v101.toInt) (b := 1) rfl (by decide) (tgt := 88) dX12_readArticle_76 rfl (fun c102 => ?_) (fun c102 => ?_)
            · refine lv_aload_n hx hb dX12_readArticle_88 rfl (lv_at hl 1 rfl) ?_
              refine lv_iconst (v := 1) hx hb dX12_readArticle_89 rfl ?_
              refine q_goV (q_runV (As := [.int 1]) (rest := []) E hC21 hS28 (m_X12_must l X Γ H21 hC21 h0 g0 1 (a1 := 1) (by decide) ca gca uc (by omega) (by omega)) cw_X12_must cl_RX12_244 g0 ⟨rfl, rfl⟩ rfl hl.1 rfl (Nat.zero_le _) (by decide) dX12_readArticle_90) hS28 (fun H103 locs103 hr103 hC103 hS103 => ?_)
              obtain ⟨hp103, hr103⟩ := hr103
              have hKp103 := hKp21.tr (hp103.mono rfl)
              obtain ⟨f103_0, f103_1, f103_2, f103_3, f103_4⟩ := hr103
              refine lv_aload_n hx hb dX12_readArticle_93 rfl (lv_at hl 1 rfl) ?_
              refine q_getI E hC103 g0 fa_RX12_218 dX12_readArticle_94 (fun v104 ev104 lv104 uv104 => ?_)
              have m105 : (sI H103 h0 (X.1.2 11 12)).toInt = v104.toInt := (congrArg Int32.toInt ev104).trans rfl
              refine q_if_ne hx hb (a := v104.toInt) rfl (tgt := 161) dX12_readArticle_97 rfl (fun c106 => ?_) (fun c106 => ?_)
              · refine lv_aload_n hx hb dX12_readArticle_161 rfl (lv_at hl 1 rfl) ?_
                refine q_getI E hC103 g0 fa_RX12_218 dX12_readArticle_162 (fun v107 ev107 lv107 uv107 => ?_)
                have qv107 := ev104.symm.trans ev107; subst qv107
                refine q_if_ne hx hb (a := v104.toInt) rfl (tgt := 179) dX12_readArticle_165 rfl (fun c108 => ?_) (fun c108 => absurd c108 (by omega))
                have hz8 := tk_nn (sI H103 h0 (X.1.2 11 14)).toInt
                exact ret H103 locs103 _ _ dX12_readArticle_179 ⟨hKp103, ⟨by omega, by omega, by omega, by omega⟩⟩ hC103 hS103
              · refine lv_iload_n hx hb dX12_readArticle_100 rfl (lv_at hl 0 rfl) ?_
                refine lv_iconst (v := 2) hx hb dX12_readArticle_101 rfl ?_
                refine q_icmp_eq hx hb (a := 3) (b := 2) (by decide) (by decide) (tgt := 161) dX12_readArticle_102 rfl (fun c109 => absurd c109 (by omega)) (fun c109 => ?_)
                refine lv_aload_n hx hb dX12_readArticle_105 rfl (lv_at hl 1 rfl) ?_
                refine lv_iload_n hx hb dX12_readArticle_106 rfl (lv_at hl 0 rfl) ?_
                refine lv_iconst (v := 1) hx hb dX12_readArticle_107 rfl ?_
                refine q_icmp_ne hx hb (a := 3) (b := 1) (by decide) (by decide) (tgt := 118) dX12_readArticle_108 rfl (fun c110 => ?_) (fun c110 => absurd c110 (by omega))
                refine lv_aload_n hx hb dX12_readArticle_118 rfl (lv_at hl 1 rfl) ?_
                refine q_goIp (q_runV (As := []) (rest := [.ref h0]) E hC103 hS103 (m_X12_isAbove l X Γ H103 hC103 h0 g0 ca gca uc) cw_X12_isAbove cl_RX12_196 g0 ⟨rfl, rfl⟩ rfl hl.1 rfl (show _ ≤ _ from by simp [Value.category]) (by decide) dX12_readArticle_119) hS103 (fun v111 locs111 hr111 hS111 => ?_)
                have b111 : v111.toInt = 0 ∨ v111.toInt = 1 := hr111.imp (fun h => by rw [h]; decide) (fun h => by rw [h]; decide)
                refine q_goV (q_runV (As := [.int v111]) (rest := []) E hC103 hS111 (m_X12_must l X Γ H103 hC103 h0 g0 v111 (a1 := v111.toInt) rfl ca gca uc (by omega) (by omega)) cw_X12_must cl_RX12_244 g0 ⟨rfl, rfl⟩ rfl hl.1 rfl (Nat.zero_le _) (by decide) dX12_readArticle_122) hS111 (fun H112 locs112 hr112 hC112 hS112 => ?_)
                obtain ⟨hp112, hr112⟩ := hr112
                have hKp112 := hKp103.tr (hp112.mono rfl)
                obtain ⟨f112_0, f112_1, f112_2, f112_3, f112_4⟩ := hr112
                refine lv_aload_n hx hb dX12_readArticle_125 rfl (lv_at hl 1 rfl) ?_
                refine q_getC E hC112 g0 fa_RX12_35 uc dX12_readArticle_126 ?_
                refine lv_sipush (v := 2102) hx hb dX12_readArticle_129 rfl ?_
                refine lv_iload_n hx hb dX12_readArticle_132 rfl (lv_at hl 0 rfl) ?_
                refine lv_iadd hx hb dX12_readArticle_133 (lv_topi (fun v113 ev113 => ?_))
                have ev113i : v113.toInt = (2102 + 3) := i_add ev113 (by decide) (by decide) (by omega) (by omega)
                refine lv_aload_n hx hb dX12_readArticle_134 rfl (lv_at hl 1 rfl) ?_
                refine lv_iconst (v := 0) hx hb dX12_readArticle_135 rfl ?_
                refine lv_iload_n hx hb dX12_readArticle_136 rfl (lv_at hl 0 rfl) ?_
                refine q_if_ne hx hb (a := 3) (by decide) (tgt := 145) dX12_readArticle_137 rfl (fun c114 => ?_) (fun c114 => absurd c114 (by omega))
                refine lv_iload_n hx hb dX12_readArticle_145 rfl (lv_at hl 0 rfl) ?_
                refine lv_iconst (v := 1) hx hb dX12_readArticle_146 rfl ?_
                refine q_icmp_ne hx hb (a := 3) (b := 1) (by decide) (by decide) (tgt := 155) dX12_readArticle_147 rfl (fun c115 => ?_) (fun c115 => absurd c115 (by omega))
                refine lv_bipush (v := 18) hx hb dX12_readArticle_155 rfl ?_
                refine q_goI (q_runV (As := [.int 0, .int 18]) (rest := [.int v113, .ref ca]) E hC112 hS112 (m_X12_count l X Γ H112 hC112 h0 g0 0 (a1 := 0) (by decide) 18 (a2 := 18) (by decide) ca gca uc (by omega) (by omega) (by omega) (by omega)) cw_X12_count cl_RX12_248 g0 ⟨rfl, rfl⟩ rfl hl.1 rfl (show _ ≤ _ from by simp [Value.category]) (by decide) dX12_readArticle_157) hS112 (fun v116 H116 locs116 hr116 hC116 hS116 => ?_)
                obtain ⟨hp116, hr116⟩ := hr116
                have hKp116 := hKp112.tr (hp116.mono rfl)
                obtain ⟨f116_0, f116_1, f116_2, f116_3, f116_4, f116_5, f116_6, f116_7⟩ := hr116
                refine q_cast E hC116 hS116 gca (a := (2102 + 3)) ev113i (by omega) (by omega) (cs_n16 (a := (2102 + 3)) (by omega) (by omega)) dX12_readArticle_160 (fun H117 locs117 hC117 hS117 U117 => ?_)
                have hKp117 := Kp.upD gca rfl rfl (fun _ => ⟨fun _ => nd4 (by omega) (by omega), fun _ => by unfold dpu; omega, fun _ => by unfold dpn; omega⟩) U117 hKp116
                have m118 : (sI H117 h0 (X.1.2 11 12)).toInt = (sI H116 h0 (X.1.2 11 12)).toInt := congrArg Int32.toInt (up_nI U117 (ne_k g0 gca (by decide)))
                have m119 : (sI H117 h0 (X.1.2 11 14)).toInt = (sI H116 h0 (X.1.2 11 14)).toInt := congrArg Int32.toInt (up_nI U117 (ne_k g0 gca (by decide)))
                have m120 := congrArg tk m119
                have m121 : (sI H117 h0 (X.1.2 11 16)).toInt = (sI H116 h0 (X.1.2 11 16)).toInt := congrArg Int32.toInt (up_nI U117 (ne_k g0 gca (by decide)))
                have e122 := up_I U117
                refine lv_aload_n hx hb dX12_readArticle_161 rfl (lv_at hl 1 rfl) ?_
                refine q_getI E hC117 g0 fa_RX12_218 dX12_readArticle_162 (fun v123 ev123 lv123 uv123 => ?_)
                have m124 : (sI H117 h0 (X.1.2 11 12)).toInt = v123.toInt := (congrArg Int32.toInt ev123).trans rfl
                refine q_if_ne hx hb (a := v123.toInt) rfl (tgt := 179) dX12_readArticle_165 rfl (fun c125 => ?_) (fun c125 => ?_)
                · have hz8 := tk_nn (sI H117 h0 (X.1.2 11 14)).toInt
                  exact ret H117 locs117 _ _ dX12_readArticle_179 ⟨hKp117, ⟨by omega, by omega, by omega, by omega⟩⟩ hC117 hS117
                · refine lv_aload_n hx hb dX12_readArticle_168 rfl (lv_at hl 1 rfl) ?_
                  refine q_getC E hC117 g0 fa_RX12_35 uc dX12_readArticle_169 ?_
                  refine lv_sipush (v := 2098) hx hb dX12_readArticle_172 rfl ?_
                  refine lv_iload_n hx hb dX12_readArticle_175 rfl (lv_at hl 0 rfl) ?_
                  refine lv_iadd hx hb dX12_readArticle_176 (lv_topi (fun v126 ev126 => ?_))
                  have ev126i : v126.toInt = (2098 + 3) := i_add ev126 (by decide) (by decide) (by omega) (by omega)
                  refine lv_iconst (v := 1) hx hb dX12_readArticle_177 rfl ?_
                  refine q_cast E hC117 hS117 gca (a := (2098 + 3)) ev126i (by omega) (by omega) (cs_n16 (a := (2098 + 3)) (by omega) (by omega)) dX12_readArticle_178 (fun H127 locs127 hC127 hS127 U127 => ?_)
                  have hKp127 := Kp.upD gca rfl rfl (fun _ => ⟨fun _ => nd4 (by omega) (by omega), fun _ => by unfold dpu; omega, fun _ => by unfold dpn; omega⟩) U127 hKp117
                  have m128 : (sI H127 h0 (X.1.2 11 12)).toInt = (sI H117 h0 (X.1.2 11 12)).toInt := congrArg Int32.toInt (up_nI U127 (ne_k g0 gca (by decide)))
                  have m129 : (sI H127 h0 (X.1.2 11 14)).toInt = (sI H117 h0 (X.1.2 11 14)).toInt := congrArg Int32.toInt (up_nI U127 (ne_k g0 gca (by decide)))
                  have m130 := congrArg tk m129
                  have m131 : (sI H127 h0 (X.1.2 11 16)).toInt = (sI H117 h0 (X.1.2 11 16)).toInt := congrArg Int32.toInt (up_nI U127 (ne_k g0 gca (by decide)))
                  have e132 := up_I U127
                  have hz8 := tk_nn (sI H127 h0 (X.1.2 11 14)).toInt
                  exact ret H127 locs127 _ _ dX12_readArticle_179 ⟨hKp127, ⟨by omega, by omega, by omega, by omega⟩⟩ hC127 hS127
            · refine lv_aload_n hx hb dX12_readArticle_79 rfl (lv_at hl 1 rfl) ?_
              refine lv_iconst (v := 5) hx hb dX12_readArticle_80 rfl ?_
              refine lv_aload_n hx hb dX12_readArticle_81 rfl (lv_at hl 1 rfl) ?_
              refine q_getI E hC21 g0 fa_RX12_114 dX12_readArticle_82 (fun v133 ev133 lv133 uv133 => ?_)
              refine q_goV (q_runV (As := [.int 5, .int v133]) (rest := []) E hC21 hS28 (m_X12_fail l X Γ H21 hC21 h0 g0 5 (a1 := 5) (by decide) v133 (a2 := v133.toInt) rfl ca gca uc (by omega) (by omega)) cw_X12_fail cl_RX12_224 g0 ⟨rfl, rfl⟩ rfl hl.1 rfl (Nat.zero_le _) (by decide) dX12_readArticle_85) hS28 (fun H134 locs134 hr134 hC134 hS134 => ?_)
              obtain ⟨hp134, hr134⟩ := hr134
              have hKp134 := hKp21.tr (hp134.mono rfl)
              obtain ⟨f134_0, f134_1, f134_2, f134_3⟩ := hr134
              refine lv_aload_n hx hb dX12_readArticle_88 rfl (lv_at hl 1 rfl) ?_
              refine lv_iconst (v := 1) hx hb dX12_readArticle_89 rfl ?_
              refine q_goV (q_runV (As := [.int 1]) (rest := []) E hC134 hS134 (m_X12_must l X Γ H134 hC134 h0 g0 1 (a1 := 1) (by decide) ca gca uc (by omega) (by omega)) cw_X12_must cl_RX12_244 g0 ⟨rfl, rfl⟩ rfl hl.1 rfl (Nat.zero_le _) (by decide) dX12_readArticle_90) hS134 (fun H135 locs135 hr135 hC135 hS135 => ?_)
              obtain ⟨hp135, hr135⟩ := hr135
              have hKp135 := hKp134.tr (hp135.mono rfl)
              obtain ⟨f135_0, f135_1, f135_2, f135_3, f135_4⟩ := hr135
              refine lv_aload_n hx hb dX12_readArticle_93 rfl (lv_at hl 1 rfl) ?_
              refine q_getI E hC135 g0 fa_RX12_218 dX12_readArticle_94 (fun v136 ev136 lv136 uv136 => ?_)
              have m137 : (sI H135 h0 (X.1.2 11 12)).toInt = v136.toInt := (congrArg Int32.toInt ev136).trans rfl
              refine q_if_ne hx hb (a := v136.toInt) rfl (tgt := 161) dX12_readArticle_97 rfl (fun c138 => ?_) (fun c138 => ?_)
              · refine lv_aload_n hx hb dX12_readArticle_161 rfl (lv_at hl 1 rfl) ?_
                refine q_getI E hC135 g0 fa_RX12_218 dX12_readArticle_162 (fun v139 ev139 lv139 uv139 => ?_)
                have qv139 := ev136.symm.trans ev139; subst qv139
                refine q_if_ne hx hb (a := v136.toInt) rfl (tgt := 179) dX12_readArticle_165 rfl (fun c140 => ?_) (fun c140 => absurd c140 (by omega))
                have hz8 := tk_nn (sI H135 h0 (X.1.2 11 14)).toInt
                exact ret H135 locs135 _ _ dX12_readArticle_179 ⟨hKp135, ⟨by omega, by omega, by omega, by omega⟩⟩ hC135 hS135
              · refine lv_iload_n hx hb dX12_readArticle_100 rfl (lv_at hl 0 rfl) ?_
                refine lv_iconst (v := 2) hx hb dX12_readArticle_101 rfl ?_
                refine q_icmp_eq hx hb (a := 3) (b := 2) (by decide) (by decide) (tgt := 161) dX12_readArticle_102 rfl (fun c141 => absurd c141 (by omega)) (fun c141 => ?_)
                refine lv_aload_n hx hb dX12_readArticle_105 rfl (lv_at hl 1 rfl) ?_
                refine lv_iload_n hx hb dX12_readArticle_106 rfl (lv_at hl 0 rfl) ?_
                refine lv_iconst (v := 1) hx hb dX12_readArticle_107 rfl ?_
                refine q_icmp_ne hx hb (a := 3) (b := 1) (by decide) (by decide) (tgt := 118) dX12_readArticle_108 rfl (fun c142 => ?_) (fun c142 => absurd c142 (by omega))
                refine lv_aload_n hx hb dX12_readArticle_118 rfl (lv_at hl 1 rfl) ?_
                refine q_goIp (q_runV (As := []) (rest := [.ref h0]) E hC135 hS135 (m_X12_isAbove l X Γ H135 hC135 h0 g0 ca gca uc) cw_X12_isAbove cl_RX12_196 g0 ⟨rfl, rfl⟩ rfl hl.1 rfl (show _ ≤ _ from by simp [Value.category]) (by decide) dX12_readArticle_119) hS135 (fun v143 locs143 hr143 hS143 => ?_)
                have b143 : v143.toInt = 0 ∨ v143.toInt = 1 := hr143.imp (fun h => by rw [h]; decide) (fun h => by rw [h]; decide)
                refine q_goV (q_runV (As := [.int v143]) (rest := []) E hC135 hS143 (m_X12_must l X Γ H135 hC135 h0 g0 v143 (a1 := v143.toInt) rfl ca gca uc (by omega) (by omega)) cw_X12_must cl_RX12_244 g0 ⟨rfl, rfl⟩ rfl hl.1 rfl (Nat.zero_le _) (by decide) dX12_readArticle_122) hS143 (fun H144 locs144 hr144 hC144 hS144 => ?_)
                obtain ⟨hp144, hr144⟩ := hr144
                have hKp144 := hKp135.tr (hp144.mono rfl)
                obtain ⟨f144_0, f144_1, f144_2, f144_3, f144_4⟩ := hr144
                refine lv_aload_n hx hb dX12_readArticle_125 rfl (lv_at hl 1 rfl) ?_
                refine q_getC E hC144 g0 fa_RX12_35 uc dX12_readArticle_126 ?_
                refine lv_sipush (v := 2102) hx hb dX12_readArticle_129 rfl ?_
                refine lv_iload_n hx hb dX12_readArticle_132 rfl (lv_at hl 0 rfl) ?_
                refine lv_iadd hx hb dX12_readArticle_133 (lv_topi (fun v145 ev145 => ?_))
                have ev145i : v145.toInt = (2102 + 3) := i_add ev145 (by decide) (by decide) (by omega) (by omega)
                refine lv_aload_n hx hb dX12_readArticle_134 rfl (lv_at hl 1 rfl) ?_
                refine lv_iconst (v := 0) hx hb dX12_readArticle_135 rfl ?_
                refine lv_iload_n hx hb dX12_readArticle_136 rfl (lv_at hl 0 rfl) ?_
                refine q_if_ne hx hb (a := 3) (by decide) (tgt := 145) dX12_readArticle_137 rfl (fun c146 => ?_) (fun c146 => absurd c146 (by omega))
                refine lv_iload_n hx hb dX12_readArticle_145 rfl (lv_at hl 0 rfl) ?_
                refine lv_iconst (v := 1) hx hb dX12_readArticle_146 rfl ?_
                refine q_icmp_ne hx hb (a := 3) (b := 1) (by decide) (by decide) (tgt := 155) dX12_readArticle_147 rfl (fun c147 => ?_) (fun c147 => absurd c147 (by omega))
                refine lv_bipush (v := 18) hx hb dX12_readArticle_155 rfl ?_
                refine q_goI (q_runV (As := [.int 0, .int 18]) (rest := [.int v145, .ref ca]) E hC144 hS144 (m_X12_count l X Γ H144 hC144 h0 g0 0 (a1 := 0) (by decide) 18 (a2 := 18) (by decide) ca gca uc (by omega) (by omega) (by omega) (by omega)) cw_X12_count cl_RX12_248 g0 ⟨rfl, rfl⟩ rfl hl.1 rfl (show _ ≤ _ from by simp [Value.category]) (by decide) dX12_readArticle_157) hS144 (fun v148 H148 locs148 hr148 hC148 hS148 => ?_)
                obtain ⟨hp148, hr148⟩ := hr148
                have hKp148 := hKp144.tr (hp148.mono rfl)
                obtain ⟨f148_0, f148_1, f148_2, f148_3, f148_4, f148_5, f148_6, f148_7⟩ := hr148
                refine q_cast E hC148 hS148 gca (a := (2102 + 3)) ev145i (by omega) (by omega) (cs_n16 (a := (2102 + 3)) (by omega) (by omega)) dX12_readArticle_160 (fun H149 locs149 hC149 hS149 U149 => ?_)
                have hKp149 := Kp.upD gca rfl rfl (fun _ => ⟨fun _ => nd4 (by omega) (by omega), fun _ => by unfold dpu; omega, fun _ => by unfold dpn; omega⟩) U149 hKp148
                have m150 : (sI H149 h0 (X.1.2 11 12)).toInt = (sI H148 h0 (X.1.2 11 12)).toInt := congrArg Int32.toInt (up_nI U149 (ne_k g0 gca (by decide)))
                have m151 : (sI H149 h0 (X.1.2 11 14)).toInt = (sI H148 h0 (X.1.2 11 14)).toInt := congrArg Int32.toInt (up_nI U149 (ne_k g0 gca (by decide)))
                have m152 := congrArg tk m151
                have m153 : (sI H149 h0 (X.1.2 11 16)).toInt = (sI H148 h0 (X.1.2 11 16)).toInt := congrArg Int32.toInt (up_nI U149 (ne_k g0 gca (by decide)))
                have e154 := up_I U149
                refine lv_aload_n hx hb dX12_readArticle_161 rfl (lv_at hl 1 rfl) ?_
                refine q_getI E hC149 g0 fa_RX12_218 dX12_readArticle_162 (fun v155 ev155 lv155 uv155 => ?_)
                have m156 : (sI H149 h0 (X.1.2 11 12)).toInt = v155.toInt := (congrArg Int32.toInt ev155).trans rfl
                refine q_if_ne hx hb (a := v155.toInt) rfl (tgt := 179) dX12_readArticle_165 rfl (fun c157 => ?_) (fun c157 => ?_)
                · have hz8 := tk_nn (sI H149 h0 (X.1.2 11 14)).toInt
                  exact ret H149 locs149 _ _ dX12_readArticle_179 ⟨hKp149, ⟨by omega, by omega, by omega, by omega⟩⟩ hC149 hS149
                · refine lv_aload_n hx hb dX12_readArticle_168 rfl (lv_at hl 1 rfl) ?_
                  refine q_getC E hC149 g0 fa_RX12_35 uc dX12_readArticle_169 ?_
                  refine lv_sipush (v := 2098) hx hb dX12_readArticle_172 rfl ?_
                  refine lv_iload_n hx hb dX12_readArticle_175 rfl (lv_at hl 0 rfl) ?_
                  refine lv_iadd hx hb dX12_readArticle_176 (lv_topi (fun v158 ev158 => ?_))
                  have ev158i : v158.toInt = (2098 + 3) := i_add ev158 (by decide) (by decide) (by omega) (by omega)
                  refine lv_iconst (v := 1) hx hb dX12_readArticle_177 rfl ?_
                  refine q_cast E hC149 hS149 gca (a := (2098 + 3)) ev158i (by omega) (by omega) (cs_n16 (a := (2098 + 3)) (by omega) (by omega)) dX12_readArticle_178 (fun H159 locs159 hC159 hS159 U159 => ?_)
                  have hKp159 := Kp.upD gca rfl rfl (fun _ => ⟨fun _ => nd4 (by omega) (by omega), fun _ => by unfold dpu; omega, fun _ => by unfold dpn; omega⟩) U159 hKp149
                  have m160 : (sI H159 h0 (X.1.2 11 12)).toInt = (sI H149 h0 (X.1.2 11 12)).toInt := congrArg Int32.toInt (up_nI U159 (ne_k g0 gca (by decide)))
                  have m161 : (sI H159 h0 (X.1.2 11 14)).toInt = (sI H149 h0 (X.1.2 11 14)).toInt := congrArg Int32.toInt (up_nI U159 (ne_k g0 gca (by decide)))
                  have m162 := congrArg tk m161
                  have m163 : (sI H159 h0 (X.1.2 11 16)).toInt = (sI H149 h0 (X.1.2 11 16)).toInt := congrArg Int32.toInt (up_nI U159 (ne_k g0 gca (by decide)))
                  have e164 := up_I U159
                  have hz8 := tk_nn (sI H159 h0 (X.1.2 11 14)).toInt
                  exact ret H159 locs159 _ _ dX12_readArticle_179 ⟨hKp159, ⟨by omega, by omega, by omega, by omega⟩⟩ hC159 hS159
      · refine q_if_eq hx hb (a := 1) (by decide) (tgt := 37) dX12_readArticle_30 rfl (fun c165 => absurd c165 (by omega)) (fun c165 => ?_)
        refine lv_iconst (v := 2) hx hb dX12_readArticle_33 rfl ?_
        refine lv_goto (tgt := 49) hx hb dX12_readArticle_34 rfl ?_
        refine lv_istore_n hx hb dX12_readArticle_49 rfl hl (by decide) rfl (fun ls hl => ?_)
        replace hl : lv_has ls 2 [(1, .int 2), (0, .ref h0)] := hl
        refine lv_iload_n hx hb dX12_readArticle_50 rfl (lv_at hl 0 rfl) ?_
        refine q_if_ge hx hb (a := 2) (by decide) (tgt := 58) dX12_readArticle_51 rfl (fun c166 => ?_) (fun c166 => absurd c166 (by omega))
        refine lv_aload_n hx hb dX12_readArticle_58 rfl (lv_at hl 1 rfl) ?_
        refine q_getI E hC21 g0 fa_RX12_218 dX12_readArticle_59 (fun v167 ev167 lv167 uv167 => ?_)
        have m168 : (sI H21 h0 (X.1.2 11 12)).toInt = v167.toInt := (congrArg Int32.toInt ev167).trans rfl
        refine q_if_ne hx hb (a := v167.toInt) rfl (tgt := 88) dX12_readArticle_62 rfl (fun c169 => ?_) (fun c169 => ?_)
        · refine lv_aload_n hx hb dX12_readArticle_88 rfl (lv_at hl 1 rfl) ?_
          refine lv_iconst (v := 1) hx hb dX12_readArticle_89 rfl ?_
          refine q_goV (q_runV (As := [.int 1]) (rest := []) E hC21 hS26 (m_X12_must l X Γ H21 hC21 h0 g0 1 (a1 := 1) (by decide) ca gca uc (by omega) (by omega)) cw_X12_must cl_RX12_244 g0 ⟨rfl, rfl⟩ rfl hl.1 rfl (Nat.zero_le _) (by decide) dX12_readArticle_90) hS26 (fun H170 locs170 hr170 hC170 hS170 => ?_)
          obtain ⟨hp170, hr170⟩ := hr170
          have hKp170 := hKp21.tr (hp170.mono rfl)
          obtain ⟨f170_0, f170_1, f170_2, f170_3, f170_4⟩ := hr170
          refine lv_aload_n hx hb dX12_readArticle_93 rfl (lv_at hl 1 rfl) ?_
          refine q_getI E hC170 g0 fa_RX12_218 dX12_readArticle_94 (fun v171 ev171 lv171 uv171 => ?_)
          have m172 : (sI H170 h0 (X.1.2 11 12)).toInt = v171.toInt := (congrArg Int32.toInt ev171).trans rfl
          refine q_if_ne hx hb (a := v171.toInt) rfl (tgt := 161) dX12_readArticle_97 rfl (fun c173 => ?_) (fun c173 => ?_)
          · refine lv_aload_n hx hb dX12_readArticle_161 rfl (lv_at hl 1 rfl) ?_
            refine q_getI E hC170 g0 fa_RX12_218 dX12_readArticle_162 (fun v174 ev174 lv174 uv174 => ?_)
            have qv174 := ev171.symm.trans ev174; subst qv174
            refine q_if_ne hx hb (a := v171.toInt) rfl (tgt := 179) dX12_readArticle_165 rfl (fun c175 => ?_) (fun c175 => absurd c175 (by omega))
            have hz8 := tk_nn (sI H170 h0 (X.1.2 11 14)).toInt
            exact ret H170 locs170 _ _ dX12_readArticle_179 ⟨hKp170, ⟨by omega, by omega, by omega, by omega⟩⟩ hC170 hS170
          · refine lv_iload_n hx hb dX12_readArticle_100 rfl (lv_at hl 0 rfl) ?_
            refine lv_iconst (v := 2) hx hb dX12_readArticle_101 rfl ?_
            refine q_icmp_eq hx hb (a := 2) (b := 2) (by decide) (by decide) (tgt := 161) dX12_readArticle_102 rfl (fun c176 => ?_) (fun c176 => absurd c176 (by omega))
            refine lv_aload_n hx hb dX12_readArticle_161 rfl (lv_at hl 1 rfl) ?_
            refine q_getI E hC170 g0 fa_RX12_218 dX12_readArticle_162 (fun v177 ev177 lv177 uv177 => ?_)
            have qv177 := ev171.symm.trans ev177; subst qv177
            refine q_if_ne hx hb (a := v171.toInt) rfl (tgt := 179) dX12_readArticle_165 rfl (fun c178 => absurd c178 (by omega)) (fun c178 => ?_)
            refine lv_aload_n hx hb dX12_readArticle_168 rfl (lv_at hl 1 rfl) ?_
            refine q_getC E hC170 g0 fa_RX12_35 uc dX12_readArticle_169 ?_
            refine lv_sipush (v := 2098) hx hb dX12_readArticle_172 rfl ?_
            refine lv_iload_n hx hb dX12_readArticle_175 rfl (lv_at hl 0 rfl) ?_
            refine lv_iadd hx hb dX12_readArticle_176 (lv_topi (fun v179 ev179 => ?_))
            have ev179i : v179.toInt = (2098 + 2) := i_add ev179 (by decide) (by decide) (by omega) (by omega)
            refine lv_iconst (v := 1) hx hb dX12_readArticle_177 rfl ?_
            refine q_cast E hC170 hS170 gca (a := (2098 + 2)) ev179i (by omega) (by omega) (cs_n16 (a := (2098 + 2)) (by omega) (by omega)) dX12_readArticle_178 (fun H180 locs180 hC180 hS180 U180 => ?_)
            have hKp180 := Kp.upD gca rfl rfl (fun _ => ⟨fun _ => nd4 (by omega) (by omega), fun _ => by unfold dpu; omega, fun _ => by unfold dpn; omega⟩) U180 hKp170
            have m181 : (sI H180 h0 (X.1.2 11 12)).toInt = (sI H170 h0 (X.1.2 11 12)).toInt := congrArg Int32.toInt (up_nI U180 (ne_k g0 gca (by decide)))
            have m182 : (sI H180 h0 (X.1.2 11 14)).toInt = (sI H170 h0 (X.1.2 11 14)).toInt := congrArg Int32.toInt (up_nI U180 (ne_k g0 gca (by decide)))
            have m183 := congrArg tk m182
            have m184 : (sI H180 h0 (X.1.2 11 16)).toInt = (sI H170 h0 (X.1.2 11 16)).toInt := congrArg Int32.toInt (up_nI U180 (ne_k g0 gca (by decide)))
            have e185 := up_I U180
            have hz8 := tk_nn (sI H180 h0 (X.1.2 11 14)).toInt
            exact ret H180 locs180 _ _ dX12_readArticle_179 ⟨hKp180, ⟨by omega, by omega, by omega, by omega⟩⟩ hC180 hS180
        · refine lv_aload_n hx hb dX12_readArticle_65 rfl (lv_at hl 1 rfl) ?_
          refine q_getC E hC21 g0 fa_RX12_35 uc dX12_readArticle_66 ?_
          refine lv_sipush (v := 2098) hx hb dX12_readArticle_69 rfl ?_
          refine lv_iload_n hx hb dX12_readArticle_72 rfl (lv_at hl 0 rfl) ?_
          refine lv_iadd hx hb dX12_readArticle_73 (lv_topi (fun v186 ev186 => ?_))
          have ev186i : v186.toInt = (2098 + 2) := i_add ev186 (by decide) (by decide) (by omega) (by omega)
          refine q_cald E hC21 (lo := -2147483648) (hi := 2147483647) gca (a := (2098 + 2)) ev186i (by omega) (by omega) (cr_n16 (by omega) (by omega)) dX12_readArticle_74 (fun v187 ev187 _ _ => ?_)
          refine lv_iconst (v := 1) hx hb dX12_readArticle_75 rfl ?_
          refine q_icmp_ne hx hb (a := v187.toInt) (b := 1) rfl (by decide) (tgt := 88) dX12_readArticle_76 rfl (fun c188 => ?_) (fun c188 => ?_)
          · refine lv_aload_n hx hb dX12_readArticle_88 rfl (lv_at hl 1 rfl) ?_
            refine lv_iconst (v := 1) hx hb dX12_readArticle_89 rfl ?_
            refine q_goV (q_runV (As := [.int 1]) (rest := []) E hC21 hS26 (m_X12_must l X Γ H21 hC21 h0 g0 1 (a1 := 1) (by decide) ca gca uc (by omega) (by omega)) cw_X12_must cl_RX12_244 g0 ⟨rfl, rfl⟩ rfl hl.1 rfl (Nat.zero_le _) (by decide) dX12_readArticle_90) hS26 (fun H189 locs189 hr189 hC189 hS189 => ?_)
            obtain ⟨hp189, hr189⟩ := hr189
            have hKp189 := hKp21.tr (hp189.mono rfl)
            obtain ⟨f189_0, f189_1, f189_2, f189_3, f189_4⟩ := hr189
            refine lv_aload_n hx hb dX12_readArticle_93 rfl (lv_at hl 1 rfl) ?_
            refine q_getI E hC189 g0 fa_RX12_218 dX12_readArticle_94 (fun v190 ev190 lv190 uv190 => ?_)
            have m191 : (sI H189 h0 (X.1.2 11 12)).toInt = v190.toInt := (congrArg Int32.toInt ev190).trans rfl
            refine q_if_ne hx hb (a := v190.toInt) rfl (tgt := 161) dX12_readArticle_97 rfl (fun c192 => ?_) (fun c192 => ?_)
            · refine lv_aload_n hx hb dX12_readArticle_161 rfl (lv_at hl 1 rfl) ?_
              refine q_getI E hC189 g0 fa_RX12_218 dX12_readArticle_162 (fun v193 ev193 lv193 uv193 => ?_)
              have qv193 := ev190.symm.trans ev193; subst qv193
              refine q_if_ne hx hb (a := v190.toInt) rfl (tgt := 179) dX12_readArticle_165 rfl (fun c194 => ?_) (fun c194 => absurd c194 (by omega))
              have hz8 := tk_nn (sI H189 h0 (X.1.2 11 14)).toInt
              exact ret H189 locs189 _ _ dX12_readArticle_179 ⟨hKp189, ⟨by omega, by omega, by omega, by omega⟩⟩ hC189 hS189
            · refine lv_iload_n hx hb dX12_readArticle_100 rfl (lv_at hl 0 rfl) ?_
              refine lv_iconst (v := 2) hx hb dX12_readArticle_101 rfl ?_
              refine q_icmp_eq hx hb (a := 2) (b := 2) (by decide) (by decide) (tgt := 161) dX12_readArticle_102 rfl (fun c195 => ?_) (fun c195 => absurd c195 (by omega))
              refine lv_aload_n hx hb dX12_readArticle_161 rfl (lv_at hl 1 rfl) ?_
              refine q_getI E hC189 g0 fa_RX12_218 dX12_readArticle_162 (fun v196 ev196 lv196 uv196 => ?_)
              have qv196 := ev190.symm.trans ev196; subst qv196
              refine q_if_ne hx hb (a := v190.toInt) rfl (tgt := 179) dX12_readArticle_165 rfl (fun c197 => absurd c197 (by omega)) (fun c197 => ?_)
              refine lv_aload_n hx hb dX12_readArticle_168 rfl (lv_at hl 1 rfl) ?_
              refine q_getC E hC189 g0 fa_RX12_35 uc dX12_readArticle_169 ?_
              refine lv_sipush (v := 2098) hx hb dX12_readArticle_172 rfl ?_
              refine lv_iload_n hx hb dX12_readArticle_175 rfl (lv_at hl 0 rfl) ?_
              refine lv_iadd hx hb dX12_readArticle_176 (lv_topi (fun v198 ev198 => ?_))
              have ev198i : v198.toInt = (2098 + 2) := i_add ev198 (by decide) (by decide) (by omega) (by omega)
              refine lv_iconst (v := 1) hx hb dX12_readArticle_177 rfl ?_
              refine q_cast E hC189 hS189 gca (a := (2098 + 2)) ev198i (by omega) (by omega) (cs_n16 (a := (2098 + 2)) (by omega) (by omega)) dX12_readArticle_178 (fun H199 locs199 hC199 hS199 U199 => ?_)
              have hKp199 := Kp.upD gca rfl rfl (fun _ => ⟨fun _ => nd4 (by omega) (by omega), fun _ => by unfold dpu; omega, fun _ => by unfold dpn; omega⟩) U199 hKp189
              have m200 : (sI H199 h0 (X.1.2 11 12)).toInt = (sI H189 h0 (X.1.2 11 12)).toInt := congrArg Int32.toInt (up_nI U199 (ne_k g0 gca (by decide)))
              have m201 : (sI H199 h0 (X.1.2 11 14)).toInt = (sI H189 h0 (X.1.2 11 14)).toInt := congrArg Int32.toInt (up_nI U199 (ne_k g0 gca (by decide)))
              have m202 := congrArg tk m201
              have m203 : (sI H199 h0 (X.1.2 11 16)).toInt = (sI H189 h0 (X.1.2 11 16)).toInt := congrArg Int32.toInt (up_nI U199 (ne_k g0 gca (by decide)))
              have e204 := up_I U199
              have hz8 := tk_nn (sI H199 h0 (X.1.2 11 14)).toInt
              exact ret H199 locs199 _ _ dX12_readArticle_179 ⟨hKp199, ⟨by omega, by omega, by omega, by omega⟩⟩ hC199 hS199
          · refine lv_aload_n hx hb dX12_readArticle_79 rfl (lv_at hl 1 rfl) ?_
            refine lv_iconst (v := 5) hx hb dX12_readArticle_80 rfl ?_
            refine lv_aload_n hx hb dX12_readArticle_81 rfl (lv_at hl 1 rfl) ?_
            refine q_getI E hC21 g0 fa_RX12_114 dX12_readArticle_82 (fun v205 ev205 lv205 uv205 => ?_)
            refine q_goV (q_runV (As := [.int 5, .int v205]) (rest := []) E hC21 hS26 (m_X12_fail l X Γ H21 hC21 h0 g0 5 (a1 := 5) (by decide) v205 (a2 := v205.toInt) rfl ca gca uc (by omega) (by omega)) cw_X12_fail cl_RX12_224 g0 ⟨rfl, rfl⟩ rfl hl.1 rfl (Nat.zero_le _) (by decide) dX12_readArticle_85) hS26 (fun H206 locs206 hr206 hC206 hS206 => ?_)
            obtain ⟨hp206, hr206⟩ := hr206
            have hKp206 := hKp21.tr (hp206.mono rfl)
            obtain ⟨f206_0, f206_1, f206_2, f206_3⟩ := hr206
            refine lv_aload_n hx hb dX12_readArticle_88 rfl (lv_at hl 1 rfl) ?_
            refine lv_iconst (v := 1) hx hb dX12_readArticle_89 rfl ?_
            refine q_goV (q_runV (As := [.int 1]) (rest := []) E hC206 hS206 (m_X12_must l X Γ H206 hC206 h0 g0 1 (a1 := 1) (by decide) ca gca uc (by omega) (by omega)) cw_X12_must cl_RX12_244 g0 ⟨rfl, rfl⟩ rfl hl.1 rfl (Nat.zero_le _) (by decide) dX12_readArticle_90) hS206 (fun H207 locs207 hr207 hC207 hS207 => ?_)
            obtain ⟨hp207, hr207⟩ := hr207
            have hKp207 := hKp206.tr (hp207.mono rfl)
            obtain ⟨f207_0, f207_1, f207_2, f207_3, f207_4⟩ := hr207
            refine lv_aload_n hx hb dX12_readArticle_93 rfl (lv_at hl 1 rfl) ?_
            refine q_getI E hC207 g0 fa_RX12_218 dX12_readArticle_94 (fun v208 ev208 lv208 uv208 => ?_)
            have m209 : (sI H207 h0 (X.1.2 11 12)).toInt = v208.toInt := (congrArg Int32.toInt ev208).trans rfl
            refine q_if_ne hx hb (a := v208.toInt) rfl (tgt := 161) dX12_readArticle_97 rfl (fun c210 => ?_) (fun c210 => ?_)
            · refine lv_aload_n hx hb dX12_readArticle_161 rfl (lv_at hl 1 rfl) ?_
              refine q_getI E hC207 g0 fa_RX12_218 dX12_readArticle_162 (fun v211 ev211 lv211 uv211 => ?_)
              have qv211 := ev208.symm.trans ev211; subst qv211
              refine q_if_ne hx hb (a := v208.toInt) rfl (tgt := 179) dX12_readArticle_165 rfl (fun c212 => ?_) (fun c212 => absurd c212 (by omega))
              have hz8 := tk_nn (sI H207 h0 (X.1.2 11 14)).toInt
              exact ret H207 locs207 _ _ dX12_readArticle_179 ⟨hKp207, ⟨by omega, by omega, by omega, by omega⟩⟩ hC207 hS207
            · refine lv_iload_n hx hb dX12_readArticle_100 rfl (lv_at hl 0 rfl) ?_
              refine lv_iconst (v := 2) hx hb dX12_readArticle_101 rfl ?_
              refine q_icmp_eq hx hb (a := 2) (b := 2) (by decide) (by decide) (tgt := 161) dX12_readArticle_102 rfl (fun c213 => ?_) (fun c213 => absurd c213 (by omega))
              refine lv_aload_n hx hb dX12_readArticle_161 rfl (lv_at hl 1 rfl) ?_
              refine q_getI E hC207 g0 fa_RX12_218 dX12_readArticle_162 (fun v214 ev214 lv214 uv214 => ?_)
              have qv214 := ev208.symm.trans ev214; subst qv214
              refine q_if_ne hx hb (a := v208.toInt) rfl (tgt := 179) dX12_readArticle_165 rfl (fun c215 => absurd c215 (by omega)) (fun c215 => ?_)
              refine lv_aload_n hx hb dX12_readArticle_168 rfl (lv_at hl 1 rfl) ?_
              refine q_getC E hC207 g0 fa_RX12_35 uc dX12_readArticle_169 ?_
              refine lv_sipush (v := 2098) hx hb dX12_readArticle_172 rfl ?_
              refine lv_iload_n hx hb dX12_readArticle_175 rfl (lv_at hl 0 rfl) ?_
              refine lv_iadd hx hb dX12_readArticle_176 (lv_topi (fun v216 ev216 => ?_))
              have ev216i : v216.toInt = (2098 + 2) := i_add ev216 (by decide) (by decide) (by omega) (by omega)
              refine lv_iconst (v := 1) hx hb dX12_readArticle_177 rfl ?_
              refine q_cast E hC207 hS207 gca (a := (2098 + 2)) ev216i (by omega) (by omega) (cs_n16 (a := (2098 + 2)) (by omega) (by omega)) dX12_readArticle_178 (fun H217 locs217 hC217 hS217 U217 => ?_)
              have hKp217 := Kp.upD gca rfl rfl (fun _ => ⟨fun _ => nd4 (by omega) (by omega), fun _ => by unfold dpu; omega, fun _ => by unfold dpn; omega⟩) U217 hKp207
              have m218 : (sI H217 h0 (X.1.2 11 12)).toInt = (sI H207 h0 (X.1.2 11 12)).toInt := congrArg Int32.toInt (up_nI U217 (ne_k g0 gca (by decide)))
              have m219 : (sI H217 h0 (X.1.2 11 14)).toInt = (sI H207 h0 (X.1.2 11 14)).toInt := congrArg Int32.toInt (up_nI U217 (ne_k g0 gca (by decide)))
              have m220 := congrArg tk m219
              have m221 : (sI H217 h0 (X.1.2 11 16)).toInt = (sI H207 h0 (X.1.2 11 16)).toInt := congrArg Int32.toInt (up_nI U217 (ne_k g0 gca (by decide)))
              have e222 := up_I U217
              have hz8 := tk_nn (sI H217 h0 (X.1.2 11 14)).toInt
              exact ret H217 locs217 _ _ dX12_readArticle_179 ⟨hKp217, ⟨by omega, by omega, by omega, by omega⟩⟩ hC217 hS217
    · refine q_if_eq hx hb (a := 1) (by decide) (tgt := 26) dX12_readArticle_19 rfl (fun c223 => absurd c223 (by omega)) (fun c223 => ?_)
      refine lv_iconst (v := 1) hx hb dX12_readArticle_22 rfl ?_
      refine lv_goto (tgt := 49) hx hb dX12_readArticle_23 rfl ?_
      refine lv_istore_n hx hb dX12_readArticle_49 rfl hl (by decide) rfl (fun ls hl => ?_)
      replace hl : lv_has ls 2 [(1, .int 1), (0, .ref h0)] := hl
      refine lv_iload_n hx hb dX12_readArticle_50 rfl (lv_at hl 0 rfl) ?_
      refine q_if_ge hx hb (a := 1) (by decide) (tgt := 58) dX12_readArticle_51 rfl (fun c224 => ?_) (fun c224 => absurd c224 (by omega))
      refine lv_aload_n hx hb dX12_readArticle_58 rfl (lv_at hl 1 rfl) ?_
      refine q_getI E hC21 g0 fa_RX12_218 dX12_readArticle_59 (fun v225 ev225 lv225 uv225 => ?_)
      have m226 : (sI H21 h0 (X.1.2 11 12)).toInt = v225.toInt := (congrArg Int32.toInt ev225).trans rfl
      refine q_if_ne hx hb (a := v225.toInt) rfl (tgt := 88) dX12_readArticle_62 rfl (fun c227 => ?_) (fun c227 => ?_)
      · refine lv_aload_n hx hb dX12_readArticle_88 rfl (lv_at hl 1 rfl) ?_
        refine lv_iconst (v := 1) hx hb dX12_readArticle_89 rfl ?_
        refine q_goV (q_runV (As := [.int 1]) (rest := []) E hC21 hS24 (m_X12_must l X Γ H21 hC21 h0 g0 1 (a1 := 1) (by decide) ca gca uc (by omega) (by omega)) cw_X12_must cl_RX12_244 g0 ⟨rfl, rfl⟩ rfl hl.1 rfl (Nat.zero_le _) (by decide) dX12_readArticle_90) hS24 (fun H228 locs228 hr228 hC228 hS228 => ?_)
        obtain ⟨hp228, hr228⟩ := hr228
        have hKp228 := hKp21.tr (hp228.mono rfl)
        obtain ⟨f228_0, f228_1, f228_2, f228_3, f228_4⟩ := hr228
        refine lv_aload_n hx hb dX12_readArticle_93 rfl (lv_at hl 1 rfl) ?_
        refine q_getI E hC228 g0 fa_RX12_218 dX12_readArticle_94 (fun v229 ev229 lv229 uv229 => ?_)
        have m230 : (sI H228 h0 (X.1.2 11 12)).toInt = v229.toInt := (congrArg Int32.toInt ev229).trans rfl
        refine q_if_ne hx hb (a := v229.toInt) rfl (tgt := 161) dX12_readArticle_97 rfl (fun c231 => ?_) (fun c231 => ?_)
        · refine lv_aload_n hx hb dX12_readArticle_161 rfl (lv_at hl 1 rfl) ?_
          refine q_getI E hC228 g0 fa_RX12_218 dX12_readArticle_162 (fun v232 ev232 lv232 uv232 => ?_)
          have qv232 := ev229.symm.trans ev232; subst qv232
          refine q_if_ne hx hb (a := v229.toInt) rfl (tgt := 179) dX12_readArticle_165 rfl (fun c233 => ?_) (fun c233 => absurd c233 (by omega))
          have hz8 := tk_nn (sI H228 h0 (X.1.2 11 14)).toInt
          exact ret H228 locs228 _ _ dX12_readArticle_179 ⟨hKp228, ⟨by omega, by omega, by omega, by omega⟩⟩ hC228 hS228
        · refine lv_iload_n hx hb dX12_readArticle_100 rfl (lv_at hl 0 rfl) ?_
          refine lv_iconst (v := 2) hx hb dX12_readArticle_101 rfl ?_
          refine q_icmp_eq hx hb (a := 1) (b := 2) (by decide) (by decide) (tgt := 161) dX12_readArticle_102 rfl (fun c234 => absurd c234 (by omega)) (fun c234 => ?_)
          refine lv_aload_n hx hb dX12_readArticle_105 rfl (lv_at hl 1 rfl) ?_
          refine lv_iload_n hx hb dX12_readArticle_106 rfl (lv_at hl 0 rfl) ?_
          refine lv_iconst (v := 1) hx hb dX12_readArticle_107 rfl ?_
          refine q_icmp_ne hx hb (a := 1) (b := 1) (by decide) (by decide) (tgt := 118) dX12_readArticle_108 rfl (fun c235 => absurd c235 (by omega)) (fun c235 => ?_)
          refine lv_aload_n hx hb dX12_readArticle_111 rfl (lv_at hl 1 rfl) ?_
          refine q_goIp (q_runV (As := []) (rest := [.ref h0]) E hC228 hS228 (m_X12_isBehind l X Γ H228 hC228 h0 g0 ca gca uc) cw_X12_isBehind cl_RX12_199 g0 ⟨rfl, rfl⟩ rfl hl.1 rfl (show _ ≤ _ from by simp [Value.category]) (by decide) dX12_readArticle_112) hS228 (fun v236 locs236 hr236 hS236 => ?_)
          rcases hr236 with rfl | rfl
          · refine lv_goto (tgt := 122) hx hb dX12_readArticle_115 rfl ?_
            refine q_goV (q_runV (As := [.int 0]) (rest := []) E hC228 hS236 (m_X12_must l X Γ H228 hC228 h0 g0 0 (a1 := 0) (by decide) ca gca uc (by omega) (by omega)) cw_X12_must cl_RX12_244 g0 ⟨rfl, rfl⟩ rfl hl.1 rfl (Nat.zero_le _) (by decide) dX12_readArticle_122) hS236 (fun H237 locs237 hr237 hC237 hS237 => ?_)
            obtain ⟨hp237, hr237⟩ := hr237
            have hKp237 := hKp228.tr (hp237.mono rfl)
            obtain ⟨f237_0, f237_1, f237_2, f237_3, f237_4⟩ := hr237
            refine lv_aload_n hx hb dX12_readArticle_125 rfl (lv_at hl 1 rfl) ?_
            refine q_getC E hC237 g0 fa_RX12_35 uc dX12_readArticle_126 ?_
            refine lv_sipush (v := 2102) hx hb dX12_readArticle_129 rfl ?_
            refine lv_iload_n hx hb dX12_readArticle_132 rfl (lv_at hl 0 rfl) ?_
            refine lv_iadd hx hb dX12_readArticle_133 (lv_topi (fun v238 ev238 => ?_))
            have ev238i : v238.toInt = (2102 + 1) := i_add ev238 (by decide) (by decide) (by omega) (by omega)
            refine lv_aload_n hx hb dX12_readArticle_134 rfl (lv_at hl 1 rfl) ?_
            refine lv_iconst (v := 0) hx hb dX12_readArticle_135 rfl ?_
            refine lv_iload_n hx hb dX12_readArticle_136 rfl (lv_at hl 0 rfl) ?_
            refine q_if_ne hx hb (a := 1) (by decide) (tgt := 145) dX12_readArticle_137 rfl (fun c239 => ?_) (fun c239 => absurd c239 (by omega))
            refine lv_iload_n hx hb dX12_readArticle_145 rfl (lv_at hl 0 rfl) ?_
            refine lv_iconst (v := 1) hx hb dX12_readArticle_146 rfl ?_
            refine q_icmp_ne hx hb (a := 1) (b := 1) (by decide) (by decide) (tgt := 155) dX12_readArticle_147 rfl (fun c240 => absurd c240 (by omega)) (fun c240 => ?_)
            refine lv_bipush (v := 40) hx hb dX12_readArticle_150 rfl ?_
            refine lv_goto (tgt := 157) hx hb dX12_readArticle_152 rfl ?_
            refine q_goI (q_runV (As := [.int 0, .int 40]) (rest := [.int v238, .ref ca]) E hC237 hS237 (m_X12_count l X Γ H237 hC237 h0 g0 0 (a1 := 0) (by decide) 40 (a2 := 40) (by decide) ca gca uc (by omega) (by omega) (by omega) (by omega)) cw_X12_count cl_RX12_248 g0 ⟨rfl, rfl⟩ rfl hl.1 rfl (show _ ≤ _ from by simp [Value.category]) (by decide) dX12_readArticle_157) hS237 (fun v241 H241 locs241 hr241 hC241 hS241 => ?_)
            obtain ⟨hp241, hr241⟩ := hr241
            have hKp241 := hKp237.tr (hp241.mono rfl)
            obtain ⟨f241_0, f241_1, f241_2, f241_3, f241_4, f241_5, f241_6, f241_7⟩ := hr241
            refine q_cast E hC241 hS241 gca (a := (2102 + 1)) ev238i (by omega) (by omega) (cs_n16 (a := (2102 + 1)) (by omega) (by omega)) dX12_readArticle_160 (fun H242 locs242 hC242 hS242 U242 => ?_)
            have hKp242 := Kp.upD gca rfl rfl (fun _ => ⟨fun _ => nd4 (by omega) (by omega), fun _ => by unfold dpu; omega, fun _ => by unfold dpn; omega⟩) U242 hKp241
            have m243 : (sI H242 h0 (X.1.2 11 12)).toInt = (sI H241 h0 (X.1.2 11 12)).toInt := congrArg Int32.toInt (up_nI U242 (ne_k g0 gca (by decide)))
            have m244 : (sI H242 h0 (X.1.2 11 14)).toInt = (sI H241 h0 (X.1.2 11 14)).toInt := congrArg Int32.toInt (up_nI U242 (ne_k g0 gca (by decide)))
            have m245 := congrArg tk m244
            have m246 : (sI H242 h0 (X.1.2 11 16)).toInt = (sI H241 h0 (X.1.2 11 16)).toInt := congrArg Int32.toInt (up_nI U242 (ne_k g0 gca (by decide)))
            have e247 := up_I U242
            refine lv_aload_n hx hb dX12_readArticle_161 rfl (lv_at hl 1 rfl) ?_
            refine q_getI E hC242 g0 fa_RX12_218 dX12_readArticle_162 (fun v248 ev248 lv248 uv248 => ?_)
            have m249 : (sI H242 h0 (X.1.2 11 12)).toInt = v248.toInt := (congrArg Int32.toInt ev248).trans rfl
            refine q_if_ne hx hb (a := v248.toInt) rfl (tgt := 179) dX12_readArticle_165 rfl (fun c250 => ?_) (fun c250 => ?_)
            · have hz8 := tk_nn (sI H242 h0 (X.1.2 11 14)).toInt
              exact ret H242 locs242 _ _ dX12_readArticle_179 ⟨hKp242, ⟨by omega, by omega, by omega, by omega⟩⟩ hC242 hS242
            · refine lv_aload_n hx hb dX12_readArticle_168 rfl (lv_at hl 1 rfl) ?_
              refine q_getC E hC242 g0 fa_RX12_35 uc dX12_readArticle_169 ?_
              refine lv_sipush (v := 2098) hx hb dX12_readArticle_172 rfl ?_
              refine lv_iload_n hx hb dX12_readArticle_175 rfl (lv_at hl 0 rfl) ?_
              refine lv_iadd hx hb dX12_readArticle_176 (lv_topi (fun v251 ev251 => ?_))
              have ev251i : v251.toInt = (2098 + 1) := i_add ev251 (by decide) (by decide) (by omega) (by omega)
              refine lv_iconst (v := 1) hx hb dX12_readArticle_177 rfl ?_
              refine q_cast E hC242 hS242 gca (a := (2098 + 1)) ev251i (by omega) (by omega) (cs_n16 (a := (2098 + 1)) (by omega) (by omega)) dX12_readArticle_178 (fun H252 locs252 hC252 hS252 U252 => ?_)
              have hKp252 := Kp.upD gca rfl rfl (fun _ => ⟨fun _ => nd4 (by omega) (by omega), fun _ => by unfold dpu; omega, fun _ => by unfold dpn; omega⟩) U252 hKp242
              have m253 : (sI H252 h0 (X.1.2 11 12)).toInt = (sI H242 h0 (X.1.2 11 12)).toInt := congrArg Int32.toInt (up_nI U252 (ne_k g0 gca (by decide)))
              have m254 : (sI H252 h0 (X.1.2 11 14)).toInt = (sI H242 h0 (X.1.2 11 14)).toInt := congrArg Int32.toInt (up_nI U252 (ne_k g0 gca (by decide)))
              have m255 := congrArg tk m254
              have m256 : (sI H252 h0 (X.1.2 11 16)).toInt = (sI H242 h0 (X.1.2 11 16)).toInt := congrArg Int32.toInt (up_nI U252 (ne_k g0 gca (by decide)))
              have e257 := up_I U252
              have hz8 := tk_nn (sI H252 h0 (X.1.2 11 14)).toInt
              exact ret H252 locs252 _ _ dX12_readArticle_179 ⟨hKp252, ⟨by omega, by omega, by omega, by omega⟩⟩ hC252 hS252
          · refine lv_goto (tgt := 122) hx hb dX12_readArticle_115 rfl ?_
            refine q_goV (q_runV (As := [.int 1]) (rest := []) E hC228 hS236 (m_X12_must l X Γ H228 hC228 h0 g0 1 (a1 := 1) (by decide) ca gca uc (by omega) (by omega)) cw_X12_must cl_RX12_244 g0 ⟨rfl, rfl⟩ rfl hl.1 rfl (Nat.zero_le _) (by decide) dX12_readArticle_122) hS236 (fun H258 locs258 hr258 hC258 hS258 => ?_)
            obtain ⟨hp258, hr258⟩ := hr258
            have hKp258 := hKp228.tr (hp258.mono rfl)
            obtain ⟨f258_0, f258_1, f258_2, f258_3, f258_4⟩ := hr258
            refine lv_aload_n hx hb dX12_readArticle_125 rfl (lv_at hl 1 rfl) ?_
            refine q_getC E hC258 g0 fa_RX12_35 uc dX12_readArticle_126 ?_
            refine lv_sipush (v := 2102) hx hb dX12_readArticle_129 rfl ?_
            refine lv_iload_n hx hb dX12_readArticle_132 rfl (lv_at hl 0 rfl) ?_
            refine lv_iadd hx hb dX12_readArticle_133 (lv_topi (fun v259 ev259 => ?_))
            have ev259i : v259.toInt = (2102 + 1) := i_add ev259 (by decide) (by decide) (by omega) (by omega)
            refine lv_aload_n hx hb dX12_readArticle_134 rfl (lv_at hl 1 rfl) ?_
            refine lv_iconst (v := 0) hx hb dX12_readArticle_135 rfl ?_
            refine lv_iload_n hx hb dX12_readArticle_136 rfl (lv_at hl 0 rfl) ?_
            refine q_if_ne hx hb (a := 1) (by decide) (tgt := 145) dX12_readArticle_137 rfl (fun c260 => ?_) (fun c260 => absurd c260 (by omega))
            refine lv_iload_n hx hb dX12_readArticle_145 rfl (lv_at hl 0 rfl) ?_
            refine lv_iconst (v := 1) hx hb dX12_readArticle_146 rfl ?_
            refine q_icmp_ne hx hb (a := 1) (b := 1) (by decide) (by decide) (tgt := 155) dX12_readArticle_147 rfl (fun c261 => absurd c261 (by omega)) (fun c261 => ?_)
            refine lv_bipush (v := 40) hx hb dX12_readArticle_150 rfl ?_
            refine lv_goto (tgt := 157) hx hb dX12_readArticle_152 rfl ?_
            refine q_goI (q_runV (As := [.int 0, .int 40]) (rest := [.int v259, .ref ca]) E hC258 hS258 (m_X12_count l X Γ H258 hC258 h0 g0 0 (a1 := 0) (by decide) 40 (a2 := 40) (by decide) ca gca uc (by omega) (by omega) (by omega) (by omega)) cw_X12_count cl_RX12_248 g0 ⟨rfl, rfl⟩ rfl hl.1 rfl (show _ ≤ _ from by simp [Value.category]) (by decide) dX12_readArticle_157) hS258 (fun v262 H262 locs262 hr262 hC262 hS262 => ?_)
            obtain ⟨hp262, hr262⟩ := hr262
            have hKp262 := hKp258.tr (hp262.mono rfl)
            obtain ⟨f262_0, f262_1, f262_2, f262_3, f262_4, f262_5, f262_6, f262_7⟩ := hr262
            refine q_cast E hC262 hS262 gca (a := (2102 + 1)) ev259i (by omega) (by omega) (cs_n16 (a := (2102 + 1)) (by omega) (by omega)) dX12_readArticle_160 (fun H263 locs263 hC263 hS263 U263 => ?_)
            have hKp263 := Kp.upD gca rfl rfl (fun _ => ⟨fun _ => nd4 (by omega) (by omega), fun _ => by unfold dpu; omega, fun _ => by unfold dpn; omega⟩) U263 hKp262
            have m264 : (sI H263 h0 (X.1.2 11 12)).toInt = (sI H262 h0 (X.1.2 11 12)).toInt := congrArg Int32.toInt (up_nI U263 (ne_k g0 gca (by decide)))
            have m265 : (sI H263 h0 (X.1.2 11 14)).toInt = (sI H262 h0 (X.1.2 11 14)).toInt := congrArg Int32.toInt (up_nI U263 (ne_k g0 gca (by decide)))
            have m266 := congrArg tk m265
            have m267 : (sI H263 h0 (X.1.2 11 16)).toInt = (sI H262 h0 (X.1.2 11 16)).toInt := congrArg Int32.toInt (up_nI U263 (ne_k g0 gca (by decide)))
            have e268 := up_I U263
            refine lv_aload_n hx hb dX12_readArticle_161 rfl (lv_at hl 1 rfl) ?_
            refine q_getI E hC263 g0 fa_RX12_218 dX12_readArticle_162 (fun v269 ev269 lv269 uv269 => ?_)
            have m270 : (sI H263 h0 (X.1.2 11 12)).toInt = v269.toInt := (congrArg Int32.toInt ev269).trans rfl
            refine q_if_ne hx hb (a := v269.toInt) rfl (tgt := 179) dX12_readArticle_165 rfl (fun c271 => ?_) (fun c271 => ?_)
            · have hz8 := tk_nn (sI H263 h0 (X.1.2 11 14)).toInt
              exact ret H263 locs263 _ _ dX12_readArticle_179 ⟨hKp263, ⟨by omega, by omega, by omega, by omega⟩⟩ hC263 hS263
            · refine lv_aload_n hx hb dX12_readArticle_168 rfl (lv_at hl 1 rfl) ?_
              refine q_getC E hC263 g0 fa_RX12_35 uc dX12_readArticle_169 ?_
              refine lv_sipush (v := 2098) hx hb dX12_readArticle_172 rfl ?_
              refine lv_iload_n hx hb dX12_readArticle_175 rfl (lv_at hl 0 rfl) ?_
              refine lv_iadd hx hb dX12_readArticle_176 (lv_topi (fun v272 ev272 => ?_))
              have ev272i : v272.toInt = (2098 + 1) := i_add ev272 (by decide) (by decide) (by omega) (by omega)
              refine lv_iconst (v := 1) hx hb dX12_readArticle_177 rfl ?_
              refine q_cast E hC263 hS263 gca (a := (2098 + 1)) ev272i (by omega) (by omega) (cs_n16 (a := (2098 + 1)) (by omega) (by omega)) dX12_readArticle_178 (fun H273 locs273 hC273 hS273 U273 => ?_)
              have hKp273 := Kp.upD gca rfl rfl (fun _ => ⟨fun _ => nd4 (by omega) (by omega), fun _ => by unfold dpu; omega, fun _ => by unfold dpn; omega⟩) U273 hKp263
              have m274 : (sI H273 h0 (X.1.2 11 12)).toInt = (sI H263 h0 (X.1.2 11 12)).toInt := congrArg Int32.toInt (up_nI U273 (ne_k g0 gca (by decide)))
              have m275 : (sI H273 h0 (X.1.2 11 14)).toInt = (sI H263 h0 (X.1.2 11 14)).toInt := congrArg Int32.toInt (up_nI U273 (ne_k g0 gca (by decide)))
              have m276 := congrArg tk m275
              have m277 : (sI H273 h0 (X.1.2 11 16)).toInt = (sI H263 h0 (X.1.2 11 16)).toInt := congrArg Int32.toInt (up_nI U273 (ne_k g0 gca (by decide)))
              have e278 := up_I U273
              have hz8 := tk_nn (sI H273 h0 (X.1.2 11 14)).toInt
              exact ret H273 locs273 _ _ dX12_readArticle_179 ⟨hKp273, ⟨by omega, by omega, by omega, by omega⟩⟩ hC273 hS273
      · refine lv_aload_n hx hb dX12_readArticle_65 rfl (lv_at hl 1 rfl) ?_
        refine q_getC E hC21 g0 fa_RX12_35 uc dX12_readArticle_66 ?_
        refine lv_sipush (v := 2098) hx hb dX12_readArticle_69 rfl ?_
        refine lv_iload_n hx hb dX12_readArticle_72 rfl (lv_at hl 0 rfl) ?_
        refine lv_iadd hx hb dX12_readArticle_73 (lv_topi (fun v279 ev279 => ?_))
        have ev279i : v279.toInt = (2098 + 1) := i_add ev279 (by decide) (by decide) (by omega) (by omega)
        refine q_cald E hC21 (lo := -2147483648) (hi := 2147483647) gca (a := (2098 + 1)) ev279i (by omega) (by omega) (cr_n16 (by omega) (by omega)) dX12_readArticle_74 (fun v280 ev280 _ _ => ?_)
        refine lv_iconst (v := 1) hx hb dX12_readArticle_75 rfl ?_
        refine q_icmp_ne hx hb (a := v280.toInt) (b := 1) rfl (by decide) (tgt := 88) dX12_readArticle_76 rfl (fun c281 => ?_) (fun c281 => ?_)
        · refine lv_aload_n hx hb dX12_readArticle_88 rfl (lv_at hl 1 rfl) ?_
          refine lv_iconst (v := 1) hx hb dX12_readArticle_89 rfl ?_
          refine q_goV (q_runV (As := [.int 1]) (rest := []) E hC21 hS24 (m_X12_must l X Γ H21 hC21 h0 g0 1 (a1 := 1) (by decide) ca gca uc (by omega) (by omega)) cw_X12_must cl_RX12_244 g0 ⟨rfl, rfl⟩ rfl hl.1 rfl (Nat.zero_le _) (by decide) dX12_readArticle_90) hS24 (fun H282 locs282 hr282 hC282 hS282 => ?_)
          obtain ⟨hp282, hr282⟩ := hr282
          have hKp282 := hKp21.tr (hp282.mono rfl)
          obtain ⟨f282_0, f282_1, f282_2, f282_3, f282_4⟩ := hr282
          refine lv_aload_n hx hb dX12_readArticle_93 rfl (lv_at hl 1 rfl) ?_
          refine q_getI E hC282 g0 fa_RX12_218 dX12_readArticle_94 (fun v283 ev283 lv283 uv283 => ?_)
          have m284 : (sI H282 h0 (X.1.2 11 12)).toInt = v283.toInt := (congrArg Int32.toInt ev283).trans rfl
          refine q_if_ne hx hb (a := v283.toInt) rfl (tgt := 161) dX12_readArticle_97 rfl (fun c285 => ?_) (fun c285 => ?_)
          · refine lv_aload_n hx hb dX12_readArticle_161 rfl (lv_at hl 1 rfl) ?_
            refine q_getI E hC282 g0 fa_RX12_218 dX12_readArticle_162 (fun v286 ev286 lv286 uv286 => ?_)
            have qv286 := ev283.symm.trans ev286; subst qv286
            refine q_if_ne hx hb (a := v283.toInt) rfl (tgt := 179) dX12_readArticle_165 rfl (fun c287 => ?_) (fun c287 => absurd c287 (by omega))
            have hz8 := tk_nn (sI H282 h0 (X.1.2 11 14)).toInt
            exact ret H282 locs282 _ _ dX12_readArticle_179 ⟨hKp282, ⟨by omega, by omega, by omega, by omega⟩⟩ hC282 hS282
          · refine lv_iload_n hx hb dX12_readArticle_100 rfl (lv_at hl 0 rfl) ?_
            refine lv_iconst (v := 2) hx hb dX12_readArticle_101 rfl ?_
            refine q_icmp_eq hx hb (a := 1) (b := 2) (by decide) (by decide) (tgt := 161) dX12_readArticle_102 rfl (fun c288 => absurd c288 (by omega)) (fun c288 => ?_)
            refine lv_aload_n hx hb dX12_readArticle_105 rfl (lv_at hl 1 rfl) ?_
            refine lv_iload_n hx hb dX12_readArticle_106 rfl (lv_at hl 0 rfl) ?_
            refine lv_iconst (v := 1) hx hb dX12_readArticle_107 rfl ?_
            refine q_icmp_ne hx hb (a := 1) (b := 1) (by decide) (by decide) (tgt := 118) dX12_readArticle_108 rfl (fun c289 => absurd c289 (by omega)) (fun c289 => ?_)
            refine lv_aload_n hx hb dX12_readArticle_111 rfl (lv_at hl 1 rfl) ?_
            refine q_goIp (q_runV (As := []) (rest := [.ref h0]) E hC282 hS282 (m_X12_isBehind l X Γ H282 hC282 h0 g0 ca gca uc) cw_X12_isBehind cl_RX12_199 g0 ⟨rfl, rfl⟩ rfl hl.1 rfl (show _ ≤ _ from by simp [Value.category]) (by decide) dX12_readArticle_112) hS282 (fun v290 locs290 hr290 hS290 => ?_)
            rcases hr290 with rfl | rfl
            · refine lv_goto (tgt := 122) hx hb dX12_readArticle_115 rfl ?_
              refine q_goV (q_runV (As := [.int 0]) (rest := []) E hC282 hS290 (m_X12_must l X Γ H282 hC282 h0 g0 0 (a1 := 0) (by decide) ca gca uc (by omega) (by omega)) cw_X12_must cl_RX12_244 g0 ⟨rfl, rfl⟩ rfl hl.1 rfl (Nat.zero_le _) (by decide) dX12_readArticle_122) hS290 (fun H291 locs291 hr291 hC291 hS291 => ?_)
              obtain ⟨hp291, hr291⟩ := hr291
              have hKp291 := hKp282.tr (hp291.mono rfl)
              obtain ⟨f291_0, f291_1, f291_2, f291_3, f291_4⟩ := hr291
              refine lv_aload_n hx hb dX12_readArticle_125 rfl (lv_at hl 1 rfl) ?_
              refine q_getC E hC291 g0 fa_RX12_35 uc dX12_readArticle_126 ?_
              refine lv_sipush (v := 2102) hx hb dX12_readArticle_129 rfl ?_
              refine lv_iload_n hx hb dX12_readArticle_132 rfl (lv_at hl 0 rfl) ?_
              refine lv_iadd hx hb dX12_readArticle_133 (lv_topi (fun v292 ev292 => ?_))
              have ev292i : v292.toInt = (2102 + 1) := i_add ev292 (by decide) (by decide) (by omega) (by omega)
              refine lv_aload_n hx hb dX12_readArticle_134 rfl (lv_at hl 1 rfl) ?_
              refine lv_iconst (v := 0) hx hb dX12_readArticle_135 rfl ?_
              refine lv_iload_n hx hb dX12_readArticle_136 rfl (lv_at hl 0 rfl) ?_
              refine q_if_ne hx hb (a := 1) (by decide) (tgt := 145) dX12_readArticle_137 rfl (fun c293 => ?_) (fun c293 => absurd c293 (by omega))
              refine lv_iload_n hx hb dX12_readArticle_145 rfl (lv_at hl 0 rfl) ?_
              refine lv_iconst (v := 1) hx hb dX12_readArticle_146 rfl ?_
              refine q_icmp_ne hx hb (a := 1) (b := 1) (by decide) (by decide) (tgt := 155) dX12_readArticle_147 rfl (fun c294 => absurd c294 (by omega)) (fun c294 => ?_)
              refine lv_bipush (v := 40) hx hb dX12_readArticle_150 rfl ?_
              refine lv_goto (tgt := 157) hx hb dX12_readArticle_152 rfl ?_
              refine q_goI (q_runV (As := [.int 0, .int 40]) (rest := [.int v292, .ref ca]) E hC291 hS291 (m_X12_count l X Γ H291 hC291 h0 g0 0 (a1 := 0) (by decide) 40 (a2 := 40) (by decide) ca gca uc (by omega) (by omega) (by omega) (by omega)) cw_X12_count cl_RX12_248 g0 ⟨rfl, rfl⟩ rfl hl.1 rfl (show _ ≤ _ from by simp [Value.category]) (by decide) dX12_readArticle_157) hS291 (fun v295 H295 locs295 hr295 hC295 hS295 => ?_)
              obtain ⟨hp295, hr295⟩ := hr295
              have hKp295 := hKp291.tr (hp295.mono rfl)
              obtain ⟨f295_0, f295_1, f295_2, f295_3, f295_4, f295_5, f295_6, f295_7⟩ := hr295
              refine q_cast E hC295 hS295 gca (a := (2102 + 1)) ev292i (by omega) (by omega) (cs_n16 (a := (2102 + 1)) (by omega) (by omega)) dX12_readArticle_160 (fun H296 locs296 hC296 hS296 U296 => ?_)
              have hKp296 := Kp.upD gca rfl rfl (fun _ => ⟨fun _ => nd4 (by omega) (by omega), fun _ => by unfold dpu; omega, fun _ => by unfold dpn; omega⟩) U296 hKp295
              have m297 : (sI H296 h0 (X.1.2 11 12)).toInt = (sI H295 h0 (X.1.2 11 12)).toInt := congrArg Int32.toInt (up_nI U296 (ne_k g0 gca (by decide)))
              have m298 : (sI H296 h0 (X.1.2 11 14)).toInt = (sI H295 h0 (X.1.2 11 14)).toInt := congrArg Int32.toInt (up_nI U296 (ne_k g0 gca (by decide)))
              have m299 := congrArg tk m298
              have m300 : (sI H296 h0 (X.1.2 11 16)).toInt = (sI H295 h0 (X.1.2 11 16)).toInt := congrArg Int32.toInt (up_nI U296 (ne_k g0 gca (by decide)))
              have e301 := up_I U296
              refine lv_aload_n hx hb dX12_readArticle_161 rfl (lv_at hl 1 rfl) ?_
              refine q_getI E hC296 g0 fa_RX12_218 dX12_readArticle_162 (fun v302 ev302 lv302 uv302 => ?_)
              have m303 : (sI H296 h0 (X.1.2 11 12)).toInt = v302.toInt := (congrArg Int32.toInt ev302).trans rfl
              refine q_if_ne hx hb (a := v302.toInt) rfl (tgt := 179) dX12_readArticle_165 rfl (fun c304 => ?_) (fun c304 => ?_)
              · have hz8 := tk_nn (sI H296 h0 (X.1.2 11 14)).toInt
                exact ret H296 locs296 _ _ dX12_readArticle_179 ⟨hKp296, ⟨by omega, by omega, by omega, by omega⟩⟩ hC296 hS296
              · refine lv_aload_n hx hb dX12_readArticle_168 rfl (lv_at hl 1 rfl) ?_
                refine q_getC E hC296 g0 fa_RX12_35 uc dX12_readArticle_169 ?_
                refine lv_sipush (v := 2098) hx hb dX12_readArticle_172 rfl ?_
                refine lv_iload_n hx hb dX12_readArticle_175 rfl (lv_at hl 0 rfl) ?_
                refine lv_iadd hx hb dX12_readArticle_176 (lv_topi (fun v305 ev305 => ?_))
                have ev305i : v305.toInt = (2098 + 1) := i_add ev305 (by decide) (by decide) (by omega) (by omega)
                refine lv_iconst (v := 1) hx hb dX12_readArticle_177 rfl ?_
                refine q_cast E hC296 hS296 gca (a := (2098 + 1)) ev305i (by omega) (by omega) (cs_n16 (a := (2098 + 1)) (by omega) (by omega)) dX12_readArticle_178 (fun H306 locs306 hC306 hS306 U306 => ?_)
                have hKp306 := Kp.upD gca rfl rfl (fun _ => ⟨fun _ => nd4 (by omega) (by omega), fun _ => by unfold dpu; omega, fun _ => by unfold dpn; omega⟩) U306 hKp296
                have m307 : (sI H306 h0 (X.1.2 11 12)).toInt = (sI H296 h0 (X.1.2 11 12)).toInt := congrArg Int32.toInt (up_nI U306 (ne_k g0 gca (by decide)))
                have m308 : (sI H306 h0 (X.1.2 11 14)).toInt = (sI H296 h0 (X.1.2 11 14)).toInt := congrArg Int32.toInt (up_nI U306 (ne_k g0 gca (by decide)))
                have m309 := congrArg tk m308
                have m310 : (sI H306 h0 (X.1.2 11 16)).toInt = (sI H296 h0 (X.1.2 11 16)).toInt := congrArg Int32.toInt (up_nI U306 (ne_k g0 gca (by decide)))
                have e311 := up_I U306
                have hz8 := tk_nn (sI H306 h0 (X.1.2 11 14)).toInt
                exact ret H306 locs306 _ _ dX12_readArticle_179 ⟨hKp306, ⟨by omega, by omega, by omega, by omega⟩⟩ hC306 hS306
            · refine lv_goto (tgt := 122) hx hb dX12_readArticle_115 rfl ?_
              refine q_goV (q_runV (As := [.int 1]) (rest := []) E hC282 hS290 (m_X12_must l X Γ H282 hC282 h0 g0 1 (a1 := 1) (by decide) ca gca uc (by omega) (by omega)) cw_X12_must cl_RX12_244 g0 ⟨rfl, rfl⟩ rfl hl.1 rfl (Nat.zero_le _) (by decide) dX12_readArticle_122) hS290 (fun H312 locs312 hr312 hC312 hS312 => ?_)
              obtain ⟨hp312, hr312⟩ := hr312
              have hKp312 := hKp282.tr (hp312.mono rfl)
              obtain ⟨f312_0, f312_1, f312_2, f312_3, f312_4⟩ := hr312
              refine lv_aload_n hx hb dX12_readArticle_125 rfl (lv_at hl 1 rfl) ?_
              refine q_getC E hC312 g0 fa_RX12_35 uc dX12_readArticle_126 ?_
              refine lv_sipush (v := 2102) hx hb dX12_readArticle_129 rfl ?_
              refine lv_iload_n hx hb dX12_readArticle_132 rfl (lv_at hl 0 rfl) ?_
              refine lv_iadd hx hb dX12_readArticle_133 (lv_topi (fun v313 ev313 => ?_))
              have ev313i : v313.toInt = (2102 + 1) := i_add ev313 (by decide) (by decide) (by omega) (by omega)
              refine lv_aload_n hx hb dX12_readArticle_134 rfl (lv_at hl 1 rfl) ?_
              refine lv_iconst (v := 0) hx hb dX12_readArticle_135 rfl ?_
              refine lv_iload_n hx hb dX12_readArticle_136 rfl (lv_at hl 0 rfl) ?_
              refine q_if_ne hx hb (a := 1) (by decide) (tgt := 145) dX12_readArticle_137 rfl (fun c314 => ?_) (fun c314 => absurd c314 (by omega))
              refine lv_iload_n hx hb dX12_readArticle_145 rfl (lv_at hl 0 rfl) ?_
              refine lv_iconst (v := 1) hx hb dX12_readArticle_146 rfl ?_
              refine q_icmp_ne hx hb (a := 1) (b := 1) (by decide) (by decide) (tgt := 155) dX12_readArticle_147 rfl (fun c315 => absurd c315 (by omega)) (fun c315 => ?_)
              refine lv_bipush (v := 40) hx hb dX12_readArticle_150 rfl ?_
              refine lv_goto (tgt := 157) hx hb dX12_readArticle_152 rfl ?_
              refine q_goI (q_runV (As := [.int 0, .int 40]) (rest := [.int v313, .ref ca]) E hC312 hS312 (m_X12_count l X Γ H312 hC312 h0 g0 0 (a1 := 0) (by decide) 40 (a2 := 40) (by decide) ca gca uc (by omega) (by omega) (by omega) (by omega)) cw_X12_count cl_RX12_248 g0 ⟨rfl, rfl⟩ rfl hl.1 rfl (show _ ≤ _ from by simp [Value.category]) (by decide) dX12_readArticle_157) hS312 (fun v316 H316 locs316 hr316 hC316 hS316 => ?_)
              obtain ⟨hp316, hr316⟩ := hr316
              have hKp316 := hKp312.tr (hp316.mono rfl)
              obtain ⟨f316_0, f316_1, f316_2, f316_3, f316_4, f316_5, f316_6, f316_7⟩ := hr316
              refine q_cast E hC316 hS316 gca (a := (2102 + 1)) ev313i (by omega) (by omega) (cs_n16 (a := (2102 + 1)) (by omega) (by omega)) dX12_readArticle_160 (fun H317 locs317 hC317 hS317 U317 => ?_)
              have hKp317 := Kp.upD gca rfl rfl (fun _ => ⟨fun _ => nd4 (by omega) (by omega), fun _ => by unfold dpu; omega, fun _ => by unfold dpn; omega⟩) U317 hKp316
              have m318 : (sI H317 h0 (X.1.2 11 12)).toInt = (sI H316 h0 (X.1.2 11 12)).toInt := congrArg Int32.toInt (up_nI U317 (ne_k g0 gca (by decide)))
              have m319 : (sI H317 h0 (X.1.2 11 14)).toInt = (sI H316 h0 (X.1.2 11 14)).toInt := congrArg Int32.toInt (up_nI U317 (ne_k g0 gca (by decide)))
              have m320 := congrArg tk m319
              have m321 : (sI H317 h0 (X.1.2 11 16)).toInt = (sI H316 h0 (X.1.2 11 16)).toInt := congrArg Int32.toInt (up_nI U317 (ne_k g0 gca (by decide)))
              have e322 := up_I U317
              refine lv_aload_n hx hb dX12_readArticle_161 rfl (lv_at hl 1 rfl) ?_
              refine q_getI E hC317 g0 fa_RX12_218 dX12_readArticle_162 (fun v323 ev323 lv323 uv323 => ?_)
              have m324 : (sI H317 h0 (X.1.2 11 12)).toInt = v323.toInt := (congrArg Int32.toInt ev323).trans rfl
              refine q_if_ne hx hb (a := v323.toInt) rfl (tgt := 179) dX12_readArticle_165 rfl (fun c325 => ?_) (fun c325 => ?_)
              · have hz8 := tk_nn (sI H317 h0 (X.1.2 11 14)).toInt
                exact ret H317 locs317 _ _ dX12_readArticle_179 ⟨hKp317, ⟨by omega, by omega, by omega, by omega⟩⟩ hC317 hS317
              · refine lv_aload_n hx hb dX12_readArticle_168 rfl (lv_at hl 1 rfl) ?_
                refine q_getC E hC317 g0 fa_RX12_35 uc dX12_readArticle_169 ?_
                refine lv_sipush (v := 2098) hx hb dX12_readArticle_172 rfl ?_
                refine lv_iload_n hx hb dX12_readArticle_175 rfl (lv_at hl 0 rfl) ?_
                refine lv_iadd hx hb dX12_readArticle_176 (lv_topi (fun v326 ev326 => ?_))
                have ev326i : v326.toInt = (2098 + 1) := i_add ev326 (by decide) (by decide) (by omega) (by omega)
                refine lv_iconst (v := 1) hx hb dX12_readArticle_177 rfl ?_
                refine q_cast E hC317 hS317 gca (a := (2098 + 1)) ev326i (by omega) (by omega) (cs_n16 (a := (2098 + 1)) (by omega) (by omega)) dX12_readArticle_178 (fun H327 locs327 hC327 hS327 U327 => ?_)
                have hKp327 := Kp.upD gca rfl rfl (fun _ => ⟨fun _ => nd4 (by omega) (by omega), fun _ => by unfold dpu; omega, fun _ => by unfold dpn; omega⟩) U327 hKp317
                have m328 : (sI H327 h0 (X.1.2 11 12)).toInt = (sI H317 h0 (X.1.2 11 12)).toInt := congrArg Int32.toInt (up_nI U327 (ne_k g0 gca (by decide)))
                have m329 : (sI H327 h0 (X.1.2 11 14)).toInt = (sI H317 h0 (X.1.2 11 14)).toInt := congrArg Int32.toInt (up_nI U327 (ne_k g0 gca (by decide)))
                have m330 := congrArg tk m329
                have m331 : (sI H327 h0 (X.1.2 11 16)).toInt = (sI H317 h0 (X.1.2 11 16)).toInt := congrArg Int32.toInt (up_nI U327 (ne_k g0 gca (by decide)))
                have e332 := up_I U327
                have hz8 := tk_nn (sI H327 h0 (X.1.2 11 14)).toInt
                exact ret H327 locs327 _ _ dX12_readArticle_179 ⟨hKp327, ⟨by omega, by omega, by omega, by omega⟩⟩ hC327 hS327
        · refine lv_aload_n hx hb dX12_readArticle_79 rfl (lv_at hl 1 rfl) ?_
          refine lv_iconst (v := 5) hx hb dX12_readArticle_80 rfl ?_
          refine lv_aload_n hx hb dX12_readArticle_81 rfl (lv_at hl 1 rfl) ?_
          refine q_getI E hC21 g0 fa_RX12_114 dX12_readArticle_82 (fun v333 ev333 lv333 uv333 => ?_)
          refine q_goV (q_runV (As := [.int 5, .int v333]) (rest := []) E hC21 hS24 (m_X12_fail l X Γ H21 hC21 h0 g0 5 (a1 := 5) (by decide) v333 (a2 := v333.toInt) rfl ca gca uc (by omega) (by omega)) cw_X12_fail cl_RX12_224 g0 ⟨rfl, rfl⟩ rfl hl.1 rfl (Nat.zero_le _) (by decide) dX12_readArticle_85) hS24 (fun H334 locs334 hr334 hC334 hS334 => ?_)
          obtain ⟨hp334, hr334⟩ := hr334
          have hKp334 := hKp21.tr (hp334.mono rfl)
          obtain ⟨f334_0, f334_1, f334_2, f334_3⟩ := hr334
          refine lv_aload_n hx hb dX12_readArticle_88 rfl (lv_at hl 1 rfl) ?_
          refine lv_iconst (v := 1) hx hb dX12_readArticle_89 rfl ?_
          refine q_goV (q_runV (As := [.int 1]) (rest := []) E hC334 hS334 (m_X12_must l X Γ H334 hC334 h0 g0 1 (a1 := 1) (by decide) ca gca uc (by omega) (by omega)) cw_X12_must cl_RX12_244 g0 ⟨rfl, rfl⟩ rfl hl.1 rfl (Nat.zero_le _) (by decide) dX12_readArticle_90) hS334 (fun H335 locs335 hr335 hC335 hS335 => ?_)
          obtain ⟨hp335, hr335⟩ := hr335
          have hKp335 := hKp334.tr (hp335.mono rfl)
          obtain ⟨f335_0, f335_1, f335_2, f335_3, f335_4⟩ := hr335
          refine lv_aload_n hx hb dX12_readArticle_93 rfl (lv_at hl 1 rfl) ?_
          refine q_getI E hC335 g0 fa_RX12_218 dX12_readArticle_94 (fun v336 ev336 lv336 uv336 => ?_)
          have m337 : (sI H335 h0 (X.1.2 11 12)).toInt = v336.toInt := (congrArg Int32.toInt ev336).trans rfl
          refine q_if_ne hx hb (a := v336.toInt) rfl (tgt := 161) dX12_readArticle_97 rfl (fun c338 => ?_) (fun c338 => ?_)
          · refine lv_aload_n hx hb dX12_readArticle_161 rfl (lv_at hl 1 rfl) ?_
            refine q_getI E hC335 g0 fa_RX12_218 dX12_readArticle_162 (fun v339 ev339 lv339 uv339 => ?_)
            have qv339 := ev336.symm.trans ev339; subst qv339
            refine q_if_ne hx hb (a := v336.toInt) rfl (tgt := 179) dX12_readArticle_165 rfl (fun c340 => ?_) (fun c340 => absurd c340 (by omega))
            have hz8 := tk_nn (sI H335 h0 (X.1.2 11 14)).toInt
            exact ret H335 locs335 _ _ dX12_readArticle_179 ⟨hKp335, ⟨by omega, by omega, by omega, by omega⟩⟩ hC335 hS335
          · refine lv_iload_n hx hb dX12_readArticle_100 rfl (lv_at hl 0 rfl) ?_
            refine lv_iconst (v := 2) hx hb dX12_readArticle_101 rfl ?_
            refine q_icmp_eq hx hb (a := 1) (b := 2) (by decide) (by decide) (tgt := 161) dX12_readArticle_102 rfl (fun c341 => absurd c341 (by omega)) (fun c341 => ?_)
            refine lv_aload_n hx hb dX12_readArticle_105 rfl (lv_at hl 1 rfl) ?_
            refine lv_iload_n hx hb dX12_readArticle_106 rfl (lv_at hl 0 rfl) ?_
            refine lv_iconst (v := 1) hx hb dX12_readArticle_107 rfl ?_
            refine q_icmp_ne hx hb (a := 1) (b := 1) (by decide) (by decide) (tgt := 118) dX12_readArticle_108 rfl (fun c342 => absurd c342 (by omega)) (fun c342 => ?_)
            refine lv_aload_n hx hb dX12_readArticle_111 rfl (lv_at hl 1 rfl) ?_
            refine q_goIp (q_runV (As := []) (rest := [.ref h0]) E hC335 hS335 (m_X12_isBehind l X Γ H335 hC335 h0 g0 ca gca uc) cw_X12_isBehind cl_RX12_199 g0 ⟨rfl, rfl⟩ rfl hl.1 rfl (show _ ≤ _ from by simp [Value.category]) (by decide) dX12_readArticle_112) hS335 (fun v343 locs343 hr343 hS343 => ?_)
            rcases hr343 with rfl | rfl
            · refine lv_goto (tgt := 122) hx hb dX12_readArticle_115 rfl ?_
              refine q_goV (q_runV (As := [.int 0]) (rest := []) E hC335 hS343 (m_X12_must l X Γ H335 hC335 h0 g0 0 (a1 := 0) (by decide) ca gca uc (by omega) (by omega)) cw_X12_must cl_RX12_244 g0 ⟨rfl, rfl⟩ rfl hl.1 rfl (Nat.zero_le _) (by decide) dX12_readArticle_122) hS343 (fun H344 locs344 hr344 hC344 hS344 => ?_)
              obtain ⟨hp344, hr344⟩ := hr344
              have hKp344 := hKp335.tr (hp344.mono rfl)
              obtain ⟨f344_0, f344_1, f344_2, f344_3, f344_4⟩ := hr344
              refine lv_aload_n hx hb dX12_readArticle_125 rfl (lv_at hl 1 rfl) ?_
              refine q_getC E hC344 g0 fa_RX12_35 uc dX12_readArticle_126 ?_
              refine lv_sipush (v := 2102) hx hb dX12_readArticle_129 rfl ?_
              refine lv_iload_n hx hb dX12_readArticle_132 rfl (lv_at hl 0 rfl) ?_
              refine lv_iadd hx hb dX12_readArticle_133 (lv_topi (fun v345 ev345 => ?_))
              have ev345i : v345.toInt = (2102 + 1) := i_add ev345 (by decide) (by decide) (by omega) (by omega)
              refine lv_aload_n hx hb dX12_readArticle_134 rfl (lv_at hl 1 rfl) ?_
              refine lv_iconst (v := 0) hx hb dX12_readArticle_135 rfl ?_
              refine lv_iload_n hx hb dX12_readArticle_136 rfl (lv_at hl 0 rfl) ?_
              refine q_if_ne hx hb (a := 1) (by decide) (tgt := 145) dX12_readArticle_137 rfl (fun c346 => ?_) (fun c346 => absurd c346 (by omega))
              refine lv_iload_n hx hb dX12_readArticle_145 rfl (lv_at hl 0 rfl) ?_
              refine lv_iconst (v := 1) hx hb dX12_readArticle_146 rfl ?_
              refine q_icmp_ne hx hb (a := 1) (b := 1) (by decide) (by decide) (tgt := 155) dX12_readArticle_147 rfl (fun c347 => absurd c347 (by omega)) (fun c347 => ?_)
              refine lv_bipush (v := 40) hx hb dX12_readArticle_150 rfl ?_
              refine lv_goto (tgt := 157) hx hb dX12_readArticle_152 rfl ?_
              refine q_goI (q_runV (As := [.int 0, .int 40]) (rest := [.int v345, .ref ca]) E hC344 hS344 (m_X12_count l X Γ H344 hC344 h0 g0 0 (a1 := 0) (by decide) 40 (a2 := 40) (by decide) ca gca uc (by omega) (by omega) (by omega) (by omega)) cw_X12_count cl_RX12_248 g0 ⟨rfl, rfl⟩ rfl hl.1 rfl (show _ ≤ _ from by simp [Value.category]) (by decide) dX12_readArticle_157) hS344 (fun v348 H348 locs348 hr348 hC348 hS348 => ?_)
              obtain ⟨hp348, hr348⟩ := hr348
              have hKp348 := hKp344.tr (hp348.mono rfl)
              obtain ⟨f348_0, f348_1, f348_2, f348_3, f348_4, f348_5, f348_6, f348_7⟩ := hr348
              refine q_cast E hC348 hS348 gca (a := (2102 + 1)) ev345i (by omega) (by omega) (cs_n16 (a := (2102 + 1)) (by omega) (by omega)) dX12_readArticle_160 (fun H349 locs349 hC349 hS349 U349 => ?_)
              have hKp349 := Kp.upD gca rfl rfl (fun _ => ⟨fun _ => nd4 (by omega) (by omega), fun _ => by unfold dpu; omega, fun _ => by unfold dpn; omega⟩) U349 hKp348
              have m350 : (sI H349 h0 (X.1.2 11 12)).toInt = (sI H348 h0 (X.1.2 11 12)).toInt := congrArg Int32.toInt (up_nI U349 (ne_k g0 gca (by decide)))
              have m351 : (sI H349 h0 (X.1.2 11 14)).toInt = (sI H348 h0 (X.1.2 11 14)).toInt := congrArg Int32.toInt (up_nI U349 (ne_k g0 gca (by decide)))
              have m352 := congrArg tk m351
              have m353 : (sI H349 h0 (X.1.2 11 16)).toInt = (sI H348 h0 (X.1.2 11 16)).toInt := congrArg Int32.toInt (up_nI U349 (ne_k g0 gca (by decide)))
              have e354 := up_I U349
              refine lv_aload_n hx hb dX12_readArticle_161 rfl (lv_at hl 1 rfl) ?_
              refine q_getI E hC349 g0 fa_RX12_218 dX12_readArticle_162 (fun v355 ev355 lv355 uv355 => ?_)
              have m356 : (sI H349 h0 (X.1.2 11 12)).toInt = v355.toInt := (congrArg Int32.toInt ev355).trans rfl
              refine q_if_ne hx hb (a := v355.toInt) rfl (tgt := 179) dX12_readArticle_165 rfl (fun c357 => ?_) (fun c357 => ?_)
              · have hz8 := tk_nn (sI H349 h0 (X.1.2 11 14)).toInt
                exact ret H349 locs349 _ _ dX12_readArticle_179 ⟨hKp349, ⟨by omega, by omega, by omega, by omega⟩⟩ hC349 hS349
              · refine lv_aload_n hx hb dX12_readArticle_168 rfl (lv_at hl 1 rfl) ?_
                refine q_getC E hC349 g0 fa_RX12_35 uc dX12_readArticle_169 ?_
                refine lv_sipush (v := 2098) hx hb dX12_readArticle_172 rfl ?_
                refine lv_iload_n hx hb dX12_readArticle_175 rfl (lv_at hl 0 rfl) ?_
                refine lv_iadd hx hb dX12_readArticle_176 (lv_topi (fun v358 ev358 => ?_))
                have ev358i : v358.toInt = (2098 + 1) := i_add ev358 (by decide) (by decide) (by omega) (by omega)
                refine lv_iconst (v := 1) hx hb dX12_readArticle_177 rfl ?_
                refine q_cast E hC349 hS349 gca (a := (2098 + 1)) ev358i (by omega) (by omega) (cs_n16 (a := (2098 + 1)) (by omega) (by omega)) dX12_readArticle_178 (fun H359 locs359 hC359 hS359 U359 => ?_)
                have hKp359 := Kp.upD gca rfl rfl (fun _ => ⟨fun _ => nd4 (by omega) (by omega), fun _ => by unfold dpu; omega, fun _ => by unfold dpn; omega⟩) U359 hKp349
                have m360 : (sI H359 h0 (X.1.2 11 12)).toInt = (sI H349 h0 (X.1.2 11 12)).toInt := congrArg Int32.toInt (up_nI U359 (ne_k g0 gca (by decide)))
                have m361 : (sI H359 h0 (X.1.2 11 14)).toInt = (sI H349 h0 (X.1.2 11 14)).toInt := congrArg Int32.toInt (up_nI U359 (ne_k g0 gca (by decide)))
                have m362 := congrArg tk m361
                have m363 : (sI H359 h0 (X.1.2 11 16)).toInt = (sI H349 h0 (X.1.2 11 16)).toInt := congrArg Int32.toInt (up_nI U359 (ne_k g0 gca (by decide)))
                have e364 := up_I U359
                have hz8 := tk_nn (sI H359 h0 (X.1.2 11 14)).toInt
                exact ret H359 locs359 _ _ dX12_readArticle_179 ⟨hKp359, ⟨by omega, by omega, by omega, by omega⟩⟩ hC359 hS359
            · refine lv_goto (tgt := 122) hx hb dX12_readArticle_115 rfl ?_
              refine q_goV (q_runV (As := [.int 1]) (rest := []) E hC335 hS343 (m_X12_must l X Γ H335 hC335 h0 g0 1 (a1 := 1) (by decide) ca gca uc (by omega) (by omega)) cw_X12_must cl_RX12_244 g0 ⟨rfl, rfl⟩ rfl hl.1 rfl (Nat.zero_le _) (by decide) dX12_readArticle_122) hS343 (fun H365 locs365 hr365 hC365 hS365 => ?_)
              obtain ⟨hp365, hr365⟩ := hr365
              have hKp365 := hKp335.tr (hp365.mono rfl)
              obtain ⟨f365_0, f365_1, f365_2, f365_3, f365_4⟩ := hr365
              refine lv_aload_n hx hb dX12_readArticle_125 rfl (lv_at hl 1 rfl) ?_
              refine q_getC E hC365 g0 fa_RX12_35 uc dX12_readArticle_126 ?_
              refine lv_sipush (v := 2102) hx hb dX12_readArticle_129 rfl ?_
              refine lv_iload_n hx hb dX12_readArticle_132 rfl (lv_at hl 0 rfl) ?_
              refine lv_iadd hx hb dX12_readArticle_133 (lv_topi (fun v366 ev366 => ?_))
              have ev366i : v366.toInt = (2102 + 1) := i_add ev366 (by decide) (by decide) (by omega) (by omega)
              refine lv_aload_n hx hb dX12_readArticle_134 rfl (lv_at hl 1 rfl) ?_
              refine lv_iconst (v := 0) hx hb dX12_readArticle_135 rfl ?_
              refine lv_iload_n hx hb dX12_readArticle_136 rfl (lv_at hl 0 rfl) ?_
              refine q_if_ne hx hb (a := 1) (by decide) (tgt := 145) dX12_readArticle_137 rfl (fun c367 => ?_) (fun c367 => absurd c367 (by omega))
              refine lv_iload_n hx hb dX12_readArticle_145 rfl (lv_at hl 0 rfl) ?_
              refine lv_iconst (v := 1) hx hb dX12_readArticle_146 rfl ?_
              refine q_icmp_ne hx hb (a := 1) (b := 1) (by decide) (by decide) (tgt := 155) dX12_readArticle_147 rfl (fun c368 => absurd c368 (by omega)) (fun c368 => ?_)
              refine lv_bipush (v := 40) hx hb dX12_readArticle_150 rfl ?_
              refine lv_goto (tgt := 157) hx hb dX12_readArticle_152 rfl ?_
              refine q_goI (q_runV (As := [.int 0, .int 40]) (rest := [.int v366, .ref ca]) E hC365 hS365 (m_X12_count l X Γ H365 hC365 h0 g0 0 (a1 := 0) (by decide) 40 (a2 := 40) (by decide) ca gca uc (by omega) (by omega) (by omega) (by omega)) cw_X12_count cl_RX12_248 g0 ⟨rfl, rfl⟩ rfl hl.1 rfl (show _ ≤ _ from by simp [Value.category]) (by decide) dX12_readArticle_157) hS365 (fun v369 H369 locs369 hr369 hC369 hS369 => ?_)
              obtain ⟨hp369, hr369⟩ := hr369
              have hKp369 := hKp365.tr (hp369.mono rfl)
              obtain ⟨f369_0, f369_1, f369_2, f369_3, f369_4, f369_5, f369_6, f369_7⟩ := hr369
              refine q_cast E hC369 hS369 gca (a := (2102 + 1)) ev366i (by omega) (by omega) (cs_n16 (a := (2102 + 1)) (by omega) (by omega)) dX12_readArticle_160 (fun H370 locs370 hC370 hS370 U370 => ?_)
              have hKp370 := Kp.upD gca rfl rfl (fun _ => ⟨fun _ => nd4 (by omega) (by omega), fun _ => by unfold dpu; omega, fun _ => by unfold dpn; omega⟩) U370 hKp369
              have m371 : (sI H370 h0 (X.1.2 11 12)).toInt = (sI H369 h0 (X.1.2 11 12)).toInt := congrArg Int32.toInt (up_nI U370 (ne_k g0 gca (by decide)))
              have m372 : (sI H370 h0 (X.1.2 11 14)).toInt = (sI H369 h0 (X.1.2 11 14)).toInt := congrArg Int32.toInt (up_nI U370 (ne_k g0 gca (by decide)))
              have m373 := congrArg tk m372
              have m374 : (sI H370 h0 (X.1.2 11 16)).toInt = (sI H369 h0 (X.1.2 11 16)).toInt := congrArg Int32.toInt (up_nI U370 (ne_k g0 gca (by decide)))
              have e375 := up_I U370
              refine lv_aload_n hx hb dX12_readArticle_161 rfl (lv_at hl 1 rfl) ?_
              refine q_getI E hC370 g0 fa_RX12_218 dX12_readArticle_162 (fun v376 ev376 lv376 uv376 => ?_)
              have m377 : (sI H370 h0 (X.1.2 11 12)).toInt = v376.toInt := (congrArg Int32.toInt ev376).trans rfl
              refine q_if_ne hx hb (a := v376.toInt) rfl (tgt := 179) dX12_readArticle_165 rfl (fun c378 => ?_) (fun c378 => ?_)
              · have hz8 := tk_nn (sI H370 h0 (X.1.2 11 14)).toInt
                exact ret H370 locs370 _ _ dX12_readArticle_179 ⟨hKp370, ⟨by omega, by omega, by omega, by omega⟩⟩ hC370 hS370
              · refine lv_aload_n hx hb dX12_readArticle_168 rfl (lv_at hl 1 rfl) ?_
                refine q_getC E hC370 g0 fa_RX12_35 uc dX12_readArticle_169 ?_
                refine lv_sipush (v := 2098) hx hb dX12_readArticle_172 rfl ?_
                refine lv_iload_n hx hb dX12_readArticle_175 rfl (lv_at hl 0 rfl) ?_
                refine lv_iadd hx hb dX12_readArticle_176 (lv_topi (fun v379 ev379 => ?_))
                have ev379i : v379.toInt = (2098 + 1) := i_add ev379 (by decide) (by decide) (by omega) (by omega)
                refine lv_iconst (v := 1) hx hb dX12_readArticle_177 rfl ?_
                refine q_cast E hC370 hS370 gca (a := (2098 + 1)) ev379i (by omega) (by omega) (cs_n16 (a := (2098 + 1)) (by omega) (by omega)) dX12_readArticle_178 (fun H380 locs380 hC380 hS380 U380 => ?_)
                have hKp380 := Kp.upD gca rfl rfl (fun _ => ⟨fun _ => nd4 (by omega) (by omega), fun _ => by unfold dpu; omega, fun _ => by unfold dpn; omega⟩) U380 hKp370
                have m381 : (sI H380 h0 (X.1.2 11 12)).toInt = (sI H370 h0 (X.1.2 11 12)).toInt := congrArg Int32.toInt (up_nI U380 (ne_k g0 gca (by decide)))
                have m382 : (sI H380 h0 (X.1.2 11 14)).toInt = (sI H370 h0 (X.1.2 11 14)).toInt := congrArg Int32.toInt (up_nI U380 (ne_k g0 gca (by decide)))
                have m383 := congrArg tk m382
                have m384 : (sI H380 h0 (X.1.2 11 16)).toInt = (sI H370 h0 (X.1.2 11 16)).toInt := congrArg Int32.toInt (up_nI U380 (ne_k g0 gca (by decide)))
                have e385 := up_I U380
                have hz8 := tk_nn (sI H380 h0 (X.1.2 11 14)).toInt
                exact ret H380 locs380 _ _ dX12_readArticle_179 ⟨hKp380, ⟨by omega, by omega, by omega, by omega⟩⟩ hC380 hS380
  · refine q_if_eq hx hb (a := 1) (by decide) (tgt := 15) dX12_readArticle_8 rfl (fun c386 => absurd c386 (by omega)) (fun c386 => ?_)
    refine lv_iconst (v := 0) hx hb dX12_readArticle_11 rfl ?_
    refine lv_goto (tgt := 49) hx hb dX12_readArticle_12 rfl ?_
    refine lv_istore_n hx hb dX12_readArticle_49 rfl hl (by decide) rfl (fun ls hl => ?_)
    replace hl : lv_has ls 2 [(1, .int 0), (0, .ref h0)] := hl
    refine lv_iload_n hx hb dX12_readArticle_50 rfl (lv_at hl 0 rfl) ?_
    refine q_if_ge hx hb (a := 0) (by decide) (tgt := 58) dX12_readArticle_51 rfl (fun c387 => ?_) (fun c387 => absurd c387 (by omega))
    refine lv_aload_n hx hb dX12_readArticle_58 rfl (lv_at hl 1 rfl) ?_
    refine q_getI E hC21 g0 fa_RX12_218 dX12_readArticle_59 (fun v388 ev388 lv388 uv388 => ?_)
    have m389 : (sI H21 h0 (X.1.2 11 12)).toInt = v388.toInt := (congrArg Int32.toInt ev388).trans rfl
    refine q_if_ne hx hb (a := v388.toInt) rfl (tgt := 88) dX12_readArticle_62 rfl (fun c390 => ?_) (fun c390 => ?_)
    · refine lv_aload_n hx hb dX12_readArticle_88 rfl (lv_at hl 1 rfl) ?_
      refine lv_iconst (v := 1) hx hb dX12_readArticle_89 rfl ?_
      refine q_goV (q_runV (As := [.int 1]) (rest := []) E hC21 hS22 (m_X12_must l X Γ H21 hC21 h0 g0 1 (a1 := 1) (by decide) ca gca uc (by omega) (by omega)) cw_X12_must cl_RX12_244 g0 ⟨rfl, rfl⟩ rfl hl.1 rfl (Nat.zero_le _) (by decide) dX12_readArticle_90) hS22 (fun H391 locs391 hr391 hC391 hS391 => ?_)
      obtain ⟨hp391, hr391⟩ := hr391
      have hKp391 := hKp21.tr (hp391.mono rfl)
      obtain ⟨f391_0, f391_1, f391_2, f391_3, f391_4⟩ := hr391
      refine lv_aload_n hx hb dX12_readArticle_93 rfl (lv_at hl 1 rfl) ?_
      refine q_getI E hC391 g0 fa_RX12_218 dX12_readArticle_94 (fun v392 ev392 lv392 uv392 => ?_)
      have m393 : (sI H391 h0 (X.1.2 11 12)).toInt = v392.toInt := (congrArg Int32.toInt ev392).trans rfl
      refine q_if_ne hx hb (a := v392.toInt) rfl (tgt := 161) dX12_readArticle_97 rfl (fun c394 => ?_) (fun c394 => ?_)
      · refine lv_aload_n hx hb dX12_readArticle_161 rfl (lv_at hl 1 rfl) ?_
        refine q_getI E hC391 g0 fa_RX12_218 dX12_readArticle_162 (fun v395 ev395 lv395 uv395 => ?_)
        have qv395 := ev392.symm.trans ev395; subst qv395
        refine q_if_ne hx hb (a := v392.toInt) rfl (tgt := 179) dX12_readArticle_165 rfl (fun c396 => ?_) (fun c396 => absurd c396 (by omega))
        have hz8 := tk_nn (sI H391 h0 (X.1.2 11 14)).toInt
        exact ret H391 locs391 _ _ dX12_readArticle_179 ⟨hKp391, ⟨by omega, by omega, by omega, by omega⟩⟩ hC391 hS391
      · refine lv_iload_n hx hb dX12_readArticle_100 rfl (lv_at hl 0 rfl) ?_
        refine lv_iconst (v := 2) hx hb dX12_readArticle_101 rfl ?_
        refine q_icmp_eq hx hb (a := 0) (b := 2) (by decide) (by decide) (tgt := 161) dX12_readArticle_102 rfl (fun c397 => absurd c397 (by omega)) (fun c397 => ?_)
        refine lv_aload_n hx hb dX12_readArticle_105 rfl (lv_at hl 1 rfl) ?_
        refine lv_iload_n hx hb dX12_readArticle_106 rfl (lv_at hl 0 rfl) ?_
        refine lv_iconst (v := 1) hx hb dX12_readArticle_107 rfl ?_
        refine q_icmp_ne hx hb (a := 0) (b := 1) (by decide) (by decide) (tgt := 118) dX12_readArticle_108 rfl (fun c398 => ?_) (fun c398 => absurd c398 (by omega))
        refine lv_aload_n hx hb dX12_readArticle_118 rfl (lv_at hl 1 rfl) ?_
        refine q_goIp (q_runV (As := []) (rest := [.ref h0]) E hC391 hS391 (m_X12_isAbove l X Γ H391 hC391 h0 g0 ca gca uc) cw_X12_isAbove cl_RX12_196 g0 ⟨rfl, rfl⟩ rfl hl.1 rfl (show _ ≤ _ from by simp [Value.category]) (by decide) dX12_readArticle_119) hS391 (fun v399 locs399 hr399 hS399 => ?_)
        have b399 : v399.toInt = 0 ∨ v399.toInt = 1 := hr399.imp (fun h => by rw [h]; decide) (fun h => by rw [h]; decide)
        refine q_goV (q_runV (As := [.int v399]) (rest := []) E hC391 hS399 (m_X12_must l X Γ H391 hC391 h0 g0 v399 (a1 := v399.toInt) rfl ca gca uc (by omega) (by omega)) cw_X12_must cl_RX12_244 g0 ⟨rfl, rfl⟩ rfl hl.1 rfl (Nat.zero_le _) (by decide) dX12_readArticle_122) hS399 (fun H400 locs400 hr400 hC400 hS400 => ?_)
        obtain ⟨hp400, hr400⟩ := hr400
        have hKp400 := hKp391.tr (hp400.mono rfl)
        obtain ⟨f400_0, f400_1, f400_2, f400_3, f400_4⟩ := hr400
        refine lv_aload_n hx hb dX12_readArticle_125 rfl (lv_at hl 1 rfl) ?_
        refine q_getC E hC400 g0 fa_RX12_35 uc dX12_readArticle_126 ?_
        refine lv_sipush (v := 2102) hx hb dX12_readArticle_129 rfl ?_
        refine lv_iload_n hx hb dX12_readArticle_132 rfl (lv_at hl 0 rfl) ?_
        refine lv_iadd hx hb dX12_readArticle_133 (lv_topi (fun v401 ev401 => ?_))
        have ev401i : v401.toInt = (2102 + 0) := i_add ev401 (by decide) (by decide) (by omega) (by omega)
        refine lv_aload_n hx hb dX12_readArticle_134 rfl (lv_at hl 1 rfl) ?_
        refine lv_iconst (v := 0) hx hb dX12_readArticle_135 rfl ?_
        refine lv_iload_n hx hb dX12_readArticle_136 rfl (lv_at hl 0 rfl) ?_
        refine q_if_ne hx hb (a := 0) (by decide) (tgt := 145) dX12_readArticle_137 rfl (fun c402 => absurd c402 (by omega)) (fun c402 => ?_)
        refine lv_bipush (v := 20) hx hb dX12_readArticle_140 rfl ?_
        refine lv_goto (tgt := 157) hx hb dX12_readArticle_142 rfl ?_
        refine q_goI (q_runV (As := [.int 0, .int 20]) (rest := [.int v401, .ref ca]) E hC400 hS400 (m_X12_count l X Γ H400 hC400 h0 g0 0 (a1 := 0) (by decide) 20 (a2 := 20) (by decide) ca gca uc (by omega) (by omega) (by omega) (by omega)) cw_X12_count cl_RX12_248 g0 ⟨rfl, rfl⟩ rfl hl.1 rfl (show _ ≤ _ from by simp [Value.category]) (by decide) dX12_readArticle_157) hS400 (fun v403 H403 locs403 hr403 hC403 hS403 => ?_)
        obtain ⟨hp403, hr403⟩ := hr403
        have hKp403 := hKp400.tr (hp403.mono rfl)
        obtain ⟨f403_0, f403_1, f403_2, f403_3, f403_4, f403_5, f403_6, f403_7⟩ := hr403
        refine q_cast E hC403 hS403 gca (a := (2102 + 0)) ev401i (by omega) (by omega) (cs_n16 (a := (2102 + 0)) (by omega) (by omega)) dX12_readArticle_160 (fun H404 locs404 hC404 hS404 U404 => ?_)
        have hKp404 := Kp.upD gca rfl rfl (fun _ => ⟨fun _ => nd4 (by omega) (by omega), fun _ => by unfold dpu; omega, fun _ => by unfold dpn; omega⟩) U404 hKp403
        have m405 : (sI H404 h0 (X.1.2 11 12)).toInt = (sI H403 h0 (X.1.2 11 12)).toInt := congrArg Int32.toInt (up_nI U404 (ne_k g0 gca (by decide)))
        have m406 : (sI H404 h0 (X.1.2 11 14)).toInt = (sI H403 h0 (X.1.2 11 14)).toInt := congrArg Int32.toInt (up_nI U404 (ne_k g0 gca (by decide)))
        have m407 := congrArg tk m406
        have m408 : (sI H404 h0 (X.1.2 11 16)).toInt = (sI H403 h0 (X.1.2 11 16)).toInt := congrArg Int32.toInt (up_nI U404 (ne_k g0 gca (by decide)))
        have e409 := up_I U404
        refine lv_aload_n hx hb dX12_readArticle_161 rfl (lv_at hl 1 rfl) ?_
        refine q_getI E hC404 g0 fa_RX12_218 dX12_readArticle_162 (fun v410 ev410 lv410 uv410 => ?_)
        have m411 : (sI H404 h0 (X.1.2 11 12)).toInt = v410.toInt := (congrArg Int32.toInt ev410).trans rfl
        refine q_if_ne hx hb (a := v410.toInt) rfl (tgt := 179) dX12_readArticle_165 rfl (fun c412 => ?_) (fun c412 => ?_)
        · have hz8 := tk_nn (sI H404 h0 (X.1.2 11 14)).toInt
          exact ret H404 locs404 _ _ dX12_readArticle_179 ⟨hKp404, ⟨by omega, by omega, by omega, by omega⟩⟩ hC404 hS404
        · refine lv_aload_n hx hb dX12_readArticle_168 rfl (lv_at hl 1 rfl) ?_
          refine q_getC E hC404 g0 fa_RX12_35 uc dX12_readArticle_169 ?_
          refine lv_sipush (v := 2098) hx hb dX12_readArticle_172 rfl ?_
          refine lv_iload_n hx hb dX12_readArticle_175 rfl (lv_at hl 0 rfl) ?_
          refine lv_iadd hx hb dX12_readArticle_176 (lv_topi (fun v413 ev413 => ?_))
          have ev413i : v413.toInt = (2098 + 0) := i_add ev413 (by decide) (by decide) (by omega) (by omega)
          refine lv_iconst (v := 1) hx hb dX12_readArticle_177 rfl ?_
          refine q_cast E hC404 hS404 gca (a := (2098 + 0)) ev413i (by omega) (by omega) (cs_n16 (a := (2098 + 0)) (by omega) (by omega)) dX12_readArticle_178 (fun H414 locs414 hC414 hS414 U414 => ?_)
          have hKp414 := Kp.upD gca rfl rfl (fun _ => ⟨fun _ => nd4 (by omega) (by omega), fun _ => by unfold dpu; omega, fun _ => by unfold dpn; omega⟩) U414 hKp404
          have m415 : (sI H414 h0 (X.1.2 11 12)).toInt = (sI H404 h0 (X.1.2 11 12)).toInt := congrArg Int32.toInt (up_nI U414 (ne_k g0 gca (by decide)))
          have m416 : (sI H414 h0 (X.1.2 11 14)).toInt = (sI H404 h0 (X.1.2 11 14)).toInt := congrArg Int32.toInt (up_nI U414 (ne_k g0 gca (by decide)))
          have m417 := congrArg tk m416
          have m418 : (sI H414 h0 (X.1.2 11 16)).toInt = (sI H404 h0 (X.1.2 11 16)).toInt := congrArg Int32.toInt (up_nI U414 (ne_k g0 gca (by decide)))
          have e419 := up_I U414
          have hz8 := tk_nn (sI H414 h0 (X.1.2 11 14)).toInt
          exact ret H414 locs414 _ _ dX12_readArticle_179 ⟨hKp414, ⟨by omega, by omega, by omega, by omega⟩⟩ hC414 hS414
    · refine lv_aload_n hx hb dX12_readArticle_65 rfl (lv_at hl 1 rfl) ?_
      refine q_getC E hC21 g0 fa_RX12_35 uc dX12_readArticle_66 ?_
      refine lv_sipush (v := 2098) hx hb dX12_readArticle_69 rfl ?_
      refine lv_iload_n hx hb dX12_readArticle_72 rfl (lv_at hl 0 rfl) ?_
      refine lv_iadd hx hb dX12_readArticle_73 (lv_topi (fun v420 ev420 => ?_))
      have ev420i : v420.toInt = (2098 + 0) := i_add ev420 (by decide) (by decide) (by omega) (by omega)
      refine q_cald E hC21 (lo := -2147483648) (hi := 2147483647) gca (a := (2098 + 0)) ev420i (by omega) (by omega) (cr_n16 (by omega) (by omega)) dX12_readArticle_74 (fun v421 ev421 _ _ => ?_)
      refine lv_iconst (v := 1) hx hb dX12_readArticle_75 rfl ?_
      refine q_icmp_ne hx hb (a := v421.toInt) (b := 1) rfl (by decide) (tgt := 88) dX12_readArticle_76 rfl (fun c422 => ?_) (fun c422 => ?_)
      · refine lv_aload_n hx hb dX12_readArticle_88 rfl (lv_at hl 1 rfl) ?_
        refine lv_iconst (v := 1) hx hb dX12_readArticle_89 rfl ?_
        refine q_goV (q_runV (As := [.int 1]) (rest := []) E hC21 hS22 (m_X12_must l X Γ H21 hC21 h0 g0 1 (a1 := 1) (by decide) ca gca uc (by omega) (by omega)) cw_X12_must cl_RX12_244 g0 ⟨rfl, rfl⟩ rfl hl.1 rfl (Nat.zero_le _) (by decide) dX12_readArticle_90) hS22 (fun H423 locs423 hr423 hC423 hS423 => ?_)
        obtain ⟨hp423, hr423⟩ := hr423
        have hKp423 := hKp21.tr (hp423.mono rfl)
        obtain ⟨f423_0, f423_1, f423_2, f423_3, f423_4⟩ := hr423
        refine lv_aload_n hx hb dX12_readArticle_93 rfl (lv_at hl 1 rfl) ?_
        refine q_getI E hC423 g0 fa_RX12_218 dX12_readArticle_94 (fun v424 ev424 lv424 uv424 => ?_)
        have m425 : (sI H423 h0 (X.1.2 11 12)).toInt = v424.toInt := (congrArg Int32.toInt ev424).trans rfl
        refine q_if_ne hx hb (a := v424.toInt) rfl (tgt := 161) dX12_readArticle_97 rfl (fun c426 => ?_) (fun c426 => ?_)
        · refine lv_aload_n hx hb dX12_readArticle_161 rfl (lv_at hl 1 rfl) ?_
          refine q_getI E hC423 g0 fa_RX12_218 dX12_readArticle_162 (fun v427 ev427 lv427 uv427 => ?_)
          have qv427 := ev424.symm.trans ev427; subst qv427
          refine q_if_ne hx hb (a := v424.toInt) rfl (tgt := 179) dX12_readArticle_165 rfl (fun c428 => ?_) (fun c428 => absurd c428 (by omega))
          have hz8 := tk_nn (sI H423 h0 (X.1.2 11 14)).toInt
          exact ret H423 locs423 _ _ dX12_readArticle_179 ⟨hKp423, ⟨by omega, by omega, by omega, by omega⟩⟩ hC423 hS423
        · refine lv_iload_n hx hb dX12_readArticle_100 rfl (lv_at hl 0 rfl) ?_
          refine lv_iconst (v := 2) hx hb dX12_readArticle_101 rfl ?_
          refine q_icmp_eq hx hb (a := 0) (b := 2) (by decide) (by decide) (tgt := 161) dX12_readArticle_102 rfl (fun c429 => absurd c429 (by omega)) (fun c429 => ?_)
          refine lv_aload_n hx hb dX12_readArticle_105 rfl (lv_at hl 1 rfl) ?_
          refine lv_iload_n hx hb dX12_readArticle_106 rfl (lv_at hl 0 rfl) ?_
          refine lv_iconst (v := 1) hx hb dX12_readArticle_107 rfl ?_
          refine q_icmp_ne hx hb (a := 0) (b := 1) (by decide) (by decide) (tgt := 118) dX12_readArticle_108 rfl (fun c430 => ?_) (fun c430 => absurd c430 (by omega))
          refine lv_aload_n hx hb dX12_readArticle_118 rfl (lv_at hl 1 rfl) ?_
          refine q_goIp (q_runV (As := []) (rest := [.ref h0]) E hC423 hS423 (m_X12_isAbove l X Γ H423 hC423 h0 g0 ca gca uc) cw_X12_isAbove cl_RX12_196 g0 ⟨rfl, rfl⟩ rfl hl.1 rfl (show _ ≤ _ from by simp [Value.category]) (by decide) dX12_readArticle_119) hS423 (fun v431 locs431 hr431 hS431 => ?_)
          have b431 : v431.toInt = 0 ∨ v431.toInt = 1 := hr431.imp (fun h => by rw [h]; decide) (fun h => by rw [h]; decide)
          refine q_goV (q_runV (As := [.int v431]) (rest := []) E hC423 hS431 (m_X12_must l X Γ H423 hC423 h0 g0 v431 (a1 := v431.toInt) rfl ca gca uc (by omega) (by omega)) cw_X12_must cl_RX12_244 g0 ⟨rfl, rfl⟩ rfl hl.1 rfl (Nat.zero_le _) (by decide) dX12_readArticle_122) hS431 (fun H432 locs432 hr432 hC432 hS432 => ?_)
          obtain ⟨hp432, hr432⟩ := hr432
          have hKp432 := hKp423.tr (hp432.mono rfl)
          obtain ⟨f432_0, f432_1, f432_2, f432_3, f432_4⟩ := hr432
          refine lv_aload_n hx hb dX12_readArticle_125 rfl (lv_at hl 1 rfl) ?_
          refine q_getC E hC432 g0 fa_RX12_35 uc dX12_readArticle_126 ?_
          refine lv_sipush (v := 2102) hx hb dX12_readArticle_129 rfl ?_
          refine lv_iload_n hx hb dX12_readArticle_132 rfl (lv_at hl 0 rfl) ?_
          refine lv_iadd hx hb dX12_readArticle_133 (lv_topi (fun v433 ev433 => ?_))
          have ev433i : v433.toInt = (2102 + 0) := i_add ev433 (by decide) (by decide) (by omega) (by omega)
          refine lv_aload_n hx hb dX12_readArticle_134 rfl (lv_at hl 1 rfl) ?_
          refine lv_iconst (v := 0) hx hb dX12_readArticle_135 rfl ?_
          refine lv_iload_n hx hb dX12_readArticle_136 rfl (lv_at hl 0 rfl) ?_
          refine q_if_ne hx hb (a := 0) (by decide) (tgt := 145) dX12_readArticle_137 rfl (fun c434 => absurd c434 (by omega)) (fun c434 => ?_)
          refine lv_bipush (v := 20) hx hb dX12_readArticle_140 rfl ?_
          refine lv_goto (tgt := 157) hx hb dX12_readArticle_142 rfl ?_
          refine q_goI (q_runV (As := [.int 0, .int 20]) (rest := [.int v433, .ref ca]) E hC432 hS432 (m_X12_count l X Γ H432 hC432 h0 g0 0 (a1 := 0) (by decide) 20 (a2 := 20) (by decide) ca gca uc (by omega) (by omega) (by omega) (by omega)) cw_X12_count cl_RX12_248 g0 ⟨rfl, rfl⟩ rfl hl.1 rfl (show _ ≤ _ from by simp [Value.category]) (by decide) dX12_readArticle_157) hS432 (fun v435 H435 locs435 hr435 hC435 hS435 => ?_)
          obtain ⟨hp435, hr435⟩ := hr435
          have hKp435 := hKp432.tr (hp435.mono rfl)
          obtain ⟨f435_0, f435_1, f435_2, f435_3, f435_4, f435_5, f435_6, f435_7⟩ := hr435
          refine q_cast E hC435 hS435 gca (a := (2102 + 0)) ev433i (by omega) (by omega) (cs_n16 (a := (2102 + 0)) (by omega) (by omega)) dX12_readArticle_160 (fun H436 locs436 hC436 hS436 U436 => ?_)
          have hKp436 := Kp.upD gca rfl rfl (fun _ => ⟨fun _ => nd4 (by omega) (by omega), fun _ => by unfold dpu; omega, fun _ => by unfold dpn; omega⟩) U436 hKp435
          have m437 : (sI H436 h0 (X.1.2 11 12)).toInt = (sI H435 h0 (X.1.2 11 12)).toInt := congrArg Int32.toInt (up_nI U436 (ne_k g0 gca (by decide)))
          have m438 : (sI H436 h0 (X.1.2 11 14)).toInt = (sI H435 h0 (X.1.2 11 14)).toInt := congrArg Int32.toInt (up_nI U436 (ne_k g0 gca (by decide)))
          have m439 := congrArg tk m438
          have m440 : (sI H436 h0 (X.1.2 11 16)).toInt = (sI H435 h0 (X.1.2 11 16)).toInt := congrArg Int32.toInt (up_nI U436 (ne_k g0 gca (by decide)))
          have e441 := up_I U436
          refine lv_aload_n hx hb dX12_readArticle_161 rfl (lv_at hl 1 rfl) ?_
          refine q_getI E hC436 g0 fa_RX12_218 dX12_readArticle_162 (fun v442 ev442 lv442 uv442 => ?_)
          have m443 : (sI H436 h0 (X.1.2 11 12)).toInt = v442.toInt := (congrArg Int32.toInt ev442).trans rfl
          refine q_if_ne hx hb (a := v442.toInt) rfl (tgt := 179) dX12_readArticle_165 rfl (fun c444 => ?_) (fun c444 => ?_)
          · have hz8 := tk_nn (sI H436 h0 (X.1.2 11 14)).toInt
            exact ret H436 locs436 _ _ dX12_readArticle_179 ⟨hKp436, ⟨by omega, by omega, by omega, by omega⟩⟩ hC436 hS436
          · refine lv_aload_n hx hb dX12_readArticle_168 rfl (lv_at hl 1 rfl) ?_
            refine q_getC E hC436 g0 fa_RX12_35 uc dX12_readArticle_169 ?_
            refine lv_sipush (v := 2098) hx hb dX12_readArticle_172 rfl ?_
            refine lv_iload_n hx hb dX12_readArticle_175 rfl (lv_at hl 0 rfl) ?_
            refine lv_iadd hx hb dX12_readArticle_176 (lv_topi (fun v445 ev445 => ?_))
            have ev445i : v445.toInt = (2098 + 0) := i_add ev445 (by decide) (by decide) (by omega) (by omega)
            refine lv_iconst (v := 1) hx hb dX12_readArticle_177 rfl ?_
            refine q_cast E hC436 hS436 gca (a := (2098 + 0)) ev445i (by omega) (by omega) (cs_n16 (a := (2098 + 0)) (by omega) (by omega)) dX12_readArticle_178 (fun H446 locs446 hC446 hS446 U446 => ?_)
            have hKp446 := Kp.upD gca rfl rfl (fun _ => ⟨fun _ => nd4 (by omega) (by omega), fun _ => by unfold dpu; omega, fun _ => by unfold dpn; omega⟩) U446 hKp436
            have m447 : (sI H446 h0 (X.1.2 11 12)).toInt = (sI H436 h0 (X.1.2 11 12)).toInt := congrArg Int32.toInt (up_nI U446 (ne_k g0 gca (by decide)))
            have m448 : (sI H446 h0 (X.1.2 11 14)).toInt = (sI H436 h0 (X.1.2 11 14)).toInt := congrArg Int32.toInt (up_nI U446 (ne_k g0 gca (by decide)))
            have m449 := congrArg tk m448
            have m450 : (sI H446 h0 (X.1.2 11 16)).toInt = (sI H436 h0 (X.1.2 11 16)).toInt := congrArg Int32.toInt (up_nI U446 (ne_k g0 gca (by decide)))
            have e451 := up_I U446
            have hz8 := tk_nn (sI H446 h0 (X.1.2 11 14)).toInt
            exact ret H446 locs446 _ _ dX12_readArticle_179 ⟨hKp446, ⟨by omega, by omega, by omega, by omega⟩⟩ hC446 hS446
      · refine lv_aload_n hx hb dX12_readArticle_79 rfl (lv_at hl 1 rfl) ?_
        refine lv_iconst (v := 5) hx hb dX12_readArticle_80 rfl ?_
        refine lv_aload_n hx hb dX12_readArticle_81 rfl (lv_at hl 1 rfl) ?_
        refine q_getI E hC21 g0 fa_RX12_114 dX12_readArticle_82 (fun v452 ev452 lv452 uv452 => ?_)
        refine q_goV (q_runV (As := [.int 5, .int v452]) (rest := []) E hC21 hS22 (m_X12_fail l X Γ H21 hC21 h0 g0 5 (a1 := 5) (by decide) v452 (a2 := v452.toInt) rfl ca gca uc (by omega) (by omega)) cw_X12_fail cl_RX12_224 g0 ⟨rfl, rfl⟩ rfl hl.1 rfl (Nat.zero_le _) (by decide) dX12_readArticle_85) hS22 (fun H453 locs453 hr453 hC453 hS453 => ?_)
        obtain ⟨hp453, hr453⟩ := hr453
        have hKp453 := hKp21.tr (hp453.mono rfl)
        obtain ⟨f453_0, f453_1, f453_2, f453_3⟩ := hr453
        refine lv_aload_n hx hb dX12_readArticle_88 rfl (lv_at hl 1 rfl) ?_
        refine lv_iconst (v := 1) hx hb dX12_readArticle_89 rfl ?_
        refine q_goV (q_runV (As := [.int 1]) (rest := []) E hC453 hS453 (m_X12_must l X Γ H453 hC453 h0 g0 1 (a1 := 1) (by decide) ca gca uc (by omega) (by omega)) cw_X12_must cl_RX12_244 g0 ⟨rfl, rfl⟩ rfl hl.1 rfl (Nat.zero_le _) (by decide) dX12_readArticle_90) hS453 (fun H454 locs454 hr454 hC454 hS454 => ?_)
        obtain ⟨hp454, hr454⟩ := hr454
        have hKp454 := hKp453.tr (hp454.mono rfl)
        obtain ⟨f454_0, f454_1, f454_2, f454_3, f454_4⟩ := hr454
        refine lv_aload_n hx hb dX12_readArticle_93 rfl (lv_at hl 1 rfl) ?_
        refine q_getI E hC454 g0 fa_RX12_218 dX12_readArticle_94 (fun v455 ev455 lv455 uv455 => ?_)
        have m456 : (sI H454 h0 (X.1.2 11 12)).toInt = v455.toInt := (congrArg Int32.toInt ev455).trans rfl
        refine q_if_ne hx hb (a := v455.toInt) rfl (tgt := 161) dX12_readArticle_97 rfl (fun c457 => ?_) (fun c457 => ?_)
        · refine lv_aload_n hx hb dX12_readArticle_161 rfl (lv_at hl 1 rfl) ?_
          refine q_getI E hC454 g0 fa_RX12_218 dX12_readArticle_162 (fun v458 ev458 lv458 uv458 => ?_)
          have qv458 := ev455.symm.trans ev458; subst qv458
          refine q_if_ne hx hb (a := v455.toInt) rfl (tgt := 179) dX12_readArticle_165 rfl (fun c459 => ?_) (fun c459 => absurd c459 (by omega))
          have hz8 := tk_nn (sI H454 h0 (X.1.2 11 14)).toInt
          exact ret H454 locs454 _ _ dX12_readArticle_179 ⟨hKp454, ⟨by omega, by omega, by omega, by omega⟩⟩ hC454 hS454
        · refine lv_iload_n hx hb dX12_readArticle_100 rfl (lv_at hl 0 rfl) ?_
          refine lv_iconst (v := 2) hx hb dX12_readArticle_101 rfl ?_
          refine q_icmp_eq hx hb (a := 0) (b := 2) (by decide) (by decide) (tgt := 161) dX12_readArticle_102 rfl (fun c460 => absurd c460 (by omega)) (fun c460 => ?_)
          refine lv_aload_n hx hb dX12_readArticle_105 rfl (lv_at hl 1 rfl) ?_
          refine lv_iload_n hx hb dX12_readArticle_106 rfl (lv_at hl 0 rfl) ?_
          refine lv_iconst (v := 1) hx hb dX12_readArticle_107 rfl ?_
          refine q_icmp_ne hx hb (a := 0) (b := 1) (by decide) (by decide) (tgt := 118) dX12_readArticle_108 rfl (fun c461 => ?_) (fun c461 => absurd c461 (by omega))
          refine lv_aload_n hx hb dX12_readArticle_118 rfl (lv_at hl 1 rfl) ?_
          refine q_goIp (q_runV (As := []) (rest := [.ref h0]) E hC454 hS454 (m_X12_isAbove l X Γ H454 hC454 h0 g0 ca gca uc) cw_X12_isAbove cl_RX12_196 g0 ⟨rfl, rfl⟩ rfl hl.1 rfl (show _ ≤ _ from by simp [Value.category]) (by decide) dX12_readArticle_119) hS454 (fun v462 locs462 hr462 hS462 => ?_)
          have b462 : v462.toInt = 0 ∨ v462.toInt = 1 := hr462.imp (fun h => by rw [h]; decide) (fun h => by rw [h]; decide)
          refine q_goV (q_runV (As := [.int v462]) (rest := []) E hC454 hS462 (m_X12_must l X Γ H454 hC454 h0 g0 v462 (a1 := v462.toInt) rfl ca gca uc (by omega) (by omega)) cw_X12_must cl_RX12_244 g0 ⟨rfl, rfl⟩ rfl hl.1 rfl (Nat.zero_le _) (by decide) dX12_readArticle_122) hS462 (fun H463 locs463 hr463 hC463 hS463 => ?_)
          obtain ⟨hp463, hr463⟩ := hr463
          have hKp463 := hKp454.tr (hp463.mono rfl)
          obtain ⟨f463_0, f463_1, f463_2, f463_3, f463_4⟩ := hr463
          refine lv_aload_n hx hb dX12_readArticle_125 rfl (lv_at hl 1 rfl) ?_
          refine q_getC E hC463 g0 fa_RX12_35 uc dX12_readArticle_126 ?_
          refine lv_sipush (v := 2102) hx hb dX12_readArticle_129 rfl ?_
          refine lv_iload_n hx hb dX12_readArticle_132 rfl (lv_at hl 0 rfl) ?_
          refine lv_iadd hx hb dX12_readArticle_133 (lv_topi (fun v464 ev464 => ?_))
          have ev464i : v464.toInt = (2102 + 0) := i_add ev464 (by decide) (by decide) (by omega) (by omega)
          refine lv_aload_n hx hb dX12_readArticle_134 rfl (lv_at hl 1 rfl) ?_
          refine lv_iconst (v := 0) hx hb dX12_readArticle_135 rfl ?_
          refine lv_iload_n hx hb dX12_readArticle_136 rfl (lv_at hl 0 rfl) ?_
          refine q_if_ne hx hb (a := 0) (by decide) (tgt := 145) dX12_readArticle_137 rfl (fun c465 => absurd c465 (by omega)) (fun c465 => ?_)
          refine lv_bipush (v := 20) hx hb dX12_readArticle_140 rfl ?_
          refine lv_goto (tgt := 157) hx hb dX12_readArticle_142 rfl ?_
          refine q_goI (q_runV (As := [.int 0, .int 20]) (rest := [.int v464, .ref ca]) E hC463 hS463 (m_X12_count l X Γ H463 hC463 h0 g0 0 (a1 := 0) (by decide) 20 (a2 := 20) (by decide) ca gca uc (by omega) (by omega) (by omega) (by omega)) cw_X12_count cl_RX12_248 g0 ⟨rfl, rfl⟩ rfl hl.1 rfl (show _ ≤ _ from by simp [Value.category]) (by decide) dX12_readArticle_157) hS463 (fun v466 H466 locs466 hr466 hC466 hS466 => ?_)
          obtain ⟨hp466, hr466⟩ := hr466
          have hKp466 := hKp463.tr (hp466.mono rfl)
          obtain ⟨f466_0, f466_1, f466_2, f466_3, f466_4, f466_5, f466_6, f466_7⟩ := hr466
          refine q_cast E hC466 hS466 gca (a := (2102 + 0)) ev464i (by omega) (by omega) (cs_n16 (a := (2102 + 0)) (by omega) (by omega)) dX12_readArticle_160 (fun H467 locs467 hC467 hS467 U467 => ?_)
          have hKp467 := Kp.upD gca rfl rfl (fun _ => ⟨fun _ => nd4 (by omega) (by omega), fun _ => by unfold dpu; omega, fun _ => by unfold dpn; omega⟩) U467 hKp466
          have m468 : (sI H467 h0 (X.1.2 11 12)).toInt = (sI H466 h0 (X.1.2 11 12)).toInt := congrArg Int32.toInt (up_nI U467 (ne_k g0 gca (by decide)))
          have m469 : (sI H467 h0 (X.1.2 11 14)).toInt = (sI H466 h0 (X.1.2 11 14)).toInt := congrArg Int32.toInt (up_nI U467 (ne_k g0 gca (by decide)))
          have m470 := congrArg tk m469
          have m471 : (sI H467 h0 (X.1.2 11 16)).toInt = (sI H466 h0 (X.1.2 11 16)).toInt := congrArg Int32.toInt (up_nI U467 (ne_k g0 gca (by decide)))
          have e472 := up_I U467
          refine lv_aload_n hx hb dX12_readArticle_161 rfl (lv_at hl 1 rfl) ?_
          refine q_getI E hC467 g0 fa_RX12_218 dX12_readArticle_162 (fun v473 ev473 lv473 uv473 => ?_)
          have m474 : (sI H467 h0 (X.1.2 11 12)).toInt = v473.toInt := (congrArg Int32.toInt ev473).trans rfl
          refine q_if_ne hx hb (a := v473.toInt) rfl (tgt := 179) dX12_readArticle_165 rfl (fun c475 => ?_) (fun c475 => ?_)
          · have hz8 := tk_nn (sI H467 h0 (X.1.2 11 14)).toInt
            exact ret H467 locs467 _ _ dX12_readArticle_179 ⟨hKp467, ⟨by omega, by omega, by omega, by omega⟩⟩ hC467 hS467
          · refine lv_aload_n hx hb dX12_readArticle_168 rfl (lv_at hl 1 rfl) ?_
            refine q_getC E hC467 g0 fa_RX12_35 uc dX12_readArticle_169 ?_
            refine lv_sipush (v := 2098) hx hb dX12_readArticle_172 rfl ?_
            refine lv_iload_n hx hb dX12_readArticle_175 rfl (lv_at hl 0 rfl) ?_
            refine lv_iadd hx hb dX12_readArticle_176 (lv_topi (fun v476 ev476 => ?_))
            have ev476i : v476.toInt = (2098 + 0) := i_add ev476 (by decide) (by decide) (by omega) (by omega)
            refine lv_iconst (v := 1) hx hb dX12_readArticle_177 rfl ?_
            refine q_cast E hC467 hS467 gca (a := (2098 + 0)) ev476i (by omega) (by omega) (cs_n16 (a := (2098 + 0)) (by omega) (by omega)) dX12_readArticle_178 (fun H477 locs477 hC477 hS477 U477 => ?_)
            have hKp477 := Kp.upD gca rfl rfl (fun _ => ⟨fun _ => nd4 (by omega) (by omega), fun _ => by unfold dpu; omega, fun _ => by unfold dpn; omega⟩) U477 hKp467
            have m478 : (sI H477 h0 (X.1.2 11 12)).toInt = (sI H467 h0 (X.1.2 11 12)).toInt := congrArg Int32.toInt (up_nI U477 (ne_k g0 gca (by decide)))
            have m479 : (sI H477 h0 (X.1.2 11 14)).toInt = (sI H467 h0 (X.1.2 11 14)).toInt := congrArg Int32.toInt (up_nI U477 (ne_k g0 gca (by decide)))
            have m480 := congrArg tk m479
            have m481 : (sI H477 h0 (X.1.2 11 16)).toInt = (sI H467 h0 (X.1.2 11 16)).toInt := congrArg Int32.toInt (up_nI U477 (ne_k g0 gca (by decide)))
            have e482 := up_I U477
            have hz8 := tk_nn (sI H477 h0 (X.1.2 11 14)).toInt
            exact ret H477 locs477 _ _ dX12_readArticle_179 ⟨hKp477, ⟨by omega, by omega, by omega, by omega⟩⟩ hC477 hS477
