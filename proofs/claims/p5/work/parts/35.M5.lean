set_option maxRecDepth 100000 in
set_option maxHeartbeats 4000000 in
theorem m_X12_readArticle (l : Launch) (X : xW) (Γ : Nat → Option Nat) (H0 : Heap) (hC0 : Conf X Γ H0) (h0 : Nat) (g0 : Γ h0 = some 11) (ca : Nat) (gca : Γ ca = some 64) (uc : ∀ a, Γ a = some 64 → a = ca) : Ctr l X Γ yX12_readArticle cX12_readArticle 2 none 3 [.ref h0] H0 (QV X Γ (fun H1 => Kp X Γ [1, 6, 7, 8, 9, 10, 11, 12, 14, 16, 17] H0 H1 ∧ (((sI H0 h0 (X.1.2 11 16)).toInt ≤ (sI H1 h0 (X.1.2 11 16)).toInt) ∧ ((sI H0 h0 (X.1.2 11 16)).toInt < (sI H1 h0 (X.1.2 11 16)).toInt + tk (sI H1 h0 (X.1.2 11 14)).toInt + 2000 * (sI H1 h0 (X.1.2 11 12)).toInt) ∧ ((sI H0 h0 (X.1.2 11 12)).toInt ≤ 7 * (sI H1 h0 (X.1.2 11 12)).toInt) ∧ (0 ≤ (sI H1 h0 (X.1.2 11 12)).toInt)))) := by
  refine q_enterV (own := "SnowFortsModel") (by decide) rfl (Nat.le_of_ble_eq_true rfl) ?_
  intro p e s m args below meth c ls Qz E hl ret hS0
  have hx := E.1; have hb := E.2.1
  have hKp0 : Kp X Γ [1, 6, 7, 8, 9, 10, 11, 12, 14, 16, 17] H0 H0 := Kp.rf
  have hl : lv_has ls 2 [(0, .ref h0)] := hl
  have hz1 := f_bd hC0 g0 (ci := 11) (k := 16) rfl rfl
  have hz2 := f_bd hC0 g0 (ci := 11) (k := 12) rfl rfl
  refine lv_aload_n hx hb dX12_readArticle_0 rfl (lv_at hl 0 rfl) ?_
  refine q_goV (q_runV (As := []) (rest := []) E hC0 hS0 (m_X12_next l X Γ H0 hC0 h0 g0 ca gca uc) cw_X12_next cl_RX12_228 g0 ⟨rfl, rfl⟩ rfl hl.1 rfl (Nat.zero_le _) (by decide) dX12_readArticle_1) hS0 (fun H21 locs21 hr21 hC21 hS21 => ?_)
  obtain ⟨hp21, hr21⟩ := hr21
  have hKp21 := hKp0.tr (hp21.mono rfl)
  obtain ⟨f21_0, f21_1, f21_2⟩ := hr21
  refine lv_aload_n hx hb dX12_readArticle_4 rfl (lv_at hl 0 rfl) ?_
  refine q_goIp (q_runV (As := []) (rest := []) E hC21 hS21 (m_X12_isWall l X Γ H21 hC21 h0 g0 ca gca uc) cw_X12_isWall cl_RX12_163 g0 ⟨rfl, rfl⟩ rfl hl.1 rfl (Nat.zero_le _) (by decide) dX12_readArticle_5) hS21 (fun v22 locs22 hr22 hS22 => ?_)
  rcases hr22 with rfl | rfl
  · refine q_if_eq hx hb (a := 0) (by decide) (tgt := 15) dX12_readArticle_8 rfl (fun c23 => ?_) (fun c23 => absurd c23 (by omega))
    refine lv_aload_n hx hb dX12_readArticle_15 rfl (lv_at hl 0 rfl) ?_
    refine q_goIp (q_runV (As := []) (rest := []) E hC21 hS22 (m_X12_isBuild l X Γ H21 hC21 h0 g0 ca gca uc) cw_X12_isBuild cl_RX12_153 g0 ⟨rfl, rfl⟩ rfl hl.1 rfl (Nat.zero_le _) (by decide) dX12_readArticle_16) hS22 (fun v24 locs24 hr24 hS24 => ?_)
    rcases hr24 with rfl | rfl
    · refine q_if_eq hx hb (a := 0) (by decide) (tgt := 26) dX12_readArticle_19 rfl (fun c25 => ?_) (fun c25 => absurd c25 (by omega))
      refine lv_aload_n hx hb dX12_readArticle_26 rfl (lv_at hl 0 rfl) ?_
      refine q_goIp (q_runV (As := []) (rest := []) E hC21 hS24 (m_X12_isSteal l X Γ H21 hC21 h0 g0 ca gca uc) cw_X12_isSteal cl_RX12_160 g0 ⟨rfl, rfl⟩ rfl hl.1 rfl (Nat.zero_le _) (by decide) dX12_readArticle_27) hS24 (fun v26 locs26 hr26 hS26 => ?_)
      rcases hr26 with rfl | rfl
      · refine q_if_eq hx hb (a := 0) (by decide) (tgt := 37) dX12_readArticle_30 rfl (fun c27 => ?_) (fun c27 => absurd c27 (by omega))
        refine lv_aload_n hx hb dX12_readArticle_37 rfl (lv_at hl 0 rfl) ?_
        refine q_goIp (q_runV (As := []) (rest := []) E hC21 hS26 (m_X12_isIce l X Γ H21 hC21 h0 g0 ca gca uc) cw_X12_isIce cl_RX12_157 g0 ⟨rfl, rfl⟩ rfl hl.1 rfl (Nat.zero_le _) (by decide) dX12_readArticle_38) hS26 (fun v28 locs28 hr28 hS28 => ?_)
        rcases hr28 with rfl | rfl
        · refine q_if_eq hx hb (a := 0) (by decide) (tgt := 48) dX12_readArticle_41 rfl (fun c29 => ?_) (fun c29 => absurd c29 (by omega))
          refine lv_iconst (v := (-1)) hx hb dX12_readArticle_48 rfl ?_
          refine lv_istore_n hx hb dX12_readArticle_49 rfl hl (by decide) rfl (fun ls hl => ?_)
          have hl : lv_has ls 2 [(1, .int (-1)), (0, .ref h0)] := hl
          refine lv_iload_n hx hb dX12_readArticle_50 rfl (lv_at hl 0 rfl) ?_
          refine q_if_ge hx hb (a := (-1)) (by decide) (tgt := 58) dX12_readArticle_51 rfl (fun c30 => absurd c30 (by omega)) (fun c30 => ?_)
          refine lv_aload_n hx hb dX12_readArticle_54 rfl (lv_at hl 1 rfl) ?_
          refine q_goV (q_runV (As := []) (rest := []) E hC21 hS28 (m_X12_wrong l X Γ H21 hC21 h0 g0 ca gca uc) cw_X12_wrong cl_RX12_231 g0 ⟨rfl, rfl⟩ rfl hl.1 rfl (Nat.zero_le _) (by decide) dX12_readArticle_55) hS28 (fun H31 locs31 hr31 hC31 hS31 => ?_)
          obtain ⟨hp31, hr31⟩ := hr31
          have hKp31 := hKp21.tr (hp31.mono rfl)
          obtain ⟨f31_0, f31_1, f31_2, f31_3⟩ := hr31
          refine lv_aload_n hx hb dX12_readArticle_58 rfl (lv_at hl 1 rfl) ?_
          refine q_getI E hC31 g0 fa_RX12_218 dX12_readArticle_59 (fun v32 ev32 lv32 uv32 => ?_)
          have m33 : (sI H31 h0 (X.1.2 11 12)).toInt = v32.toInt := (congrArg Int32.toInt ev32).trans rfl
          refine q_if_ne hx hb (a := v32.toInt) rfl (tgt := 88) dX12_readArticle_62 rfl (fun c34 => ?_) (fun c34 => ?_)
          · refine lv_aload_n hx hb dX12_readArticle_88 rfl (lv_at hl 1 rfl) ?_
            refine lv_iconst (v := 1) hx hb dX12_readArticle_89 rfl ?_
            refine q_goV (q_runV (As := [.int 1]) (rest := []) E hC31 hS31 (m_X12_must l X Γ H31 hC31 h0 g0 1 (a1 := 1) (by decide) ca gca uc (by omega) (by omega)) cw_X12_must cl_RX12_244 g0 ⟨rfl, rfl⟩ rfl hl.1 rfl (Nat.zero_le _) (by decide) dX12_readArticle_90) hS31 (fun H35 locs35 hr35 hC35 hS35 => ?_)
            obtain ⟨hp35, hr35⟩ := hr35
            have hKp35 := hKp31.tr (hp35.mono rfl)
            obtain ⟨f35_0, f35_1, f35_2, f35_3, f35_4⟩ := hr35
            refine lv_aload_n hx hb dX12_readArticle_93 rfl (lv_at hl 1 rfl) ?_
            refine q_getI E hC35 g0 fa_RX12_218 dX12_readArticle_94 (fun v36 ev36 lv36 uv36 => ?_)
            have m37 : (sI H35 h0 (X.1.2 11 12)).toInt = v36.toInt := (congrArg Int32.toInt ev36).trans rfl
            refine q_if_ne hx hb (a := v36.toInt) rfl (tgt := 161) dX12_readArticle_97 rfl (fun c38 => ?_) (fun c38 => ?_)
            · refine lv_aload_n hx hb dX12_readArticle_161 rfl (lv_at hl 1 rfl) ?_
              refine q_getI E hC35 g0 fa_RX12_218 dX12_readArticle_162 (fun v39 ev39 lv39 uv39 => ?_)
              have qv39 := ev36.symm.trans ev39; subst qv39
              refine q_if_ne hx hb (a := v36.toInt) rfl (tgt := 179) dX12_readArticle_165 rfl (fun c40 => ?_) (fun c40 => absurd c40 (by omega))
              have hz8 := tk_nn (sI H35 h0 (X.1.2 11 14)).toInt
              exact ret H35 locs35 _ _ dX12_readArticle_179 ⟨hKp35, ⟨by omega, by omega, by omega, by omega⟩⟩ hC35 hS35
            · refine lv_iload_n hx hb dX12_readArticle_100 rfl (lv_at hl 0 rfl) ?_
              refine lv_iconst (v := 2) hx hb dX12_readArticle_101 rfl ?_
              refine q_icmp_eq hx hb (a := (-1)) (b := 2) (by decide) (by decide) (tgt := 161) dX12_readArticle_102 rfl (fun c41 => absurd c41 (by omega)) (fun c41 => ?_)
              refine lv_aload_n hx hb dX12_readArticle_105 rfl (lv_at hl 1 rfl) ?_
              refine lv_iload_n hx hb dX12_readArticle_106 rfl (lv_at hl 0 rfl) ?_
              refine lv_iconst (v := 1) hx hb dX12_readArticle_107 rfl ?_
              refine q_icmp_ne hx hb (a := (-1)) (b := 1) (by decide) (by decide) (tgt := 118) dX12_readArticle_108 rfl (fun c42 => ?_) (fun c42 => absurd c42 (by omega))
              refine lv_aload_n hx hb dX12_readArticle_118 rfl (lv_at hl 1 rfl) ?_
              refine q_goIp (q_runV (As := []) (rest := [.ref h0]) E hC35 hS35 (m_X12_isAbove l X Γ H35 hC35 h0 g0 ca gca uc) cw_X12_isAbove cl_RX12_196 g0 ⟨rfl, rfl⟩ rfl hl.1 rfl (show _ ≤ _ from by simp [Value.category]) (by decide) dX12_readArticle_119) hS35 (fun v43 locs43 hr43 hS43 => ?_)
              have b43 : v43.toInt = 0 ∨ v43.toInt = 1 := hr43.imp (fun h => by rw [h]; decide) (fun h => by rw [h]; decide)
              refine q_goV (q_runV (As := [.int v43]) (rest := []) E hC35 hS43 (m_X12_must l X Γ H35 hC35 h0 g0 v43 (a1 := v43.toInt) rfl ca gca uc (by omega) (by omega)) cw_X12_must cl_RX12_244 g0 ⟨rfl, rfl⟩ rfl hl.1 rfl (Nat.zero_le _) (by decide) dX12_readArticle_122) hS43 (fun H44 locs44 hr44 hC44 hS44 => ?_)
              obtain ⟨hp44, hr44⟩ := hr44
              have hKp44 := hKp35.tr (hp44.mono rfl)
              obtain ⟨f44_0, f44_1, f44_2, f44_3, f44_4⟩ := hr44
              refine lv_aload_n hx hb dX12_readArticle_125 rfl (lv_at hl 1 rfl) ?_
              refine q_getC E hC44 g0 fa_RX12_35 uc dX12_readArticle_126 ?_
              refine lv_sipush (v := 2102) hx hb dX12_readArticle_129 rfl ?_
              refine lv_iload_n hx hb dX12_readArticle_132 rfl (lv_at hl 0 rfl) ?_
              refine lv_iadd hx hb dX12_readArticle_133 (lv_topi (fun v45 ev45 => ?_))
              have ev45i : v45.toInt = (2102 + (-1)) := i_add ev45 (by decide) (by decide) (by omega) (by omega)
              refine lv_aload_n hx hb dX12_readArticle_134 rfl (lv_at hl 1 rfl) ?_
              refine lv_iconst (v := 0) hx hb dX12_readArticle_135 rfl ?_
              refine lv_iload_n hx hb dX12_readArticle_136 rfl (lv_at hl 0 rfl) ?_
              refine q_if_ne hx hb (a := (-1)) (by decide) (tgt := 145) dX12_readArticle_137 rfl (fun c46 => ?_) (fun c46 => absurd c46 (by omega))
              refine lv_iload_n hx hb dX12_readArticle_145 rfl (lv_at hl 0 rfl) ?_
              refine lv_iconst (v := 1) hx hb dX12_readArticle_146 rfl ?_
              refine q_icmp_ne hx hb (a := (-1)) (b := 1) (by decide) (by decide) (tgt := 155) dX12_readArticle_147 rfl (fun c47 => ?_) (fun c47 => absurd c47 (by omega))
              refine lv_bipush (v := 18) hx hb dX12_readArticle_155 rfl ?_
              refine q_goI (q_runV (As := [.int 0, .int 18]) (rest := [.int v45, .ref ca]) E hC44 hS44 (m_X12_count l X Γ H44 hC44 h0 g0 0 (a1 := 0) (by decide) 18 (a2 := 18) (by decide) ca gca uc (by omega) (by omega) (by omega) (by omega)) cw_X12_count cl_RX12_248 g0 ⟨rfl, rfl⟩ rfl hl.1 rfl (show _ ≤ _ from by simp [Value.category]) (by decide) dX12_readArticle_157) hS44 (fun v48 H48 locs48 hr48 hC48 hS48 => ?_)
              obtain ⟨hp48, hr48⟩ := hr48
              have hKp48 := hKp44.tr (hp48.mono rfl)
              obtain ⟨f48_0, f48_1, f48_2, f48_3, f48_4, f48_5, f48_6, f48_7⟩ := hr48
              refine q_cast E hC48 hS48 gca (a := (2102 + (-1))) ev45i (by omega) (by omega) (cs_n16 (a := (2102 + (-1))) (by omega) (by omega)) dX12_readArticle_160 (fun H49 locs49 hC49 hS49 U49 => ?_)
              have hKp49 := Kp.upD gca rfl rfl (fun _ => ⟨fun _ => nd4 (by omega) (by omega), fun _ => by unfold dpu; omega, fun _ => by unfold dpn; omega⟩) U49 hKp48
              have m50 : (sI H49 h0 (X.1.2 11 12)).toInt = (sI H48 h0 (X.1.2 11 12)).toInt := congrArg Int32.toInt (up_nI U49 (ne_k g0 gca (by decide)))
              have m51 : (sI H49 h0 (X.1.2 11 14)).toInt = (sI H48 h0 (X.1.2 11 14)).toInt := congrArg Int32.toInt (up_nI U49 (ne_k g0 gca (by decide)))
              have m52 := congrArg tk m51
              have m53 : (sI H49 h0 (X.1.2 11 16)).toInt = (sI H48 h0 (X.1.2 11 16)).toInt := congrArg Int32.toInt (up_nI U49 (ne_k g0 gca (by decide)))
              have e54 := up_I U49
              refine lv_aload_n hx hb dX12_readArticle_161 rfl (lv_at hl 1 rfl) ?_
              refine q_getI E hC49 g0 fa_RX12_218 dX12_readArticle_162 (fun v55 ev55 lv55 uv55 => ?_)
              have m56 : (sI H49 h0 (X.1.2 11 12)).toInt = v55.toInt := (congrArg Int32.toInt ev55).trans rfl
              refine q_if_ne hx hb (a := v55.toInt) rfl (tgt := 179) dX12_readArticle_165 rfl (fun c57 => ?_) (fun c57 => ?_)
              · have hz8 := tk_nn (sI H49 h0 (X.1.2 11 14)).toInt
                exact ret H49 locs49 _ _ dX12_readArticle_179 ⟨hKp49, ⟨by omega, by omega, by omega, by omega⟩⟩ hC49 hS49
              · refine lv_aload_n hx hb dX12_readArticle_168 rfl (lv_at hl 1 rfl) ?_
                refine q_getC E hC49 g0 fa_RX12_35 uc dX12_readArticle_169 ?_
                refine lv_sipush (v := 2098) hx hb dX12_readArticle_172 rfl ?_
                refine lv_iload_n hx hb dX12_readArticle_175 rfl (lv_at hl 0 rfl) ?_
                refine lv_iadd hx hb dX12_readArticle_176 (lv_topi (fun v58 ev58 => ?_))
                have ev58i : v58.toInt = (2098 + (-1)) := i_add ev58 (by decide) (by decide) (by omega) (by omega)
                refine lv_iconst (v := 1) hx hb dX12_readArticle_177 rfl ?_
                refine q_cast E hC49 hS49 gca (a := (2098 + (-1))) ev58i (by omega) (by omega) (cs_n16 (a := (2098 + (-1))) (by omega) (by omega)) dX12_readArticle_178 (fun H59 locs59 hC59 hS59 U59 => ?_)
                have hKp59 := Kp.upD gca rfl rfl (fun _ => ⟨fun _ => nd4 (by omega) (by omega), fun _ => by unfold dpu; omega, fun _ => by unfold dpn; omega⟩) U59 hKp49
                have m60 : (sI H59 h0 (X.1.2 11 12)).toInt = (sI H49 h0 (X.1.2 11 12)).toInt := congrArg Int32.toInt (up_nI U59 (ne_k g0 gca (by decide)))
                have m61 : (sI H59 h0 (X.1.2 11 14)).toInt = (sI H49 h0 (X.1.2 11 14)).toInt := congrArg Int32.toInt (up_nI U59 (ne_k g0 gca (by decide)))
                have m62 := congrArg tk m61
                have m63 : (sI H59 h0 (X.1.2 11 16)).toInt = (sI H49 h0 (X.1.2 11 16)).toInt := congrArg Int32.toInt (up_nI U59 (ne_k g0 gca (by decide)))
                have e64 := up_I U59
                have hz8 := tk_nn (sI H59 h0 (X.1.2 11 14)).toInt
                exact ret H59 locs59 _ _ dX12_readArticle_179 ⟨hKp59, ⟨by omega, by omega, by omega, by omega⟩⟩ hC59 hS59
          · refine lv_aload_n hx hb dX12_readArticle_65 rfl (lv_at hl 1 rfl) ?_
            refine q_getC E hC31 g0 fa_RX12_35 uc dX12_readArticle_66 ?_
            refine lv_sipush (v := 2098) hx hb dX12_readArticle_69 rfl ?_
            refine lv_iload_n hx hb dX12_readArticle_72 rfl (lv_at hl 0 rfl) ?_
            refine lv_iadd hx hb dX12_readArticle_73 (lv_topi (fun v65 ev65 => ?_))
            have ev65i : v65.toInt = (2098 + (-1)) := i_add ev65 (by decide) (by decide) (by omega) (by omega)
            refine q_cald E hC31 (lo := -2147483648) (hi := 2147483647) gca (a := (2098 + (-1))) ev65i (by omega) (by omega) (cr_n16 (by omega) (by omega)) dX12_readArticle_74 (fun v66 ev66 _ _ => ?_)
            refine lv_iconst (v := 1) hx hb dX12_readArticle_75 rfl ?_
            refine q_icmp_ne hx hb (a := v66.toInt) (b := 1) rfl (by decide) (tgt := 88) dX12_readArticle_76 rfl (fun c67 => ?_) (fun c67 => ?_)
            · refine lv_aload_n hx hb dX12_readArticle_88 rfl (lv_at hl 1 rfl) ?_
              refine lv_iconst (v := 1) hx hb dX12_readArticle_89 rfl ?_
              refine q_goV (q_runV (As := [.int 1]) (rest := []) E hC31 hS31 (m_X12_must l X Γ H31 hC31 h0 g0 1 (a1 := 1) (by decide) ca gca uc (by omega) (by omega)) cw_X12_must cl_RX12_244 g0 ⟨rfl, rfl⟩ rfl hl.1 rfl (Nat.zero_le _) (by decide) dX12_readArticle_90) hS31 (fun H68 locs68 hr68 hC68 hS68 => ?_)
              obtain ⟨hp68, hr68⟩ := hr68
              have hKp68 := hKp31.tr (hp68.mono rfl)
              obtain ⟨f68_0, f68_1, f68_2, f68_3, f68_4⟩ := hr68
              refine lv_aload_n hx hb dX12_readArticle_93 rfl (lv_at hl 1 rfl) ?_
              refine q_getI E hC68 g0 fa_RX12_218 dX12_readArticle_94 (fun v69 ev69 lv69 uv69 => ?_)
              have m70 : (sI H68 h0 (X.1.2 11 12)).toInt = v69.toInt := (congrArg Int32.toInt ev69).trans rfl
              refine q_if_ne hx hb (a := v69.toInt) rfl (tgt := 161) dX12_readArticle_97 rfl (fun c71 => ?_) (fun c71 => ?_)
              · refine lv_aload_n hx hb dX12_readArticle_161 rfl (lv_at hl 1 rfl) ?_
                refine q_getI E hC68 g0 fa_RX12_218 dX12_readArticle_162 (fun v72 ev72 lv72 uv72 => ?_)
                have qv72 := ev69.symm.trans ev72; subst qv72
                refine q_if_ne hx hb (a := v69.toInt) rfl (tgt := 179) dX12_readArticle_165 rfl (fun c73 => ?_) (fun c73 => absurd c73 (by omega))
                have hz8 := tk_nn (sI H68 h0 (X.1.2 11 14)).toInt
                exact ret H68 locs68 _ _ dX12_readArticle_179 ⟨hKp68, ⟨by omega, by omega, by omega, by omega⟩⟩ hC68 hS68
              · refine lv_iload_n hx hb dX12_readArticle_100 rfl (lv_at hl 0 rfl) ?_
                refine lv_iconst (v := 2) hx hb dX12_readArticle_101 rfl ?_
                refine q_icmp_eq hx hb (a := (-1)) (b := 2) (by decide) (by decide) (tgt := 161) dX12_readArticle_102 rfl (fun c74 => absurd c74 (by omega)) (fun c74 => ?_)
                refine lv_aload_n hx hb dX12_readArticle_105 rfl (lv_at hl 1 rfl) ?_
                refine lv_iload_n hx hb dX12_readArticle_106 rfl (lv_at hl 0 rfl) ?_
                refine lv_iconst (v := 1) hx hb dX12_readArticle_107 rfl ?_
                refine q_icmp_ne hx hb (a := (-1)) (b := 1) (by decide) (by decide) (tgt := 118) dX12_readArticle_108 rfl (fun c75 => ?_) (fun c75 => absurd c75 (by omega))
                refine lv_aload_n hx hb dX12_readArticle_118 rfl (lv_at hl 1 rfl) ?_
                refine q_goIp (q_runV (As := []) (rest := [.ref h0]) E hC68 hS68 (m_X12_isAbove l X Γ H68 hC68 h0 g0 ca gca uc) cw_X12_isAbove cl_RX12_196 g0 ⟨rfl, rfl⟩ rfl hl.1 rfl (show _ ≤ _ from by simp [Value.category]) (by decide) dX12_readArticle_119) hS68 (fun v76 locs76 hr76 hS76 => ?_)
                have b76 : v76.toInt = 0 ∨ v76.toInt = 1 := hr76.imp (fun h => by rw [h]; decide) (fun h => by rw [h]; decide)
                refine q_goV (q_runV (As := [.int v76]) (rest := []) E hC68 hS76 (m_X12_must l X Γ H68 hC68 h0 g0 v76 (a1 := v76.toInt) rfl ca gca uc (by omega) (by omega)) cw_X12_must cl_RX12_244 g0 ⟨rfl, rfl⟩ rfl hl.1 rfl (Nat.zero_le _) (by decide) dX12_readArticle_122) hS76 (fun H77 locs77 hr77 hC77 hS77 => ?_)
                obtain ⟨hp77, hr77⟩ := hr77
                have hKp77 := hKp68.tr (hp77.mono rfl)
                obtain ⟨f77_0, f77_1, f77_2, f77_3, f77_4⟩ := hr77
                refine lv_aload_n hx hb dX12_readArticle_125 rfl (lv_at hl 1 rfl) ?_
                refine q_getC E hC77 g0 fa_RX12_35 uc dX12_readArticle_126 ?_
                refine lv_sipush (v := 2102) hx hb dX12_readArticle_129 rfl ?_
                refine lv_iload_n hx hb dX12_readArticle_132 rfl (lv_at hl 0 rfl) ?_
                refine lv_iadd hx hb dX12_readArticle_133 (lv_topi (fun v78 ev78 => ?_))
                have ev78i : v78.toInt = (2102 + (-1)) := i_add ev78 (by decide) (by decide) (by omega) (by omega)
                refine lv_aload_n hx hb dX12_readArticle_134 rfl (lv_at hl 1 rfl) ?_
                refine lv_iconst (v := 0) hx hb dX12_readArticle_135 rfl ?_
                refine lv_iload_n hx hb dX12_readArticle_136 rfl (lv_at hl 0 rfl) ?_
                refine q_if_ne hx hb (a := (-1)) (by decide) (tgt := 145) dX12_readArticle_137 rfl (fun c79 => ?_) (fun c79 => absurd c79 (by omega))
                refine lv_iload_n hx hb dX12_readArticle_145 rfl (lv_at hl 0 rfl) ?_
                refine lv_iconst (v := 1) hx hb dX12_readArticle_146 rfl ?_
                refine q_icmp_ne hx hb (a := (-1)) (b := 1) (by decide) (by decide) (tgt := 155) dX12_readArticle_147 rfl (fun c80 => ?_) (fun c80 => absurd c80 (by omega))
                refine lv_bipush (v := 18) hx hb dX12_readArticle_155 rfl ?_
                refine q_goI (q_runV (As := [.int 0, .int 18]) (rest := [.int v78, .ref ca]) E hC77 hS77 (m_X12_count l X Γ H77 hC77 h0 g0 0 (a1 := 0) (by decide) 18 (a2 := 18) (by decide) ca gca uc (by omega) (by omega) (by omega) (by omega)) cw_X12_count cl_RX12_248 g0 ⟨rfl, rfl⟩ rfl hl.1 rfl (show _ ≤ _ from by simp [Value.category]) (by decide) dX12_readArticle_157) hS77 (fun v81 H81 locs81 hr81 hC81 hS81 => ?_)
                obtain ⟨hp81, hr81⟩ := hr81
                have hKp81 := hKp77.tr (hp81.mono rfl)
                obtain ⟨f81_0, f81_1, f81_2, f81_3, f81_4, f81_5, f81_6, f81_7⟩ := hr81
                refine q_cast E hC81 hS81 gca (a := (2102 + (-1))) ev78i (by omega) (by omega) (cs_n16 (a := (2102 + (-1))) (by omega) (by omega)) dX12_readArticle_160 (fun H82 locs82 hC82 hS82 U82 => ?_)
                have hKp82 := Kp.upD gca rfl rfl (fun _ => ⟨fun _ => nd4 (by omega) (by omega), fun _ => by unfold dpu; omega, fun _ => by unfold dpn; omega⟩) U82 hKp81
                have m83 : (sI H82 h0 (X.1.2 11 12)).toInt = (sI H81 h0 (X.1.2 11 12)).toInt := congrArg Int32.toInt (up_nI U82 (ne_k g0 gca (by decide)))
                have m84 : (sI H82 h0 (X.1.2 11 14)).toInt = (sI H81 h0 (X.1.2 11 14)).toInt := congrArg Int32.toInt (up_nI U82 (ne_k g0 gca (by decide)))
                have m85 := congrArg tk m84
                have m86 : (sI H82 h0 (X.1.2 11 16)).toInt = (sI H81 h0 (X.1.2 11 16)).toInt := congrArg Int32.toInt (up_nI U82 (ne_k g0 gca (by decide)))
                have e87 := up_I U82
                refine lv_aload_n hx hb dX12_readArticle_161 rfl (lv_at hl 1 rfl) ?_
                refine q_getI E hC82 g0 fa_RX12_218 dX12_readArticle_162 (fun v88 ev88 lv88 uv88 => ?_)
                have m89 : (sI H82 h0 (X.1.2 11 12)).toInt = v88.toInt := (congrArg Int32.toInt ev88).trans rfl
                refine q_if_ne hx hb (a := v88.toInt) rfl (tgt := 179) dX12_readArticle_165 rfl (fun c90 => ?_) (fun c90 => ?_)
                · have hz8 := tk_nn (sI H82 h0 (X.1.2 11 14)).toInt
                  exact ret H82 locs82 _ _ dX12_readArticle_179 ⟨hKp82, ⟨by omega, by omega, by omega, by omega⟩⟩ hC82 hS82
                · refine lv_aload_n hx hb dX12_readArticle_168 rfl (lv_at hl 1 rfl) ?_
                  refine q_getC E hC82 g0 fa_RX12_35 uc dX12_readArticle_169 ?_
                  refine lv_sipush (v := 2098) hx hb dX12_readArticle_172 rfl ?_
                  refine lv_iload_n hx hb dX12_readArticle_175 rfl (lv_at hl 0 rfl) ?_
                  refine lv_iadd hx hb dX12_readArticle_176 (lv_topi (fun v91 ev91 => ?_))
                  have ev91i : v91.toInt = (2098 + (-1)) := i_add ev91 (by decide) (by decide) (by omega) (by omega)
                  refine lv_iconst (v := 1) hx hb dX12_readArticle_177 rfl ?_
                  refine q_cast E hC82 hS82 gca (a := (2098 + (-1))) ev91i (by omega) (by omega) (cs_n16 (a := (2098 + (-1))) (by omega) (by omega)) dX12_readArticle_178 (fun H92 locs92 hC92 hS92 U92 => ?_)
                  have hKp92 := Kp.upD gca rfl rfl (fun _ => ⟨fun _ => nd4 (by omega) (by omega), fun _ => by unfold dpu; omega, fun _ => by unfold dpn; omega⟩) U92 hKp82
                  have m93 : (sI H92 h0 (X.1.2 11 12)).toInt = (sI H82 h0 (X.1.2 11 12)).toInt := congrArg Int32.toInt (up_nI U92 (ne_k g0 gca (by decide)))
                  have m94 : (sI H92 h0 (X.1.2 11 14)).toInt = (sI H82 h0 (X.1.2 11 14)).toInt := congrArg Int32.toInt (up_nI U92 (ne_k g0 gca (by decide)))
                  have m95 := congrArg tk m94
                  have m96 : (sI H92 h0 (X.1.2 11 16)).toInt = (sI H82 h0 (X.1.2 11 16)).toInt := congrArg Int32.toInt (up_nI U92 (ne_k g0 gca (by decide)))
                  have e97 := up_I U92
                  have hz8 := tk_nn (sI H92 h0 (X.1.2 11 14)).toInt
                  exact ret H92 locs92 _ _ dX12_readArticle_179 ⟨hKp92, ⟨by omega, by omega, by omega, by omega⟩⟩ hC92 hS92
            · refine lv_aload_n hx hb dX12_readArticle_79 rfl (lv_at hl 1 rfl) ?_
              refine lv_iconst (v := 5) hx hb dX12_readArticle_80 rfl ?_
              refine lv_aload_n hx hb dX12_readArticle_81 rfl (lv_at hl 1 rfl) ?_
              refine q_getI E hC31 g0 fa_RX12_114 dX12_readArticle_82 (fun v98 ev98 lv98 uv98 => ?_)
              refine q_goV (q_runV (As := [.int 5, .int v98]) (rest := []) E hC31 hS31 (m_X12_fail l X Γ H31 hC31 h0 g0 5 (a1 := 5) (by decide) v98 (a2 := v98.toInt) rfl ca gca uc (by omega) (by omega)) cw_X12_fail cl_RX12_224 g0 ⟨rfl, rfl⟩ rfl hl.1 rfl (Nat.zero_le _) (by decide) dX12_readArticle_85) hS31 (fun H99 locs99 hr99 hC99 hS99 => ?_)
              obtain ⟨hp99, hr99⟩ := hr99
              have hKp99 := hKp31.tr (hp99.mono rfl)
              obtain ⟨f99_0, f99_1, f99_2, f99_3⟩ := hr99
              refine lv_aload_n hx hb dX12_readArticle_88 rfl (lv_at hl 1 rfl) ?_
              refine lv_iconst (v := 1) hx hb dX12_readArticle_89 rfl ?_
              refine q_goV (q_runV (As := [.int 1]) (rest := []) E hC99 hS99 (m_X12_must l X Γ H99 hC99 h0 g0 1 (a1 := 1) (by decide) ca gca uc (by omega) (by omega)) cw_X12_must cl_RX12_244 g0 ⟨rfl, rfl⟩ rfl hl.1 rfl (Nat.zero_le _) (by decide) dX12_readArticle_90) hS99 (fun H100 locs100 hr100 hC100 hS100 => ?_)
              obtain ⟨hp100, hr100⟩ := hr100
              have hKp100 := hKp99.tr (hp100.mono rfl)
              obtain ⟨f100_0, f100_1, f100_2, f100_3, f100_4⟩ := hr100
              refine lv_aload_n hx hb dX12_readArticle_93 rfl (lv_at hl 1 rfl) ?_
              refine q_getI E hC100 g0 fa_RX12_218 dX12_readArticle_94 (fun v101 ev101 lv101 uv101 => ?_)
              have m102 : (sI H100 h0 (X.1.2 11 12)).toInt = v101.toInt := (congrArg Int32.toInt ev101).trans rfl
              refine q_if_ne hx hb (a := v101.toInt) rfl (tgt := 161) dX12_readArticle_97 rfl (fun c103 => ?_) (fun c103 => ?_)
              · refine lv_aload_n hx hb dX12_readArticle_161 rfl (lv_at hl 1 rfl) ?_
                refine q_getI E hC100 g0 fa_RX12_218 dX12_readArticle_162 (fun v104 ev104 lv104 uv104 => ?_)
                have qv104 := ev101.symm.trans ev104; subst qv104
                refine q_if_ne hx hb (a := v101.toInt) rfl (tgt := 179) dX12_readArticle_165 rfl (fun c105 => ?_) (fun c105 => absurd c105 (by omega))
                have hz8 := tk_nn (sI H100 h0 (X.1.2 11 14)).toInt
                exact ret H100 locs100 _ _ dX12_readArticle_179 ⟨hKp100, ⟨by omega, by omega, by omega, by omega⟩⟩ hC100 hS100
              · refine lv_iload_n hx hb dX12_readArticle_100 rfl (lv_at hl 0 rfl) ?_
                refine lv_iconst (v := 2) hx hb dX12_readArticle_101 rfl ?_
                refine q_icmp_eq hx hb (a := (-1)) (b := 2) (by decide) (by decide) (tgt := 161) dX12_readArticle_102 rfl (fun c106 => absurd c106 (by omega)) (fun c106 => ?_)
                refine lv_aload_n hx hb dX12_readArticle_105 rfl (lv_at hl 1 rfl) ?_
                refine lv_iload_n hx hb dX12_readArticle_106 rfl (lv_at hl 0 rfl) ?_
                refine lv_iconst (v := 1) hx hb dX12_readArticle_107 rfl ?_
                refine q_icmp_ne hx hb (a := (-1)) (b := 1) (by decide) (by decide) (tgt := 118) dX12_readArticle_108 rfl (fun c107 => ?_) (fun c107 => absurd c107 (by omega))
                refine lv_aload_n hx hb dX12_readArticle_118 rfl (lv_at hl 1 rfl) ?_
                refine q_goIp (q_runV (As := []) (rest := [.ref h0]) E hC100 hS100 (m_X12_isAbove l X Γ H100 hC100 h0 g0 ca gca uc) cw_X12_isAbove cl_RX12_196 g0 ⟨rfl, rfl⟩ rfl hl.1 rfl (show _ ≤ _ from by simp [Value.category]) (by decide) dX12_readArticle_119) hS100 (fun v108 locs108 hr108 hS108 => ?_)
                have b108 : v108.toInt = 0 ∨ v108.toInt = 1 := hr108.imp (fun h => by rw [h]; decide) (fun h => by rw [h]; decide)
                refine q_goV (q_runV (As := [.int v108]) (rest := []) E hC100 hS108 (m_X12_must l X Γ H100 hC100 h0 g0 v108 (a1 := v108.toInt) rfl ca gca uc (by omega) (by omega)) cw_X12_must cl_RX12_244 g0 ⟨rfl, rfl⟩ rfl hl.1 rfl (Nat.zero_le _) (by decide) dX12_readArticle_122) hS108 (fun H109 locs109 hr109 hC109 hS109 => ?_)
                obtain ⟨hp109, hr109⟩ := hr109
                have hKp109 := hKp100.tr (hp109.mono rfl)
                obtain ⟨f109_0, f109_1, f109_2, f109_3, f109_4⟩ := hr109
                refine lv_aload_n hx hb dX12_readArticle_125 rfl (lv_at hl 1 rfl) ?_
                refine q_getC E hC109 g0 fa_RX12_35 uc dX12_readArticle_126 ?_
                refine lv_sipush (v := 2102) hx hb dX12_readArticle_129 rfl ?_
                refine lv_iload_n hx hb dX12_readArticle_132 rfl (lv_at hl 0 rfl) ?_
                refine lv_iadd hx hb dX12_readArticle_133 (lv_topi (fun v110 ev110 => ?_))
                have ev110i : v110.toInt = (2102 + (-1)) := i_add ev110 (by decide) (by decide) (by omega) (by omega)
                refine lv_aload_n hx hb dX12_readArticle_134 rfl (lv_at hl 1 rfl) ?_
                refine lv_iconst (v := 0) hx hb dX12_readArticle_135 rfl ?_
                refine lv_iload_n hx hb dX12_readArticle_136 rfl (lv_at hl 0 rfl) ?_
                refine q_if_ne hx hb (a := (-1)) (by decide) (tgt := 145) dX12_readArticle_137 rfl (fun c111 => ?_) (fun c111 => absurd c111 (by omega))
                refine lv_iload_n hx hb dX12_readArticle_145 rfl (lv_at hl 0 rfl) ?_
                refine lv_iconst (v := 1) hx hb dX12_readArticle_146 rfl ?_
                refine q_icmp_ne hx hb (a := (-1)) (b := 1) (by decide) (by decide) (tgt := 155) dX12_readArticle_147 rfl (fun c112 => ?_) (fun c112 => absurd c112 (by omega))
                refine lv_bipush (v := 18) hx hb dX12_readArticle_155 rfl ?_
                refine q_goI (q_runV (As := [.int 0, .int 18]) (rest := [.int v110, .ref ca]) E hC109 hS109 (m_X12_count l X Γ H109 hC109 h0 g0 0 (a1 := 0) (by decide) 18 (a2 := 18) (by decide) ca gca uc (by omega) (by omega) (by omega) (by omega)) cw_X12_count cl_RX12_248 g0 ⟨rfl, rfl⟩ rfl hl.1 rfl (show _ ≤ _ from by simp [Value.category]) (by decide) dX12_readArticle_157) hS109 (fun v113 H113 locs113 hr113 hC113 hS113 => ?_)
                obtain ⟨hp113, hr113⟩ := hr113
                have hKp113 := hKp109.tr (hp113.mono rfl)
                obtain ⟨f113_0, f113_1, f113_2, f113_3, f113_4, f113_5, f113_6, f113_7⟩ := hr113
                refine q_cast E hC113 hS113 gca (a := (2102 + (-1))) ev110i (by omega) (by omega) (cs_n16 (a := (2102 + (-1))) (by omega) (by omega)) dX12_readArticle_160 (fun H114 locs114 hC114 hS114 U114 => ?_)
                have hKp114 := Kp.upD gca rfl rfl (fun _ => ⟨fun _ => nd4 (by omega) (by omega), fun _ => by unfold dpu; omega, fun _ => by unfold dpn; omega⟩) U114 hKp113
                have m115 : (sI H114 h0 (X.1.2 11 12)).toInt = (sI H113 h0 (X.1.2 11 12)).toInt := congrArg Int32.toInt (up_nI U114 (ne_k g0 gca (by decide)))
                have m116 : (sI H114 h0 (X.1.2 11 14)).toInt = (sI H113 h0 (X.1.2 11 14)).toInt := congrArg Int32.toInt (up_nI U114 (ne_k g0 gca (by decide)))
                have m117 := congrArg tk m116
                have m118 : (sI H114 h0 (X.1.2 11 16)).toInt = (sI H113 h0 (X.1.2 11 16)).toInt := congrArg Int32.toInt (up_nI U114 (ne_k g0 gca (by decide)))
                have e119 := up_I U114
                refine lv_aload_n hx hb dX12_readArticle_161 rfl (lv_at hl 1 rfl) ?_
                refine q_getI E hC114 g0 fa_RX12_218 dX12_readArticle_162 (fun v120 ev120 lv120 uv120 => ?_)
                have m121 : (sI H114 h0 (X.1.2 11 12)).toInt = v120.toInt := (congrArg Int32.toInt ev120).trans rfl
                refine q_if_ne hx hb (a := v120.toInt) rfl (tgt := 179) dX12_readArticle_165 rfl (fun c122 => ?_) (fun c122 => ?_)
                · have hz8 := tk_nn (sI H114 h0 (X.1.2 11 14)).toInt
                  exact ret H114 locs114 _ _ dX12_readArticle_179 ⟨hKp114, ⟨by omega, by omega, by omega, by omega⟩⟩ hC114 hS114
                · refine lv_aload_n hx hb dX12_readArticle_168 rfl (lv_at hl 1 rfl) ?_
                  refine q_getC E hC114 g0 fa_RX12_35 uc dX12_readArticle_169 ?_
                  refine lv_sipush (v := 2098) hx hb dX12_readArticle_172 rfl ?_
                  refine lv_iload_n hx hb dX12_readArticle_175 rfl (lv_at hl 0 rfl) ?_
                  refine lv_iadd hx hb dX12_readArticle_176 (lv_topi (fun v123 ev123 => ?_))
                  have ev123i : v123.toInt = (2098 + (-1)) := i_add ev123 (by decide) (by decide) (by omega) (by omega)
                  refine lv_iconst (v := 1) hx hb dX12_readArticle_177 rfl ?_
                  refine q_cast E hC114 hS114 gca (a := (2098 + (-1))) ev123i (by omega) (by omega) (cs_n16 (a := (2098 + (-1))) (by omega) (by omega)) dX12_readArticle_178 (fun H124 locs124 hC124 hS124 U124 => ?_)
                  have hKp124 := Kp.upD gca rfl rfl (fun _ => ⟨fun _ => nd4 (by omega) (by omega), fun _ => by unfold dpu; omega, fun _ => by unfold dpn; omega⟩) U124 hKp114
                  have m125 : (sI H124 h0 (X.1.2 11 12)).toInt = (sI H114 h0 (X.1.2 11 12)).toInt := congrArg Int32.toInt (up_nI U124 (ne_k g0 gca (by decide)))
                  have m126 : (sI H124 h0 (X.1.2 11 14)).toInt = (sI H114 h0 (X.1.2 11 14)).toInt := congrArg Int32.toInt (up_nI U124 (ne_k g0 gca (by decide)))
                  have m127 := congrArg tk m126
                  have m128 : (sI H124 h0 (X.1.2 11 16)).toInt = (sI H114 h0 (X.1.2 11 16)).toInt := congrArg Int32.toInt (up_nI U124 (ne_k g0 gca (by decide)))
                  have e129 := up_I U124
                  have hz8 := tk_nn (sI H124 h0 (X.1.2 11 14)).toInt
                  exact ret H124 locs124 _ _ dX12_readArticle_179 ⟨hKp124, ⟨by omega, by omega, by omega, by omega⟩⟩ hC124 hS124
        · refine q_if_eq hx hb (a := 1) (by decide) (tgt := 48) dX12_readArticle_41 rfl (fun c130 => absurd c130 (by omega)) (fun c130 => ?_)
          refine lv_iconst (v := 3) hx hb dX12_readArticle_44 rfl ?_
          refine lv_goto (tgt := 49) hx hb dX12_readArticle_45 rfl ?_
          refine lv_istore_n hx hb dX12_readArticle_49 rfl hl (by decide) rfl (fun ls hl => ?_)
          have hl : lv_has ls 2 [(1, .int 3), (0, .ref h0)] := hl
          refine lv_iload_n hx hb dX12_readArticle_50 rfl (lv_at hl 0 rfl) ?_
          refine q_if_ge hx hb (a := 3) (by decide) (tgt := 58) dX12_readArticle_51 rfl (fun c131 => ?_) (fun c131 => absurd c131 (by omega))
          refine lv_aload_n hx hb dX12_readArticle_58 rfl (lv_at hl 1 rfl) ?_
          refine q_getI E hC21 g0 fa_RX12_218 dX12_readArticle_59 (fun v132 ev132 lv132 uv132 => ?_)
          have m133 : (sI H21 h0 (X.1.2 11 12)).toInt = v132.toInt := (congrArg Int32.toInt ev132).trans rfl
          refine q_if_ne hx hb (a := v132.toInt) rfl (tgt := 88) dX12_readArticle_62 rfl (fun c134 => ?_) (fun c134 => ?_)
          · refine lv_aload_n hx hb dX12_readArticle_88 rfl (lv_at hl 1 rfl) ?_
            refine lv_iconst (v := 1) hx hb dX12_readArticle_89 rfl ?_
            refine q_goV (q_runV (As := [.int 1]) (rest := []) E hC21 hS28 (m_X12_must l X Γ H21 hC21 h0 g0 1 (a1 := 1) (by decide) ca gca uc (by omega) (by omega)) cw_X12_must cl_RX12_244 g0 ⟨rfl, rfl⟩ rfl hl.1 rfl (Nat.zero_le _) (by decide) dX12_readArticle_90) hS28 (fun H135 locs135 hr135 hC135 hS135 => ?_)
            obtain ⟨hp135, hr135⟩ := hr135
            have hKp135 := hKp21.tr (hp135.mono rfl)
            obtain ⟨f135_0, f135_1, f135_2, f135_3, f135_4⟩ := hr135
            refine lv_aload_n hx hb dX12_readArticle_93 rfl (lv_at hl 1 rfl) ?_
            refine q_getI E hC135 g0 fa_RX12_218 dX12_readArticle_94 (fun v136 ev136 lv136 uv136 => ?_)
            have m137 : (sI H135 h0 (X.1.2 11 12)).toInt = v136.toInt := (congrArg Int32.toInt ev136).trans rfl
            refine q_if_ne hx hb (a := v136.toInt) rfl (tgt := 161) dX12_readArticle_97 rfl (fun c138 => ?_) (fun c138 => ?_)
            · refine lv_aload_n hx hb dX12_readArticle_161 rfl (lv_at hl 1 rfl) ?_
              refine q_getI E hC135 g0 fa_RX12_218 dX12_readArticle_162 (fun v139 ev139 lv139 uv139 => ?_)
              have qv139 := ev136.symm.trans ev139; subst qv139
              refine q_if_ne hx hb (a := v136.toInt) rfl (tgt := 179) dX12_readArticle_165 rfl (fun c140 => ?_) (fun c140 => absurd c140 (by omega))
              have hz8 := tk_nn (sI H135 h0 (X.1.2 11 14)).toInt
              exact ret H135 locs135 _ _ dX12_readArticle_179 ⟨hKp135, ⟨by omega, by omega, by omega, by omega⟩⟩ hC135 hS135
            · refine lv_iload_n hx hb dX12_readArticle_100 rfl (lv_at hl 0 rfl) ?_
              refine lv_iconst (v := 2) hx hb dX12_readArticle_101 rfl ?_
              refine q_icmp_eq hx hb (a := 3) (b := 2) (by decide) (by decide) (tgt := 161) dX12_readArticle_102 rfl (fun c141 => absurd c141 (by omega)) (fun c141 => ?_)
              refine lv_aload_n hx hb dX12_readArticle_105 rfl (lv_at hl 1 rfl) ?_
              refine lv_iload_n hx hb dX12_readArticle_106 rfl (lv_at hl 0 rfl) ?_
              refine lv_iconst (v := 1) hx hb dX12_readArticle_107 rfl ?_
              refine q_icmp_ne hx hb (a := 3) (b := 1) (by decide) (by decide) (tgt := 118) dX12_readArticle_108 rfl (fun c142 => ?_) (fun c142 => absurd c142 (by omega))
              refine lv_aload_n hx hb dX12_readArticle_118 rfl (lv_at hl 1 rfl) ?_
              refine q_goIp (q_runV (As := []) (rest := [.ref h0]) E hC135 hS135 (m_X12_isAbove l X Γ H135 hC135 h0 g0 ca gca uc) cw_X12_isAbove cl_RX12_196 g0 ⟨rfl, rfl⟩ rfl hl.1 rfl (show _ ≤ _ from by simp [Value.category]) (by decide) dX12_readArticle_119) hS135 (fun v143 locs143 hr143 hS143 => ?_)
              have b143 : v143.toInt = 0 ∨ v143.toInt = 1 := hr143.imp (fun h => by rw [h]; decide) (fun h => by rw [h]; decide)
              refine q_goV (q_runV (As := [.int v143]) (rest := []) E hC135 hS143 (m_X12_must l X Γ H135 hC135 h0 g0 v143 (a1 := v143.toInt) rfl ca gca uc (by omega) (by omega)) cw_X12_must cl_RX12_244 g0 ⟨rfl, rfl⟩ rfl hl.1 rfl (Nat.zero_le _) (by decide) dX12_readArticle_122) hS143 (fun H144 locs144 hr144 hC144 hS144 => ?_)
              obtain ⟨hp144, hr144⟩ := hr144
              have hKp144 := hKp135.tr (hp144.mono rfl)
              obtain ⟨f144_0, f144_1, f144_2, f144_3, f144_4⟩ := hr144
              refine lv_aload_n hx hb dX12_readArticle_125 rfl (lv_at hl 1 rfl) ?_
              refine q_getC E hC144 g0 fa_RX12_35 uc dX12_readArticle_126 ?_
              refine lv_sipush (v := 2102) hx hb dX12_readArticle_129 rfl ?_
              refine lv_iload_n hx hb dX12_readArticle_132 rfl (lv_at hl 0 rfl) ?_
              refine lv_iadd hx hb dX12_readArticle_133 (lv_topi (fun v145 ev145 => ?_))
              have ev145i : v145.toInt = (2102 + 3) := i_add ev145 (by decide) (by decide) (by omega) (by omega)
              refine lv_aload_n hx hb dX12_readArticle_134 rfl (lv_at hl 1 rfl) ?_
              refine lv_iconst (v := 0) hx hb dX12_readArticle_135 rfl ?_
              refine lv_iload_n hx hb dX12_readArticle_136 rfl (lv_at hl 0 rfl) ?_
              refine q_if_ne hx hb (a := 3) (by decide) (tgt := 145) dX12_readArticle_137 rfl (fun c146 => ?_) (fun c146 => absurd c146 (by omega))
              refine lv_iload_n hx hb dX12_readArticle_145 rfl (lv_at hl 0 rfl) ?_
              refine lv_iconst (v := 1) hx hb dX12_readArticle_146 rfl ?_
              refine q_icmp_ne hx hb (a := 3) (b := 1) (by decide) (by decide) (tgt := 155) dX12_readArticle_147 rfl (fun c147 => ?_) (fun c147 => absurd c147 (by omega))
              refine lv_bipush (v := 18) hx hb dX12_readArticle_155 rfl ?_
              refine q_goI (q_runV (As := [.int 0, .int 18]) (rest := [.int v145, .ref ca]) E hC144 hS144 (m_X12_count l X Γ H144 hC144 h0 g0 0 (a1 := 0) (by decide) 18 (a2 := 18) (by decide) ca gca uc (by omega) (by omega) (by omega) (by omega)) cw_X12_count cl_RX12_248 g0 ⟨rfl, rfl⟩ rfl hl.1 rfl (show _ ≤ _ from by simp [Value.category]) (by decide) dX12_readArticle_157) hS144 (fun v148 H148 locs148 hr148 hC148 hS148 => ?_)
              obtain ⟨hp148, hr148⟩ := hr148
              have hKp148 := hKp144.tr (hp148.mono rfl)
              obtain ⟨f148_0, f148_1, f148_2, f148_3, f148_4, f148_5, f148_6, f148_7⟩ := hr148
              refine q_cast E hC148 hS148 gca (a := (2102 + 3)) ev145i (by omega) (by omega) (cs_n16 (a := (2102 + 3)) (by omega) (by omega)) dX12_readArticle_160 (fun H149 locs149 hC149 hS149 U149 => ?_)
              have hKp149 := Kp.upD gca rfl rfl (fun _ => ⟨fun _ => nd4 (by omega) (by omega), fun _ => by unfold dpu; omega, fun _ => by unfold dpn; omega⟩) U149 hKp148
              have m150 : (sI H149 h0 (X.1.2 11 12)).toInt = (sI H148 h0 (X.1.2 11 12)).toInt := congrArg Int32.toInt (up_nI U149 (ne_k g0 gca (by decide)))
              have m151 : (sI H149 h0 (X.1.2 11 14)).toInt = (sI H148 h0 (X.1.2 11 14)).toInt := congrArg Int32.toInt (up_nI U149 (ne_k g0 gca (by decide)))
              have m152 := congrArg tk m151
              have m153 : (sI H149 h0 (X.1.2 11 16)).toInt = (sI H148 h0 (X.1.2 11 16)).toInt := congrArg Int32.toInt (up_nI U149 (ne_k g0 gca (by decide)))
              have e154 := up_I U149
              refine lv_aload_n hx hb dX12_readArticle_161 rfl (lv_at hl 1 rfl) ?_
              refine q_getI E hC149 g0 fa_RX12_218 dX12_readArticle_162 (fun v155 ev155 lv155 uv155 => ?_)
              have m156 : (sI H149 h0 (X.1.2 11 12)).toInt = v155.toInt := (congrArg Int32.toInt ev155).trans rfl
              refine q_if_ne hx hb (a := v155.toInt) rfl (tgt := 179) dX12_readArticle_165 rfl (fun c157 => ?_) (fun c157 => ?_)
              · have hz8 := tk_nn (sI H149 h0 (X.1.2 11 14)).toInt
                exact ret H149 locs149 _ _ dX12_readArticle_179 ⟨hKp149, ⟨by omega, by omega, by omega, by omega⟩⟩ hC149 hS149
              · refine lv_aload_n hx hb dX12_readArticle_168 rfl (lv_at hl 1 rfl) ?_
                refine q_getC E hC149 g0 fa_RX12_35 uc dX12_readArticle_169 ?_
                refine lv_sipush (v := 2098) hx hb dX12_readArticle_172 rfl ?_
                refine lv_iload_n hx hb dX12_readArticle_175 rfl (lv_at hl 0 rfl) ?_
                refine lv_iadd hx hb dX12_readArticle_176 (lv_topi (fun v158 ev158 => ?_))
                have ev158i : v158.toInt = (2098 + 3) := i_add ev158 (by decide) (by decide) (by omega) (by omega)
                refine lv_iconst (v := 1) hx hb dX12_readArticle_177 rfl ?_
                refine q_cast E hC149 hS149 gca (a := (2098 + 3)) ev158i (by omega) (by omega) (cs_n16 (a := (2098 + 3)) (by omega) (by omega)) dX12_readArticle_178 (fun H159 locs159 hC159 hS159 U159 => ?_)
                have hKp159 := Kp.upD gca rfl rfl (fun _ => ⟨fun _ => nd4 (by omega) (by omega), fun _ => by unfold dpu; omega, fun _ => by unfold dpn; omega⟩) U159 hKp149
                have m160 : (sI H159 h0 (X.1.2 11 12)).toInt = (sI H149 h0 (X.1.2 11 12)).toInt := congrArg Int32.toInt (up_nI U159 (ne_k g0 gca (by decide)))
                have m161 : (sI H159 h0 (X.1.2 11 14)).toInt = (sI H149 h0 (X.1.2 11 14)).toInt := congrArg Int32.toInt (up_nI U159 (ne_k g0 gca (by decide)))
                have m162 := congrArg tk m161
                have m163 : (sI H159 h0 (X.1.2 11 16)).toInt = (sI H149 h0 (X.1.2 11 16)).toInt := congrArg Int32.toInt (up_nI U159 (ne_k g0 gca (by decide)))
                have e164 := up_I U159
                have hz8 := tk_nn (sI H159 h0 (X.1.2 11 14)).toInt
                exact ret H159 locs159 _ _ dX12_readArticle_179 ⟨hKp159, ⟨by omega, by omega, by omega, by omega⟩⟩ hC159 hS159
          · refine lv_aload_n hx hb dX12_readArticle_65 rfl (lv_at hl 1 rfl) ?_
            refine q_getC E hC21 g0 fa_RX12_35 uc dX12_readArticle_66 ?_
            refine lv_sipush (v := 2098) hx hb dX12_readArticle_69 rfl ?_
            refine lv_iload_n hx hb dX12_readArticle_72 rfl (lv_at hl 0 rfl) ?_
            refine lv_iadd hx hb dX12_readArticle_73 (lv_topi (fun v165 ev165 => ?_))
            have ev165i : v165.toInt = (2098 + 3) := i_add ev165 (by decide) (by decide) (by omega) (by omega)
            refine q_cald E hC21 (lo := -2147483648) (hi := 2147483647) gca (a := (2098 + 3)) ev165i (by omega) (by omega) (cr_n16 (by omega) (by omega)) dX12_readArticle_74 (fun v166 ev166 _ _ => ?_)
            refine lv_iconst (v := 1) hx hb dX12_readArticle_75 rfl ?_
            refine q_icmp_ne hx hb (a := v166.toInt) (b := 1) rfl (by decide) (tgt := 88) dX12_readArticle_76 rfl (fun c167 => ?_) (fun c167 => ?_)
            · refine lv_aload_n hx hb dX12_readArticle_88 rfl (lv_at hl 1 rfl) ?_
              refine lv_iconst (v := 1) hx hb dX12_readArticle_89 rfl ?_
              refine q_goV (q_runV (As := [.int 1]) (rest := []) E hC21 hS28 (m_X12_must l X Γ H21 hC21 h0 g0 1 (a1 := 1) (by decide) ca gca uc (by omega) (by omega)) cw_X12_must cl_RX12_244 g0 ⟨rfl, rfl⟩ rfl hl.1 rfl (Nat.zero_le _) (by decide) dX12_readArticle_90) hS28 (fun H168 locs168 hr168 hC168 hS168 => ?_)
              obtain ⟨hp168, hr168⟩ := hr168
              have hKp168 := hKp21.tr (hp168.mono rfl)
              obtain ⟨f168_0, f168_1, f168_2, f168_3, f168_4⟩ := hr168
              refine lv_aload_n hx hb dX12_readArticle_93 rfl (lv_at hl 1 rfl) ?_
              refine q_getI E hC168 g0 fa_RX12_218 dX12_readArticle_94 (fun v169 ev169 lv169 uv169 => ?_)
              have m170 : (sI H168 h0 (X.1.2 11 12)).toInt = v169.toInt := (congrArg Int32.toInt ev169).trans rfl
              refine q_if_ne hx hb (a := v169.toInt) rfl (tgt := 161) dX12_readArticle_97 rfl (fun c171 => ?_) (fun c171 => ?_)
              · refine lv_aload_n hx hb dX12_readArticle_161 rfl (lv_at hl 1 rfl) ?_
                refine q_getI E hC168 g0 fa_RX12_218 dX12_readArticle_162 (fun v172 ev172 lv172 uv172 => ?_)
                have qv172 := ev169.symm.trans ev172; subst qv172
                refine q_if_ne hx hb (a := v169.toInt) rfl (tgt := 179) dX12_readArticle_165 rfl (fun c173 => ?_) (fun c173 => absurd c173 (by omega))
                have hz8 := tk_nn (sI H168 h0 (X.1.2 11 14)).toInt
                exact ret H168 locs168 _ _ dX12_readArticle_179 ⟨hKp168, ⟨by omega, by omega, by omega, by omega⟩⟩ hC168 hS168
              · refine lv_iload_n hx hb dX12_readArticle_100 rfl (lv_at hl 0 rfl) ?_
                refine lv_iconst (v := 2) hx hb dX12_readArticle_101 rfl ?_
                refine q_icmp_eq hx hb (a := 3) (b := 2) (by decide) (by decide) (tgt := 161) dX12_readArticle_102 rfl (fun c174 => absurd c174 (by omega)) (fun c174 => ?_)
                refine lv_aload_n hx hb dX12_readArticle_105 rfl (lv_at hl 1 rfl) ?_
                refine lv_iload_n hx hb dX12_readArticle_106 rfl (lv_at hl 0 rfl) ?_
                refine lv_iconst (v := 1) hx hb dX12_readArticle_107 rfl ?_
                refine q_icmp_ne hx hb (a := 3) (b := 1) (by decide) (by decide) (tgt := 118) dX12_readArticle_108 rfl (fun c175 => ?_) (fun c175 => absurd c175 (by omega))
                refine lv_aload_n hx hb dX12_readArticle_118 rfl (lv_at hl 1 rfl) ?_
                refine q_goIp (q_runV (As := []) (rest := [.ref h0]) E hC168 hS168 (m_X12_isAbove l X Γ H168 hC168 h0 g0 ca gca uc) cw_X12_isAbove cl_RX12_196 g0 ⟨rfl, rfl⟩ rfl hl.1 rfl (show _ ≤ _ from by simp [Value.category]) (by decide) dX12_readArticle_119) hS168 (fun v176 locs176 hr176 hS176 => ?_)
                have b176 : v176.toInt = 0 ∨ v176.toInt = 1 := hr176.imp (fun h => by rw [h]; decide) (fun h => by rw [h]; decide)
                refine q_goV (q_runV (As := [.int v176]) (rest := []) E hC168 hS176 (m_X12_must l X Γ H168 hC168 h0 g0 v176 (a1 := v176.toInt) rfl ca gca uc (by omega) (by omega)) cw_X12_must cl_RX12_244 g0 ⟨rfl, rfl⟩ rfl hl.1 rfl (Nat.zero_le _) (by decide) dX12_readArticle_122) hS176 (fun H177 locs177 hr177 hC177 hS177 => ?_)
                obtain ⟨hp177, hr177⟩ := hr177
                have hKp177 := hKp168.tr (hp177.mono rfl)
                obtain ⟨f177_0, f177_1, f177_2, f177_3, f177_4⟩ := hr177
                refine lv_aload_n hx hb dX12_readArticle_125 rfl (lv_at hl 1 rfl) ?_
                refine q_getC E hC177 g0 fa_RX12_35 uc dX12_readArticle_126 ?_
                refine lv_sipush (v := 2102) hx hb dX12_readArticle_129 rfl ?_
                refine lv_iload_n hx hb dX12_readArticle_132 rfl (lv_at hl 0 rfl) ?_
                refine lv_iadd hx hb dX12_readArticle_133 (lv_topi (fun v178 ev178 => ?_))
                have ev178i : v178.toInt = (2102 + 3) := i_add ev178 (by decide) (by decide) (by omega) (by omega)
                refine lv_aload_n hx hb dX12_readArticle_134 rfl (lv_at hl 1 rfl) ?_
                refine lv_iconst (v := 0) hx hb dX12_readArticle_135 rfl ?_
                refine lv_iload_n hx hb dX12_readArticle_136 rfl (lv_at hl 0 rfl) ?_
                refine q_if_ne hx hb (a := 3) (by decide) (tgt := 145) dX12_readArticle_137 rfl (fun c179 => ?_) (fun c179 => absurd c179 (by omega))
                refine lv_iload_n hx hb dX12_readArticle_145 rfl (lv_at hl 0 rfl) ?_
                refine lv_iconst (v := 1) hx hb dX12_readArticle_146 rfl ?_
                refine q_icmp_ne hx hb (a := 3) (b := 1) (by decide) (by decide) (tgt := 155) dX12_readArticle_147 rfl (fun c180 => ?_) (fun c180 => absurd c180 (by omega))
                refine lv_bipush (v := 18) hx hb dX12_readArticle_155 rfl ?_
                refine q_goI (q_runV (As := [.int 0, .int 18]) (rest := [.int v178, .ref ca]) E hC177 hS177 (m_X12_count l X Γ H177 hC177 h0 g0 0 (a1 := 0) (by decide) 18 (a2 := 18) (by decide) ca gca uc (by omega) (by omega) (by omega) (by omega)) cw_X12_count cl_RX12_248 g0 ⟨rfl, rfl⟩ rfl hl.1 rfl (show _ ≤ _ from by simp [Value.category]) (by decide) dX12_readArticle_157) hS177 (fun v181 H181 locs181 hr181 hC181 hS181 => ?_)
                obtain ⟨hp181, hr181⟩ := hr181
                have hKp181 := hKp177.tr (hp181.mono rfl)
                obtain ⟨f181_0, f181_1, f181_2, f181_3, f181_4, f181_5, f181_6, f181_7⟩ := hr181
                refine q_cast E hC181 hS181 gca (a := (2102 + 3)) ev178i (by omega) (by omega) (cs_n16 (a := (2102 + 3)) (by omega) (by omega)) dX12_readArticle_160 (fun H182 locs182 hC182 hS182 U182 => ?_)
                have hKp182 := Kp.upD gca rfl rfl (fun _ => ⟨fun _ => nd4 (by omega) (by omega), fun _ => by unfold dpu; omega, fun _ => by unfold dpn; omega⟩) U182 hKp181
                have m183 : (sI H182 h0 (X.1.2 11 12)).toInt = (sI H181 h0 (X.1.2 11 12)).toInt := congrArg Int32.toInt (up_nI U182 (ne_k g0 gca (by decide)))
                have m184 : (sI H182 h0 (X.1.2 11 14)).toInt = (sI H181 h0 (X.1.2 11 14)).toInt := congrArg Int32.toInt (up_nI U182 (ne_k g0 gca (by decide)))
                have m185 := congrArg tk m184
                have m186 : (sI H182 h0 (X.1.2 11 16)).toInt = (sI H181 h0 (X.1.2 11 16)).toInt := congrArg Int32.toInt (up_nI U182 (ne_k g0 gca (by decide)))
                have e187 := up_I U182
                refine lv_aload_n hx hb dX12_readArticle_161 rfl (lv_at hl 1 rfl) ?_
                refine q_getI E hC182 g0 fa_RX12_218 dX12_readArticle_162 (fun v188 ev188 lv188 uv188 => ?_)
                have m189 : (sI H182 h0 (X.1.2 11 12)).toInt = v188.toInt := (congrArg Int32.toInt ev188).trans rfl
                refine q_if_ne hx hb (a := v188.toInt) rfl (tgt := 179) dX12_readArticle_165 rfl (fun c190 => ?_) (fun c190 => ?_)
                · have hz8 := tk_nn (sI H182 h0 (X.1.2 11 14)).toInt
                  exact ret H182 locs182 _ _ dX12_readArticle_179 ⟨hKp182, ⟨by omega, by omega, by omega, by omega⟩⟩ hC182 hS182
                · refine lv_aload_n hx hb dX12_readArticle_168 rfl (lv_at hl 1 rfl) ?_
                  refine q_getC E hC182 g0 fa_RX12_35 uc dX12_readArticle_169 ?_
                  refine lv_sipush (v := 2098) hx hb dX12_readArticle_172 rfl ?_
                  refine lv_iload_n hx hb dX12_readArticle_175 rfl (lv_at hl 0 rfl) ?_
                  refine lv_iadd hx hb dX12_readArticle_176 (lv_topi (fun v191 ev191 => ?_))
                  have ev191i : v191.toInt = (2098 + 3) := i_add ev191 (by decide) (by decide) (by omega) (by omega)
                  refine lv_iconst (v := 1) hx hb dX12_readArticle_177 rfl ?_
                  refine q_cast E hC182 hS182 gca (a := (2098 + 3)) ev191i (by omega) (by omega) (cs_n16 (a := (2098 + 3)) (by omega) (by omega)) dX12_readArticle_178 (fun H192 locs192 hC192 hS192 U192 => ?_)
                  have hKp192 := Kp.upD gca rfl rfl (fun _ => ⟨fun _ => nd4 (by omega) (by omega), fun _ => by unfold dpu; omega, fun _ => by unfold dpn; omega⟩) U192 hKp182
                  have m193 : (sI H192 h0 (X.1.2 11 12)).toInt = (sI H182 h0 (X.1.2 11 12)).toInt := congrArg Int32.toInt (up_nI U192 (ne_k g0 gca (by decide)))
                  have m194 : (sI H192 h0 (X.1.2 11 14)).toInt = (sI H182 h0 (X.1.2 11 14)).toInt := congrArg Int32.toInt (up_nI U192 (ne_k g0 gca (by decide)))
                  have m195 := congrArg tk m194
                  have m196 : (sI H192 h0 (X.1.2 11 16)).toInt = (sI H182 h0 (X.1.2 11 16)).toInt := congrArg Int32.toInt (up_nI U192 (ne_k g0 gca (by decide)))
                  have e197 := up_I U192
                  have hz8 := tk_nn (sI H192 h0 (X.1.2 11 14)).toInt
                  exact ret H192 locs192 _ _ dX12_readArticle_179 ⟨hKp192, ⟨by omega, by omega, by omega, by omega⟩⟩ hC192 hS192
            · refine lv_aload_n hx hb dX12_readArticle_79 rfl (lv_at hl 1 rfl) ?_
              refine lv_iconst (v := 5) hx hb dX12_readArticle_80 rfl ?_
              refine lv_aload_n hx hb dX12_readArticle_81 rfl (lv_at hl 1 rfl) ?_
              refine q_getI E hC21 g0 fa_RX12_114 dX12_readArticle_82 (fun v198 ev198 lv198 uv198 => ?_)
              refine q_goV (q_runV (As := [.int 5, .int v198]) (rest := []) E hC21 hS28 (m_X12_fail l X Γ H21 hC21 h0 g0 5 (a1 := 5) (by decide) v198 (a2 := v198.toInt) rfl ca gca uc (by omega) (by omega)) cw_X12_fail cl_RX12_224 g0 ⟨rfl, rfl⟩ rfl hl.1 rfl (Nat.zero_le _) (by decide) dX12_readArticle_85) hS28 (fun H199 locs199 hr199 hC199 hS199 => ?_)
              obtain ⟨hp199, hr199⟩ := hr199
              have hKp199 := hKp21.tr (hp199.mono rfl)
              obtain ⟨f199_0, f199_1, f199_2, f199_3⟩ := hr199
              refine lv_aload_n hx hb dX12_readArticle_88 rfl (lv_at hl 1 rfl) ?_
              refine lv_iconst (v := 1) hx hb dX12_readArticle_89 rfl ?_
              refine q_goV (q_runV (As := [.int 1]) (rest := []) E hC199 hS199 (m_X12_must l X Γ H199 hC199 h0 g0 1 (a1 := 1) (by decide) ca gca uc (by omega) (by omega)) cw_X12_must cl_RX12_244 g0 ⟨rfl, rfl⟩ rfl hl.1 rfl (Nat.zero_le _) (by decide) dX12_readArticle_90) hS199 (fun H200 locs200 hr200 hC200 hS200 => ?_)
              obtain ⟨hp200, hr200⟩ := hr200
              have hKp200 := hKp199.tr (hp200.mono rfl)
              obtain ⟨f200_0, f200_1, f200_2, f200_3, f200_4⟩ := hr200
              refine lv_aload_n hx hb dX12_readArticle_93 rfl (lv_at hl 1 rfl) ?_
              refine q_getI E hC200 g0 fa_RX12_218 dX12_readArticle_94 (fun v201 ev201 lv201 uv201 => ?_)
              have m202 : (sI H200 h0 (X.1.2 11 12)).toInt = v201.toInt := (congrArg Int32.toInt ev201).trans rfl
              refine q_if_ne hx hb (a := v201.toInt) rfl (tgt := 161) dX12_readArticle_97 rfl (fun c203 => ?_) (fun c203 => ?_)
              · refine lv_aload_n hx hb dX12_readArticle_161 rfl (lv_at hl 1 rfl) ?_
                refine q_getI E hC200 g0 fa_RX12_218 dX12_readArticle_162 (fun v204 ev204 lv204 uv204 => ?_)
                have qv204 := ev201.symm.trans ev204; subst qv204
                refine q_if_ne hx hb (a := v201.toInt) rfl (tgt := 179) dX12_readArticle_165 rfl (fun c205 => ?_) (fun c205 => absurd c205 (by omega))
                have hz8 := tk_nn (sI H200 h0 (X.1.2 11 14)).toInt
                exact ret H200 locs200 _ _ dX12_readArticle_179 ⟨hKp200, ⟨by omega, by omega, by omega, by omega⟩⟩ hC200 hS200
              · refine lv_iload_n hx hb dX12_readArticle_100 rfl (lv_at hl 0 rfl) ?_
                refine lv_iconst (v := 2) hx hb dX12_readArticle_101 rfl ?_
                refine q_icmp_eq hx hb (a := 3) (b := 2) (by decide) (by decide) (tgt := 161) dX12_readArticle_102 rfl (fun c206 => absurd c206 (by omega)) (fun c206 => ?_)
                refine lv_aload_n hx hb dX12_readArticle_105 rfl (lv_at hl 1 rfl) ?_
                refine lv_iload_n hx hb dX12_readArticle_106 rfl (lv_at hl 0 rfl) ?_
                refine lv_iconst (v := 1) hx hb dX12_readArticle_107 rfl ?_
                refine q_icmp_ne hx hb (a := 3) (b := 1) (by decide) (by decide) (tgt := 118) dX12_readArticle_108 rfl (fun c207 => ?_) (fun c207 => absurd c207 (by omega))
                refine lv_aload_n hx hb dX12_readArticle_118 rfl (lv_at hl 1 rfl) ?_
                refine q_goIp (q_runV (As := []) (rest := [.ref h0]) E hC200 hS200 (m_X12_isAbove l X Γ H200 hC200 h0 g0 ca gca uc) cw_X12_isAbove cl_RX12_196 g0 ⟨rfl, rfl⟩ rfl hl.1 rfl (show _ ≤ _ from by simp [Value.category]) (by decide) dX12_readArticle_119) hS200 (fun v208 locs208 hr208 hS208 => ?_)
                have b208 : v208.toInt = 0 ∨ v208.toInt = 1 := hr208.imp (fun h => by rw [h]; decide) (fun h => by rw [h]; decide)
                refine q_goV (q_runV (As := [.int v208]) (rest := []) E hC200 hS208 (m_X12_must l X Γ H200 hC200 h0 g0 v208 (a1 := v208.toInt) rfl ca gca uc (by omega) (by omega)) cw_X12_must cl_RX12_244 g0 ⟨rfl, rfl⟩ rfl hl.1 rfl (Nat.zero_le _) (by decide) dX12_readArticle_122) hS208 (fun H209 locs209 hr209 hC209 hS209 => ?_)
                obtain ⟨hp209, hr209⟩ := hr209
                have hKp209 := hKp200.tr (hp209.mono rfl)
                obtain ⟨f209_0, f209_1, f209_2, f209_3, f209_4⟩ := hr209
                refine lv_aload_n hx hb dX12_readArticle_125 rfl (lv_at hl 1 rfl) ?_
                refine q_getC E hC209 g0 fa_RX12_35 uc dX12_readArticle_126 ?_
                refine lv_sipush (v := 2102) hx hb dX12_readArticle_129 rfl ?_
                refine lv_iload_n hx hb dX12_readArticle_132 rfl (lv_at hl 0 rfl) ?_
                refine lv_iadd hx hb dX12_readArticle_133 (lv_topi (fun v210 ev210 => ?_))
                have ev210i : v210.toInt = (2102 + 3) := i_add ev210 (by decide) (by decide) (by omega) (by omega)
                refine lv_aload_n hx hb dX12_readArticle_134 rfl (lv_at hl 1 rfl) ?_
                refine lv_iconst (v := 0) hx hb dX12_readArticle_135 rfl ?_
                refine lv_iload_n hx hb dX12_readArticle_136 rfl (lv_at hl 0 rfl) ?_
                refine q_if_ne hx hb (a := 3) (by decide) (tgt := 145) dX12_readArticle_137 rfl (fun c211 => ?_) (fun c211 => absurd c211 (by omega))
                refine lv_iload_n hx hb dX12_readArticle_145 rfl (lv_at hl 0 rfl) ?_
                refine lv_iconst (v := 1) hx hb dX12_readArticle_146 rfl ?_
                refine q_icmp_ne hx hb (a := 3) (b := 1) (by decide) (by decide) (tgt := 155) dX12_readArticle_147 rfl (fun c212 => ?_) (fun c212 => absurd c212 (by omega))
                refine lv_bipush (v := 18) hx hb dX12_readArticle_155 rfl ?_
                refine q_goI (q_runV (As := [.int 0, .int 18]) (rest := [.int v210, .ref ca]) E hC209 hS209 (m_X12_count l X Γ H209 hC209 h0 g0 0 (a1 := 0) (by decide) 18 (a2 := 18) (by decide) ca gca uc (by omega) (by omega) (by omega) (by omega)) cw_X12_count cl_RX12_248 g0 ⟨rfl, rfl⟩ rfl hl.1 rfl (show _ ≤ _ from by simp [Value.category]) (by decide) dX12_readArticle_157) hS209 (fun v213 H213 locs213 hr213 hC213 hS213 => ?_)
                obtain ⟨hp213, hr213⟩ := hr213
                have hKp213 := hKp209.tr (hp213.mono rfl)
                obtain ⟨f213_0, f213_1, f213_2, f213_3, f213_4, f213_5, f213_6, f213_7⟩ := hr213
                refine q_cast E hC213 hS213 gca (a := (2102 + 3)) ev210i (by omega) (by omega) (cs_n16 (a := (2102 + 3)) (by omega) (by omega)) dX12_readArticle_160 (fun H214 locs214 hC214 hS214 U214 => ?_)
                have hKp214 := Kp.upD gca rfl rfl (fun _ => ⟨fun _ => nd4 (by omega) (by omega), fun _ => by unfold dpu; omega, fun _ => by unfold dpn; omega⟩) U214 hKp213
                have m215 : (sI H214 h0 (X.1.2 11 12)).toInt = (sI H213 h0 (X.1.2 11 12)).toInt := congrArg Int32.toInt (up_nI U214 (ne_k g0 gca (by decide)))
                have m216 : (sI H214 h0 (X.1.2 11 14)).toInt = (sI H213 h0 (X.1.2 11 14)).toInt := congrArg Int32.toInt (up_nI U214 (ne_k g0 gca (by decide)))
                have m217 := congrArg tk m216
                have m218 : (sI H214 h0 (X.1.2 11 16)).toInt = (sI H213 h0 (X.1.2 11 16)).toInt := congrArg Int32.toInt (up_nI U214 (ne_k g0 gca (by decide)))
                have e219 := up_I U214
                refine lv_aload_n hx hb dX12_readArticle_161 rfl (lv_at hl 1 rfl) ?_
                refine q_getI E hC214 g0 fa_RX12_218 dX12_readArticle_162 (fun v220 ev220 lv220 uv220 => ?_)
                have m221 : (sI H214 h0 (X.1.2 11 12)).toInt = v220.toInt := (congrArg Int32.toInt ev220).trans rfl
                refine q_if_ne hx hb (a := v220.toInt) rfl (tgt := 179) dX12_readArticle_165 rfl (fun c222 => ?_) (fun c222 => ?_)
                · have hz8 := tk_nn (sI H214 h0 (X.1.2 11 14)).toInt
                  exact ret H214 locs214 _ _ dX12_readArticle_179 ⟨hKp214, ⟨by omega, by omega, by omega, by omega⟩⟩ hC214 hS214
                · refine lv_aload_n hx hb dX12_readArticle_168 rfl (lv_at hl 1 rfl) ?_
                  refine q_getC E hC214 g0 fa_RX12_35 uc dX12_readArticle_169 ?_
                  refine lv_sipush (v := 2098) hx hb dX12_readArticle_172 rfl ?_
                  refine lv_iload_n hx hb dX12_readArticle_175 rfl (lv_at hl 0 rfl) ?_
                  refine lv_iadd hx hb dX12_readArticle_176 (lv_topi (fun v223 ev223 => ?_))
                  have ev223i : v223.toInt = (2098 + 3) := i_add ev223 (by decide) (by decide) (by omega) (by omega)
                  refine lv_iconst (v := 1) hx hb dX12_readArticle_177 rfl ?_
                  refine q_cast E hC214 hS214 gca (a := (2098 + 3)) ev223i (by omega) (by omega) (cs_n16 (a := (2098 + 3)) (by omega) (by omega)) dX12_readArticle_178 (fun H224 locs224 hC224 hS224 U224 => ?_)
                  have hKp224 := Kp.upD gca rfl rfl (fun _ => ⟨fun _ => nd4 (by omega) (by omega), fun _ => by unfold dpu; omega, fun _ => by unfold dpn; omega⟩) U224 hKp214
                  have m225 : (sI H224 h0 (X.1.2 11 12)).toInt = (sI H214 h0 (X.1.2 11 12)).toInt := congrArg Int32.toInt (up_nI U224 (ne_k g0 gca (by decide)))
                  have m226 : (sI H224 h0 (X.1.2 11 14)).toInt = (sI H214 h0 (X.1.2 11 14)).toInt := congrArg Int32.toInt (up_nI U224 (ne_k g0 gca (by decide)))
                  have m227 := congrArg tk m226
                  have m228 : (sI H224 h0 (X.1.2 11 16)).toInt = (sI H214 h0 (X.1.2 11 16)).toInt := congrArg Int32.toInt (up_nI U224 (ne_k g0 gca (by decide)))
                  have e229 := up_I U224
                  have hz8 := tk_nn (sI H224 h0 (X.1.2 11 14)).toInt
                  exact ret H224 locs224 _ _ dX12_readArticle_179 ⟨hKp224, ⟨by omega, by omega, by omega, by omega⟩⟩ hC224 hS224
      · refine q_if_eq hx hb (a := 1) (by decide) (tgt := 37) dX12_readArticle_30 rfl (fun c230 => absurd c230 (by omega)) (fun c230 => ?_)
        refine lv_iconst (v := 2) hx hb dX12_readArticle_33 rfl ?_
        refine lv_goto (tgt := 49) hx hb dX12_readArticle_34 rfl ?_
        refine lv_istore_n hx hb dX12_readArticle_49 rfl hl (by decide) rfl (fun ls hl => ?_)
        have hl : lv_has ls 2 [(1, .int 2), (0, .ref h0)] := hl
        refine lv_iload_n hx hb dX12_readArticle_50 rfl (lv_at hl 0 rfl) ?_
        refine q_if_ge hx hb (a := 2) (by decide) (tgt := 58) dX12_readArticle_51 rfl (fun c231 => ?_) (fun c231 => absurd c231 (by omega))
        refine lv_aload_n hx hb dX12_readArticle_58 rfl (lv_at hl 1 rfl) ?_
        refine q_getI E hC21 g0 fa_RX12_218 dX12_readArticle_59 (fun v232 ev232 lv232 uv232 => ?_)
        have m233 : (sI H21 h0 (X.1.2 11 12)).toInt = v232.toInt := (congrArg Int32.toInt ev232).trans rfl
        refine q_if_ne hx hb (a := v232.toInt) rfl (tgt := 88) dX12_readArticle_62 rfl (fun c234 => ?_) (fun c234 => ?_)
        · refine lv_aload_n hx hb dX12_readArticle_88 rfl (lv_at hl 1 rfl) ?_
          refine lv_iconst (v := 1) hx hb dX12_readArticle_89 rfl ?_
          refine q_goV (q_runV (As := [.int 1]) (rest := []) E hC21 hS26 (m_X12_must l X Γ H21 hC21 h0 g0 1 (a1 := 1) (by decide) ca gca uc (by omega) (by omega)) cw_X12_must cl_RX12_244 g0 ⟨rfl, rfl⟩ rfl hl.1 rfl (Nat.zero_le _) (by decide) dX12_readArticle_90) hS26 (fun H235 locs235 hr235 hC235 hS235 => ?_)
          obtain ⟨hp235, hr235⟩ := hr235
          have hKp235 := hKp21.tr (hp235.mono rfl)
          obtain ⟨f235_0, f235_1, f235_2, f235_3, f235_4⟩ := hr235
          refine lv_aload_n hx hb dX12_readArticle_93 rfl (lv_at hl 1 rfl) ?_
          refine q_getI E hC235 g0 fa_RX12_218 dX12_readArticle_94 (fun v236 ev236 lv236 uv236 => ?_)
          have m237 : (sI H235 h0 (X.1.2 11 12)).toInt = v236.toInt := (congrArg Int32.toInt ev236).trans rfl
          refine q_if_ne hx hb (a := v236.toInt) rfl (tgt := 161) dX12_readArticle_97 rfl (fun c238 => ?_) (fun c238 => ?_)
          · refine lv_aload_n hx hb dX12_readArticle_161 rfl (lv_at hl 1 rfl) ?_
            refine q_getI E hC235 g0 fa_RX12_218 dX12_readArticle_162 (fun v239 ev239 lv239 uv239 => ?_)
            have qv239 := ev236.symm.trans ev239; subst qv239
            refine q_if_ne hx hb (a := v236.toInt) rfl (tgt := 179) dX12_readArticle_165 rfl (fun c240 => ?_) (fun c240 => absurd c240 (by omega))
            have hz8 := tk_nn (sI H235 h0 (X.1.2 11 14)).toInt
            exact ret H235 locs235 _ _ dX12_readArticle_179 ⟨hKp235, ⟨by omega, by omega, by omega, by omega⟩⟩ hC235 hS235
          · refine lv_iload_n hx hb dX12_readArticle_100 rfl (lv_at hl 0 rfl) ?_
            refine lv_iconst (v := 2) hx hb dX12_readArticle_101 rfl ?_
            refine q_icmp_eq hx hb (a := 2) (b := 2) (by decide) (by decide) (tgt := 161) dX12_readArticle_102 rfl (fun c241 => ?_) (fun c241 => absurd c241 (by omega))
            refine lv_aload_n hx hb dX12_readArticle_161 rfl (lv_at hl 1 rfl) ?_
            refine q_getI E hC235 g0 fa_RX12_218 dX12_readArticle_162 (fun v242 ev242 lv242 uv242 => ?_)
            have qv242 := ev236.symm.trans ev242; subst qv242
            refine q_if_ne hx hb (a := v236.toInt) rfl (tgt := 179) dX12_readArticle_165 rfl (fun c243 => absurd c243 (by omega)) (fun c243 => ?_)
            refine lv_aload_n hx hb dX12_readArticle_168 rfl (lv_at hl 1 rfl) ?_
            refine q_getC E hC235 g0 fa_RX12_35 uc dX12_readArticle_169 ?_
            refine lv_sipush (v := 2098) hx hb dX12_readArticle_172 rfl ?_
            refine lv_iload_n hx hb dX12_readArticle_175 rfl (lv_at hl 0 rfl) ?_
            refine lv_iadd hx hb dX12_readArticle_176 (lv_topi (fun v244 ev244 => ?_))
            have ev244i : v244.toInt = (2098 + 2) := i_add ev244 (by decide) (by decide) (by omega) (by omega)
            refine lv_iconst (v := 1) hx hb dX12_readArticle_177 rfl ?_
            refine q_cast E hC235 hS235 gca (a := (2098 + 2)) ev244i (by omega) (by omega) (cs_n16 (a := (2098 + 2)) (by omega) (by omega)) dX12_readArticle_178 (fun H245 locs245 hC245 hS245 U245 => ?_)
            have hKp245 := Kp.upD gca rfl rfl (fun _ => ⟨fun _ => nd4 (by omega) (by omega), fun _ => by unfold dpu; omega, fun _ => by unfold dpn; omega⟩) U245 hKp235
            have m246 : (sI H245 h0 (X.1.2 11 12)).toInt = (sI H235 h0 (X.1.2 11 12)).toInt := congrArg Int32.toInt (up_nI U245 (ne_k g0 gca (by decide)))
            have m247 : (sI H245 h0 (X.1.2 11 14)).toInt = (sI H235 h0 (X.1.2 11 14)).toInt := congrArg Int32.toInt (up_nI U245 (ne_k g0 gca (by decide)))
            have m248 := congrArg tk m247
            have m249 : (sI H245 h0 (X.1.2 11 16)).toInt = (sI H235 h0 (X.1.2 11 16)).toInt := congrArg Int32.toInt (up_nI U245 (ne_k g0 gca (by decide)))
            have e250 := up_I U245
            have hz8 := tk_nn (sI H245 h0 (X.1.2 11 14)).toInt
            exact ret H245 locs245 _ _ dX12_readArticle_179 ⟨hKp245, ⟨by omega, by omega, by omega, by omega⟩⟩ hC245 hS245
        · refine lv_aload_n hx hb dX12_readArticle_65 rfl (lv_at hl 1 rfl) ?_
          refine q_getC E hC21 g0 fa_RX12_35 uc dX12_readArticle_66 ?_
          refine lv_sipush (v := 2098) hx hb dX12_readArticle_69 rfl ?_
          refine lv_iload_n hx hb dX12_readArticle_72 rfl (lv_at hl 0 rfl) ?_
          refine lv_iadd hx hb dX12_readArticle_73 (lv_topi (fun v251 ev251 => ?_))
          have ev251i : v251.toInt = (2098 + 2) := i_add ev251 (by decide) (by decide) (by omega) (by omega)
          refine q_cald E hC21 (lo := -2147483648) (hi := 2147483647) gca (a := (2098 + 2)) ev251i (by omega) (by omega) (cr_n16 (by omega) (by omega)) dX12_readArticle_74 (fun v252 ev252 _ _ => ?_)
          refine lv_iconst (v := 1) hx hb dX12_readArticle_75 rfl ?_
          refine q_icmp_ne hx hb (a := v252.toInt) (b := 1) rfl (by decide) (tgt := 88) dX12_readArticle_76 rfl (fun c253 => ?_) (fun c253 => ?_)
          · refine lv_aload_n hx hb dX12_readArticle_88 rfl (lv_at hl 1 rfl) ?_
            refine lv_iconst (v := 1) hx hb dX12_readArticle_89 rfl ?_
            refine q_goV (q_runV (As := [.int 1]) (rest := []) E hC21 hS26 (m_X12_must l X Γ H21 hC21 h0 g0 1 (a1 := 1) (by decide) ca gca uc (by omega) (by omega)) cw_X12_must cl_RX12_244 g0 ⟨rfl, rfl⟩ rfl hl.1 rfl (Nat.zero_le _) (by decide) dX12_readArticle_90) hS26 (fun H254 locs254 hr254 hC254 hS254 => ?_)
            obtain ⟨hp254, hr254⟩ := hr254
            have hKp254 := hKp21.tr (hp254.mono rfl)
            obtain ⟨f254_0, f254_1, f254_2, f254_3, f254_4⟩ := hr254
            refine lv_aload_n hx hb dX12_readArticle_93 rfl (lv_at hl 1 rfl) ?_
            refine q_getI E hC254 g0 fa_RX12_218 dX12_readArticle_94 (fun v255 ev255 lv255 uv255 => ?_)
            have m256 : (sI H254 h0 (X.1.2 11 12)).toInt = v255.toInt := (congrArg Int32.toInt ev255).trans rfl
            refine q_if_ne hx hb (a := v255.toInt) rfl (tgt := 161) dX12_readArticle_97 rfl (fun c257 => ?_) (fun c257 => ?_)
            · refine lv_aload_n hx hb dX12_readArticle_161 rfl (lv_at hl 1 rfl) ?_
              refine q_getI E hC254 g0 fa_RX12_218 dX12_readArticle_162 (fun v258 ev258 lv258 uv258 => ?_)
              have qv258 := ev255.symm.trans ev258; subst qv258
              refine q_if_ne hx hb (a := v255.toInt) rfl (tgt := 179) dX12_readArticle_165 rfl (fun c259 => ?_) (fun c259 => absurd c259 (by omega))
              have hz8 := tk_nn (sI H254 h0 (X.1.2 11 14)).toInt
              exact ret H254 locs254 _ _ dX12_readArticle_179 ⟨hKp254, ⟨by omega, by omega, by omega, by omega⟩⟩ hC254 hS254
            · refine lv_iload_n hx hb dX12_readArticle_100 rfl (lv_at hl 0 rfl) ?_
              refine lv_iconst (v := 2) hx hb dX12_readArticle_101 rfl ?_
              refine q_icmp_eq hx hb (a := 2) (b := 2) (by decide) (by decide) (tgt := 161) dX12_readArticle_102 rfl (fun c260 => ?_) (fun c260 => absurd c260 (by omega))
              refine lv_aload_n hx hb dX12_readArticle_161 rfl (lv_at hl 1 rfl) ?_
              refine q_getI E hC254 g0 fa_RX12_218 dX12_readArticle_162 (fun v261 ev261 lv261 uv261 => ?_)
              have qv261 := ev255.symm.trans ev261; subst qv261
              refine q_if_ne hx hb (a := v255.toInt) rfl (tgt := 179) dX12_readArticle_165 rfl (fun c262 => absurd c262 (by omega)) (fun c262 => ?_)
              refine lv_aload_n hx hb dX12_readArticle_168 rfl (lv_at hl 1 rfl) ?_
              refine q_getC E hC254 g0 fa_RX12_35 uc dX12_readArticle_169 ?_
              refine lv_sipush (v := 2098) hx hb dX12_readArticle_172 rfl ?_
              refine lv_iload_n hx hb dX12_readArticle_175 rfl (lv_at hl 0 rfl) ?_
              refine lv_iadd hx hb dX12_readArticle_176 (lv_topi (fun v263 ev263 => ?_))
              have ev263i : v263.toInt = (2098 + 2) := i_add ev263 (by decide) (by decide) (by omega) (by omega)
              refine lv_iconst (v := 1) hx hb dX12_readArticle_177 rfl ?_
              refine q_cast E hC254 hS254 gca (a := (2098 + 2)) ev263i (by omega) (by omega) (cs_n16 (a := (2098 + 2)) (by omega) (by omega)) dX12_readArticle_178 (fun H264 locs264 hC264 hS264 U264 => ?_)
              have hKp264 := Kp.upD gca rfl rfl (fun _ => ⟨fun _ => nd4 (by omega) (by omega), fun _ => by unfold dpu; omega, fun _ => by unfold dpn; omega⟩) U264 hKp254
              have m265 : (sI H264 h0 (X.1.2 11 12)).toInt = (sI H254 h0 (X.1.2 11 12)).toInt := congrArg Int32.toInt (up_nI U264 (ne_k g0 gca (by decide)))
              have m266 : (sI H264 h0 (X.1.2 11 14)).toInt = (sI H254 h0 (X.1.2 11 14)).toInt := congrArg Int32.toInt (up_nI U264 (ne_k g0 gca (by decide)))
              have m267 := congrArg tk m266
              have m268 : (sI H264 h0 (X.1.2 11 16)).toInt = (sI H254 h0 (X.1.2 11 16)).toInt := congrArg Int32.toInt (up_nI U264 (ne_k g0 gca (by decide)))
              have e269 := up_I U264
              have hz8 := tk_nn (sI H264 h0 (X.1.2 11 14)).toInt
              exact ret H264 locs264 _ _ dX12_readArticle_179 ⟨hKp264, ⟨by omega, by omega, by omega, by omega⟩⟩ hC264 hS264
          · refine lv_aload_n hx hb dX12_readArticle_79 rfl (lv_at hl 1 rfl) ?_
            refine lv_iconst (v := 5) hx hb dX12_readArticle_80 rfl ?_
            refine lv_aload_n hx hb dX12_readArticle_81 rfl (lv_at hl 1 rfl) ?_
            refine q_getI E hC21 g0 fa_RX12_114 dX12_readArticle_82 (fun v270 ev270 lv270 uv270 => ?_)
            refine q_goV (q_runV (As := [.int 5, .int v270]) (rest := []) E hC21 hS26 (m_X12_fail l X Γ H21 hC21 h0 g0 5 (a1 := 5) (by decide) v270 (a2 := v270.toInt) rfl ca gca uc (by omega) (by omega)) cw_X12_fail cl_RX12_224 g0 ⟨rfl, rfl⟩ rfl hl.1 rfl (Nat.zero_le _) (by decide) dX12_readArticle_85) hS26 (fun H271 locs271 hr271 hC271 hS271 => ?_)
            obtain ⟨hp271, hr271⟩ := hr271
            have hKp271 := hKp21.tr (hp271.mono rfl)
            obtain ⟨f271_0, f271_1, f271_2, f271_3⟩ := hr271
            refine lv_aload_n hx hb dX12_readArticle_88 rfl (lv_at hl 1 rfl) ?_
            refine lv_iconst (v := 1) hx hb dX12_readArticle_89 rfl ?_
            refine q_goV (q_runV (As := [.int 1]) (rest := []) E hC271 hS271 (m_X12_must l X Γ H271 hC271 h0 g0 1 (a1 := 1) (by decide) ca gca uc (by omega) (by omega)) cw_X12_must cl_RX12_244 g0 ⟨rfl, rfl⟩ rfl hl.1 rfl (Nat.zero_le _) (by decide) dX12_readArticle_90) hS271 (fun H272 locs272 hr272 hC272 hS272 => ?_)
            obtain ⟨hp272, hr272⟩ := hr272
            have hKp272 := hKp271.tr (hp272.mono rfl)
            obtain ⟨f272_0, f272_1, f272_2, f272_3, f272_4⟩ := hr272
            refine lv_aload_n hx hb dX12_readArticle_93 rfl (lv_at hl 1 rfl) ?_
            refine q_getI E hC272 g0 fa_RX12_218 dX12_readArticle_94 (fun v273 ev273 lv273 uv273 => ?_)
            have m274 : (sI H272 h0 (X.1.2 11 12)).toInt = v273.toInt := (congrArg Int32.toInt ev273).trans rfl
            refine q_if_ne hx hb (a := v273.toInt) rfl (tgt := 161) dX12_readArticle_97 rfl (fun c275 => ?_) (fun c275 => ?_)
            · refine lv_aload_n hx hb dX12_readArticle_161 rfl (lv_at hl 1 rfl) ?_
              refine q_getI E hC272 g0 fa_RX12_218 dX12_readArticle_162 (fun v276 ev276 lv276 uv276 => ?_)
              have qv276 := ev273.symm.trans ev276; subst qv276
              refine q_if_ne hx hb (a := v273.toInt) rfl (tgt := 179) dX12_readArticle_165 rfl (fun c277 => ?_) (fun c277 => absurd c277 (by omega))
              have hz8 := tk_nn (sI H272 h0 (X.1.2 11 14)).toInt
              exact ret H272 locs272 _ _ dX12_readArticle_179 ⟨hKp272, ⟨by omega, by omega, by omega, by omega⟩⟩ hC272 hS272
            · refine lv_iload_n hx hb dX12_readArticle_100 rfl (lv_at hl 0 rfl) ?_
              refine lv_iconst (v := 2) hx hb dX12_readArticle_101 rfl ?_
              refine q_icmp_eq hx hb (a := 2) (b := 2) (by decide) (by decide) (tgt := 161) dX12_readArticle_102 rfl (fun c278 => ?_) (fun c278 => absurd c278 (by omega))
              refine lv_aload_n hx hb dX12_readArticle_161 rfl (lv_at hl 1 rfl) ?_
              refine q_getI E hC272 g0 fa_RX12_218 dX12_readArticle_162 (fun v279 ev279 lv279 uv279 => ?_)
              have qv279 := ev273.symm.trans ev279; subst qv279
              refine q_if_ne hx hb (a := v273.toInt) rfl (tgt := 179) dX12_readArticle_165 rfl (fun c280 => absurd c280 (by omega)) (fun c280 => ?_)
              refine lv_aload_n hx hb dX12_readArticle_168 rfl (lv_at hl 1 rfl) ?_
              refine q_getC E hC272 g0 fa_RX12_35 uc dX12_readArticle_169 ?_
              refine lv_sipush (v := 2098) hx hb dX12_readArticle_172 rfl ?_
              refine lv_iload_n hx hb dX12_readArticle_175 rfl (lv_at hl 0 rfl) ?_
              refine lv_iadd hx hb dX12_readArticle_176 (lv_topi (fun v281 ev281 => ?_))
              have ev281i : v281.toInt = (2098 + 2) := i_add ev281 (by decide) (by decide) (by omega) (by omega)
              refine lv_iconst (v := 1) hx hb dX12_readArticle_177 rfl ?_
              refine q_cast E hC272 hS272 gca (a := (2098 + 2)) ev281i (by omega) (by omega) (cs_n16 (a := (2098 + 2)) (by omega) (by omega)) dX12_readArticle_178 (fun H282 locs282 hC282 hS282 U282 => ?_)
              have hKp282 := Kp.upD gca rfl rfl (fun _ => ⟨fun _ => nd4 (by omega) (by omega), fun _ => by unfold dpu; omega, fun _ => by unfold dpn; omega⟩) U282 hKp272
              have m283 : (sI H282 h0 (X.1.2 11 12)).toInt = (sI H272 h0 (X.1.2 11 12)).toInt := congrArg Int32.toInt (up_nI U282 (ne_k g0 gca (by decide)))
              have m284 : (sI H282 h0 (X.1.2 11 14)).toInt = (sI H272 h0 (X.1.2 11 14)).toInt := congrArg Int32.toInt (up_nI U282 (ne_k g0 gca (by decide)))
              have m285 := congrArg tk m284
              have m286 : (sI H282 h0 (X.1.2 11 16)).toInt = (sI H272 h0 (X.1.2 11 16)).toInt := congrArg Int32.toInt (up_nI U282 (ne_k g0 gca (by decide)))
              have e287 := up_I U282
              have hz8 := tk_nn (sI H282 h0 (X.1.2 11 14)).toInt
              exact ret H282 locs282 _ _ dX12_readArticle_179 ⟨hKp282, ⟨by omega, by omega, by omega, by omega⟩⟩ hC282 hS282
    · refine q_if_eq hx hb (a := 1) (by decide) (tgt := 26) dX12_readArticle_19 rfl (fun c288 => absurd c288 (by omega)) (fun c288 => ?_)
      refine lv_iconst (v := 1) hx hb dX12_readArticle_22 rfl ?_
      refine lv_goto (tgt := 49) hx hb dX12_readArticle_23 rfl ?_
      refine lv_istore_n hx hb dX12_readArticle_49 rfl hl (by decide) rfl (fun ls hl => ?_)
      have hl : lv_has ls 2 [(1, .int 1), (0, .ref h0)] := hl
      refine lv_iload_n hx hb dX12_readArticle_50 rfl (lv_at hl 0 rfl) ?_
      refine q_if_ge hx hb (a := 1) (by decide) (tgt := 58) dX12_readArticle_51 rfl (fun c289 => ?_) (fun c289 => absurd c289 (by omega))
      refine lv_aload_n hx hb dX12_readArticle_58 rfl (lv_at hl 1 rfl) ?_
      refine q_getI E hC21 g0 fa_RX12_218 dX12_readArticle_59 (fun v290 ev290 lv290 uv290 => ?_)
      have m291 : (sI H21 h0 (X.1.2 11 12)).toInt = v290.toInt := (congrArg Int32.toInt ev290).trans rfl
      refine q_if_ne hx hb (a := v290.toInt) rfl (tgt := 88) dX12_readArticle_62 rfl (fun c292 => ?_) (fun c292 => ?_)
      · refine lv_aload_n hx hb dX12_readArticle_88 rfl (lv_at hl 1 rfl) ?_
        refine lv_iconst (v := 1) hx hb dX12_readArticle_89 rfl ?_
        refine q_goV (q_runV (As := [.int 1]) (rest := []) E hC21 hS24 (m_X12_must l X Γ H21 hC21 h0 g0 1 (a1 := 1) (by decide) ca gca uc (by omega) (by omega)) cw_X12_must cl_RX12_244 g0 ⟨rfl, rfl⟩ rfl hl.1 rfl (Nat.zero_le _) (by decide) dX12_readArticle_90) hS24 (fun H293 locs293 hr293 hC293 hS293 => ?_)
        obtain ⟨hp293, hr293⟩ := hr293
        have hKp293 := hKp21.tr (hp293.mono rfl)
        obtain ⟨f293_0, f293_1, f293_2, f293_3, f293_4⟩ := hr293
        refine lv_aload_n hx hb dX12_readArticle_93 rfl (lv_at hl 1 rfl) ?_
        refine q_getI E hC293 g0 fa_RX12_218 dX12_readArticle_94 (fun v294 ev294 lv294 uv294 => ?_)
        have m295 : (sI H293 h0 (X.1.2 11 12)).toInt = v294.toInt := (congrArg Int32.toInt ev294).trans rfl
        refine q_if_ne hx hb (a := v294.toInt) rfl (tgt := 161) dX12_readArticle_97 rfl (fun c296 => ?_) (fun c296 => ?_)
        · refine lv_aload_n hx hb dX12_readArticle_161 rfl (lv_at hl 1 rfl) ?_
          refine q_getI E hC293 g0 fa_RX12_218 dX12_readArticle_162 (fun v297 ev297 lv297 uv297 => ?_)
          have qv297 := ev294.symm.trans ev297; subst qv297
          refine q_if_ne hx hb (a := v294.toInt) rfl (tgt := 179) dX12_readArticle_165 rfl (fun c298 => ?_) (fun c298 => absurd c298 (by omega))
          have hz8 := tk_nn (sI H293 h0 (X.1.2 11 14)).toInt
          exact ret H293 locs293 _ _ dX12_readArticle_179 ⟨hKp293, ⟨by omega, by omega, by omega, by omega⟩⟩ hC293 hS293
        · refine lv_iload_n hx hb dX12_readArticle_100 rfl (lv_at hl 0 rfl) ?_
          refine lv_iconst (v := 2) hx hb dX12_readArticle_101 rfl ?_
          refine q_icmp_eq hx hb (a := 1) (b := 2) (by decide) (by decide) (tgt := 161) dX12_readArticle_102 rfl (fun c299 => absurd c299 (by omega)) (fun c299 => ?_)
          refine lv_aload_n hx hb dX12_readArticle_105 rfl (lv_at hl 1 rfl) ?_
          refine lv_iload_n hx hb dX12_readArticle_106 rfl (lv_at hl 0 rfl) ?_
          refine lv_iconst (v := 1) hx hb dX12_readArticle_107 rfl ?_
          refine q_icmp_ne hx hb (a := 1) (b := 1) (by decide) (by decide) (tgt := 118) dX12_readArticle_108 rfl (fun c300 => absurd c300 (by omega)) (fun c300 => ?_)
          refine lv_aload_n hx hb dX12_readArticle_111 rfl (lv_at hl 1 rfl) ?_
          refine q_goIp (q_runV (As := []) (rest := [.ref h0]) E hC293 hS293 (m_X12_isBehind l X Γ H293 hC293 h0 g0 ca gca uc) cw_X12_isBehind cl_RX12_199 g0 ⟨rfl, rfl⟩ rfl hl.1 rfl (show _ ≤ _ from by simp [Value.category]) (by decide) dX12_readArticle_112) hS293 (fun v301 locs301 hr301 hS301 => ?_)
          rcases hr301 with rfl | rfl
          · refine lv_goto (tgt := 122) hx hb dX12_readArticle_115 rfl ?_
            refine q_goV (q_runV (As := [.int 0]) (rest := []) E hC293 hS301 (m_X12_must l X Γ H293 hC293 h0 g0 0 (a1 := 0) (by decide) ca gca uc (by omega) (by omega)) cw_X12_must cl_RX12_244 g0 ⟨rfl, rfl⟩ rfl hl.1 rfl (Nat.zero_le _) (by decide) dX12_readArticle_122) hS301 (fun H302 locs302 hr302 hC302 hS302 => ?_)
            obtain ⟨hp302, hr302⟩ := hr302
            have hKp302 := hKp293.tr (hp302.mono rfl)
            obtain ⟨f302_0, f302_1, f302_2, f302_3, f302_4⟩ := hr302
            refine lv_aload_n hx hb dX12_readArticle_125 rfl (lv_at hl 1 rfl) ?_
            refine q_getC E hC302 g0 fa_RX12_35 uc dX12_readArticle_126 ?_
            refine lv_sipush (v := 2102) hx hb dX12_readArticle_129 rfl ?_
            refine lv_iload_n hx hb dX12_readArticle_132 rfl (lv_at hl 0 rfl) ?_
            refine lv_iadd hx hb dX12_readArticle_133 (lv_topi (fun v303 ev303 => ?_))
            have ev303i : v303.toInt = (2102 + 1) := i_add ev303 (by decide) (by decide) (by omega) (by omega)
            refine lv_aload_n hx hb dX12_readArticle_134 rfl (lv_at hl 1 rfl) ?_
            refine lv_iconst (v := 0) hx hb dX12_readArticle_135 rfl ?_
            refine lv_iload_n hx hb dX12_readArticle_136 rfl (lv_at hl 0 rfl) ?_
            refine q_if_ne hx hb (a := 1) (by decide) (tgt := 145) dX12_readArticle_137 rfl (fun c304 => ?_) (fun c304 => absurd c304 (by omega))
            refine lv_iload_n hx hb dX12_readArticle_145 rfl (lv_at hl 0 rfl) ?_
            refine lv_iconst (v := 1) hx hb dX12_readArticle_146 rfl ?_
            refine q_icmp_ne hx hb (a := 1) (b := 1) (by decide) (by decide) (tgt := 155) dX12_readArticle_147 rfl (fun c305 => absurd c305 (by omega)) (fun c305 => ?_)
            refine lv_bipush (v := 40) hx hb dX12_readArticle_150 rfl ?_
            refine lv_goto (tgt := 157) hx hb dX12_readArticle_152 rfl ?_
            refine q_goI (q_runV (As := [.int 0, .int 40]) (rest := [.int v303, .ref ca]) E hC302 hS302 (m_X12_count l X Γ H302 hC302 h0 g0 0 (a1 := 0) (by decide) 40 (a2 := 40) (by decide) ca gca uc (by omega) (by omega) (by omega) (by omega)) cw_X12_count cl_RX12_248 g0 ⟨rfl, rfl⟩ rfl hl.1 rfl (show _ ≤ _ from by simp [Value.category]) (by decide) dX12_readArticle_157) hS302 (fun v306 H306 locs306 hr306 hC306 hS306 => ?_)
            obtain ⟨hp306, hr306⟩ := hr306
            have hKp306 := hKp302.tr (hp306.mono rfl)
            obtain ⟨f306_0, f306_1, f306_2, f306_3, f306_4, f306_5, f306_6, f306_7⟩ := hr306
            refine q_cast E hC306 hS306 gca (a := (2102 + 1)) ev303i (by omega) (by omega) (cs_n16 (a := (2102 + 1)) (by omega) (by omega)) dX12_readArticle_160 (fun H307 locs307 hC307 hS307 U307 => ?_)
            have hKp307 := Kp.upD gca rfl rfl (fun _ => ⟨fun _ => nd4 (by omega) (by omega), fun _ => by unfold dpu; omega, fun _ => by unfold dpn; omega⟩) U307 hKp306
            have m308 : (sI H307 h0 (X.1.2 11 12)).toInt = (sI H306 h0 (X.1.2 11 12)).toInt := congrArg Int32.toInt (up_nI U307 (ne_k g0 gca (by decide)))
            have m309 : (sI H307 h0 (X.1.2 11 14)).toInt = (sI H306 h0 (X.1.2 11 14)).toInt := congrArg Int32.toInt (up_nI U307 (ne_k g0 gca (by decide)))
            have m310 := congrArg tk m309
            have m311 : (sI H307 h0 (X.1.2 11 16)).toInt = (sI H306 h0 (X.1.2 11 16)).toInt := congrArg Int32.toInt (up_nI U307 (ne_k g0 gca (by decide)))
            have e312 := up_I U307
            refine lv_aload_n hx hb dX12_readArticle_161 rfl (lv_at hl 1 rfl) ?_
            refine q_getI E hC307 g0 fa_RX12_218 dX12_readArticle_162 (fun v313 ev313 lv313 uv313 => ?_)
            have m314 : (sI H307 h0 (X.1.2 11 12)).toInt = v313.toInt := (congrArg Int32.toInt ev313).trans rfl
            refine q_if_ne hx hb (a := v313.toInt) rfl (tgt := 179) dX12_readArticle_165 rfl (fun c315 => ?_) (fun c315 => ?_)
            · have hz8 := tk_nn (sI H307 h0 (X.1.2 11 14)).toInt
              exact ret H307 locs307 _ _ dX12_readArticle_179 ⟨hKp307, ⟨by omega, by omega, by omega, by omega⟩⟩ hC307 hS307
            · refine lv_aload_n hx hb dX12_readArticle_168 rfl (lv_at hl 1 rfl) ?_
              refine q_getC E hC307 g0 fa_RX12_35 uc dX12_readArticle_169 ?_
              refine lv_sipush (v := 2098) hx hb dX12_readArticle_172 rfl ?_
              refine lv_iload_n hx hb dX12_readArticle_175 rfl (lv_at hl 0 rfl) ?_
              refine lv_iadd hx hb dX12_readArticle_176 (lv_topi (fun v316 ev316 => ?_))
              have ev316i : v316.toInt = (2098 + 1) := i_add ev316 (by decide) (by decide) (by omega) (by omega)
              refine lv_iconst (v := 1) hx hb dX12_readArticle_177 rfl ?_
              refine q_cast E hC307 hS307 gca (a := (2098 + 1)) ev316i (by omega) (by omega) (cs_n16 (a := (2098 + 1)) (by omega) (by omega)) dX12_readArticle_178 (fun H317 locs317 hC317 hS317 U317 => ?_)
              have hKp317 := Kp.upD gca rfl rfl (fun _ => ⟨fun _ => nd4 (by omega) (by omega), fun _ => by unfold dpu; omega, fun _ => by unfold dpn; omega⟩) U317 hKp307
              have m318 : (sI H317 h0 (X.1.2 11 12)).toInt = (sI H307 h0 (X.1.2 11 12)).toInt := congrArg Int32.toInt (up_nI U317 (ne_k g0 gca (by decide)))
              have m319 : (sI H317 h0 (X.1.2 11 14)).toInt = (sI H307 h0 (X.1.2 11 14)).toInt := congrArg Int32.toInt (up_nI U317 (ne_k g0 gca (by decide)))
              have m320 := congrArg tk m319
              have m321 : (sI H317 h0 (X.1.2 11 16)).toInt = (sI H307 h0 (X.1.2 11 16)).toInt := congrArg Int32.toInt (up_nI U317 (ne_k g0 gca (by decide)))
              have e322 := up_I U317
              have hz8 := tk_nn (sI H317 h0 (X.1.2 11 14)).toInt
              exact ret H317 locs317 _ _ dX12_readArticle_179 ⟨hKp317, ⟨by omega, by omega, by omega, by omega⟩⟩ hC317 hS317
          · refine lv_goto (tgt := 122) hx hb dX12_readArticle_115 rfl ?_
            refine q_goV (q_runV (As := [.int 1]) (rest := []) E hC293 hS301 (m_X12_must l X Γ H293 hC293 h0 g0 1 (a1 := 1) (by decide) ca gca uc (by omega) (by omega)) cw_X12_must cl_RX12_244 g0 ⟨rfl, rfl⟩ rfl hl.1 rfl (Nat.zero_le _) (by decide) dX12_readArticle_122) hS301 (fun H323 locs323 hr323 hC323 hS323 => ?_)
            obtain ⟨hp323, hr323⟩ := hr323
            have hKp323 := hKp293.tr (hp323.mono rfl)
            obtain ⟨f323_0, f323_1, f323_2, f323_3, f323_4⟩ := hr323
            refine lv_aload_n hx hb dX12_readArticle_125 rfl (lv_at hl 1 rfl) ?_
            refine q_getC E hC323 g0 fa_RX12_35 uc dX12_readArticle_126 ?_
            refine lv_sipush (v := 2102) hx hb dX12_readArticle_129 rfl ?_
            refine lv_iload_n hx hb dX12_readArticle_132 rfl (lv_at hl 0 rfl) ?_
            refine lv_iadd hx hb dX12_readArticle_133 (lv_topi (fun v324 ev324 => ?_))
            have ev324i : v324.toInt = (2102 + 1) := i_add ev324 (by decide) (by decide) (by omega) (by omega)
            refine lv_aload_n hx hb dX12_readArticle_134 rfl (lv_at hl 1 rfl) ?_
            refine lv_iconst (v := 0) hx hb dX12_readArticle_135 rfl ?_
            refine lv_iload_n hx hb dX12_readArticle_136 rfl (lv_at hl 0 rfl) ?_
            refine q_if_ne hx hb (a := 1) (by decide) (tgt := 145) dX12_readArticle_137 rfl (fun c325 => ?_) (fun c325 => absurd c325 (by omega))
            refine lv_iload_n hx hb dX12_readArticle_145 rfl (lv_at hl 0 rfl) ?_
            refine lv_iconst (v := 1) hx hb dX12_readArticle_146 rfl ?_
            refine q_icmp_ne hx hb (a := 1) (b := 1) (by decide) (by decide) (tgt := 155) dX12_readArticle_147 rfl (fun c326 => absurd c326 (by omega)) (fun c326 => ?_)
            refine lv_bipush (v := 40) hx hb dX12_readArticle_150 rfl ?_
            refine lv_goto (tgt := 157) hx hb dX12_readArticle_152 rfl ?_
            refine q_goI (q_runV (As := [.int 0, .int 40]) (rest := [.int v324, .ref ca]) E hC323 hS323 (m_X12_count l X Γ H323 hC323 h0 g0 0 (a1 := 0) (by decide) 40 (a2 := 40) (by decide) ca gca uc (by omega) (by omega) (by omega) (by omega)) cw_X12_count cl_RX12_248 g0 ⟨rfl, rfl⟩ rfl hl.1 rfl (show _ ≤ _ from by simp [Value.category]) (by decide) dX12_readArticle_157) hS323 (fun v327 H327 locs327 hr327 hC327 hS327 => ?_)
            obtain ⟨hp327, hr327⟩ := hr327
            have hKp327 := hKp323.tr (hp327.mono rfl)
            obtain ⟨f327_0, f327_1, f327_2, f327_3, f327_4, f327_5, f327_6, f327_7⟩ := hr327
            refine q_cast E hC327 hS327 gca (a := (2102 + 1)) ev324i (by omega) (by omega) (cs_n16 (a := (2102 + 1)) (by omega) (by omega)) dX12_readArticle_160 (fun H328 locs328 hC328 hS328 U328 => ?_)
            have hKp328 := Kp.upD gca rfl rfl (fun _ => ⟨fun _ => nd4 (by omega) (by omega), fun _ => by unfold dpu; omega, fun _ => by unfold dpn; omega⟩) U328 hKp327
            have m329 : (sI H328 h0 (X.1.2 11 12)).toInt = (sI H327 h0 (X.1.2 11 12)).toInt := congrArg Int32.toInt (up_nI U328 (ne_k g0 gca (by decide)))
            have m330 : (sI H328 h0 (X.1.2 11 14)).toInt = (sI H327 h0 (X.1.2 11 14)).toInt := congrArg Int32.toInt (up_nI U328 (ne_k g0 gca (by decide)))
            have m331 := congrArg tk m330
            have m332 : (sI H328 h0 (X.1.2 11 16)).toInt = (sI H327 h0 (X.1.2 11 16)).toInt := congrArg Int32.toInt (up_nI U328 (ne_k g0 gca (by decide)))
            have e333 := up_I U328
            refine lv_aload_n hx hb dX12_readArticle_161 rfl (lv_at hl 1 rfl) ?_
            refine q_getI E hC328 g0 fa_RX12_218 dX12_readArticle_162 (fun v334 ev334 lv334 uv334 => ?_)
            have m335 : (sI H328 h0 (X.1.2 11 12)).toInt = v334.toInt := (congrArg Int32.toInt ev334).trans rfl
            refine q_if_ne hx hb (a := v334.toInt) rfl (tgt := 179) dX12_readArticle_165 rfl (fun c336 => ?_) (fun c336 => ?_)
            · have hz8 := tk_nn (sI H328 h0 (X.1.2 11 14)).toInt
              exact ret H328 locs328 _ _ dX12_readArticle_179 ⟨hKp328, ⟨by omega, by omega, by omega, by omega⟩⟩ hC328 hS328
            · refine lv_aload_n hx hb dX12_readArticle_168 rfl (lv_at hl 1 rfl) ?_
              refine q_getC E hC328 g0 fa_RX12_35 uc dX12_readArticle_169 ?_
              refine lv_sipush (v := 2098) hx hb dX12_readArticle_172 rfl ?_
              refine lv_iload_n hx hb dX12_readArticle_175 rfl (lv_at hl 0 rfl) ?_
              refine lv_iadd hx hb dX12_readArticle_176 (lv_topi (fun v337 ev337 => ?_))
              have ev337i : v337.toInt = (2098 + 1) := i_add ev337 (by decide) (by decide) (by omega) (by omega)
              refine lv_iconst (v := 1) hx hb dX12_readArticle_177 rfl ?_
              refine q_cast E hC328 hS328 gca (a := (2098 + 1)) ev337i (by omega) (by omega) (cs_n16 (a := (2098 + 1)) (by omega) (by omega)) dX12_readArticle_178 (fun H338 locs338 hC338 hS338 U338 => ?_)
              have hKp338 := Kp.upD gca rfl rfl (fun _ => ⟨fun _ => nd4 (by omega) (by omega), fun _ => by unfold dpu; omega, fun _ => by unfold dpn; omega⟩) U338 hKp328
              have m339 : (sI H338 h0 (X.1.2 11 12)).toInt = (sI H328 h0 (X.1.2 11 12)).toInt := congrArg Int32.toInt (up_nI U338 (ne_k g0 gca (by decide)))
              have m340 : (sI H338 h0 (X.1.2 11 14)).toInt = (sI H328 h0 (X.1.2 11 14)).toInt := congrArg Int32.toInt (up_nI U338 (ne_k g0 gca (by decide)))
              have m341 := congrArg tk m340
              have m342 : (sI H338 h0 (X.1.2 11 16)).toInt = (sI H328 h0 (X.1.2 11 16)).toInt := congrArg Int32.toInt (up_nI U338 (ne_k g0 gca (by decide)))
              have e343 := up_I U338
              have hz8 := tk_nn (sI H338 h0 (X.1.2 11 14)).toInt
              exact ret H338 locs338 _ _ dX12_readArticle_179 ⟨hKp338, ⟨by omega, by omega, by omega, by omega⟩⟩ hC338 hS338
      · refine lv_aload_n hx hb dX12_readArticle_65 rfl (lv_at hl 1 rfl) ?_
        refine q_getC E hC21 g0 fa_RX12_35 uc dX12_readArticle_66 ?_
        refine lv_sipush (v := 2098) hx hb dX12_readArticle_69 rfl ?_
        refine lv_iload_n hx hb dX12_readArticle_72 rfl (lv_at hl 0 rfl) ?_
        refine lv_iadd hx hb dX12_readArticle_73 (lv_topi (fun v344 ev344 => ?_))
        have ev344i : v344.toInt = (2098 + 1) := i_add ev344 (by decide) (by decide) (by omega) (by omega)
        refine q_cald E hC21 (lo := -2147483648) (hi := 2147483647) gca (a := (2098 + 1)) ev344i (by omega) (by omega) (cr_n16 (by omega) (by omega)) dX12_readArticle_74 (fun v345 ev345 _ _ => ?_)
        refine lv_iconst (v := 1) hx hb dX12_readArticle_75 rfl ?_
        refine q_icmp_ne hx hb (a := v345.toInt) (b := 1) rfl (by decide) (tgt := 88) dX12_readArticle_76 rfl (fun c346 => ?_) (fun c346 => ?_)
        · refine lv_aload_n hx hb dX12_readArticle_88 rfl (lv_at hl 1 rfl) ?_
          refine lv_iconst (v := 1) hx hb dX12_readArticle_89 rfl ?_
          refine q_goV (q_runV (As := [.int 1]) (rest := []) E hC21 hS24 (m_X12_must l X Γ H21 hC21 h0 g0 1 (a1 := 1) (by decide) ca gca uc (by omega) (by omega)) cw_X12_must cl_RX12_244 g0 ⟨rfl, rfl⟩ rfl hl.1 rfl (Nat.zero_le _) (by decide) dX12_readArticle_90) hS24 (fun H347 locs347 hr347 hC347 hS347 => ?_)
          obtain ⟨hp347, hr347⟩ := hr347
          have hKp347 := hKp21.tr (hp347.mono rfl)
          obtain ⟨f347_0, f347_1, f347_2, f347_3, f347_4⟩ := hr347
          refine lv_aload_n hx hb dX12_readArticle_93 rfl (lv_at hl 1 rfl) ?_
          refine q_getI E hC347 g0 fa_RX12_218 dX12_readArticle_94 (fun v348 ev348 lv348 uv348 => ?_)
          have m349 : (sI H347 h0 (X.1.2 11 12)).toInt = v348.toInt := (congrArg Int32.toInt ev348).trans rfl
          refine q_if_ne hx hb (a := v348.toInt) rfl (tgt := 161) dX12_readArticle_97 rfl (fun c350 => ?_) (fun c350 => ?_)
          · refine lv_aload_n hx hb dX12_readArticle_161 rfl (lv_at hl 1 rfl) ?_
            refine q_getI E hC347 g0 fa_RX12_218 dX12_readArticle_162 (fun v351 ev351 lv351 uv351 => ?_)
            have qv351 := ev348.symm.trans ev351; subst qv351
            refine q_if_ne hx hb (a := v348.toInt) rfl (tgt := 179) dX12_readArticle_165 rfl (fun c352 => ?_) (fun c352 => absurd c352 (by omega))
            have hz8 := tk_nn (sI H347 h0 (X.1.2 11 14)).toInt
            exact ret H347 locs347 _ _ dX12_readArticle_179 ⟨hKp347, ⟨by omega, by omega, by omega, by omega⟩⟩ hC347 hS347
          · refine lv_iload_n hx hb dX12_readArticle_100 rfl (lv_at hl 0 rfl) ?_
            refine lv_iconst (v := 2) hx hb dX12_readArticle_101 rfl ?_
            refine q_icmp_eq hx hb (a := 1) (b := 2) (by decide) (by decide) (tgt := 161) dX12_readArticle_102 rfl (fun c353 => absurd c353 (by omega)) (fun c353 => ?_)
            refine lv_aload_n hx hb dX12_readArticle_105 rfl (lv_at hl 1 rfl) ?_
            refine lv_iload_n hx hb dX12_readArticle_106 rfl (lv_at hl 0 rfl) ?_
            refine lv_iconst (v := 1) hx hb dX12_readArticle_107 rfl ?_
            refine q_icmp_ne hx hb (a := 1) (b := 1) (by decide) (by decide) (tgt := 118) dX12_readArticle_108 rfl (fun c354 => absurd c354 (by omega)) (fun c354 => ?_)
            refine lv_aload_n hx hb dX12_readArticle_111 rfl (lv_at hl 1 rfl) ?_
            refine q_goIp (q_runV (As := []) (rest := [.ref h0]) E hC347 hS347 (m_X12_isBehind l X Γ H347 hC347 h0 g0 ca gca uc) cw_X12_isBehind cl_RX12_199 g0 ⟨rfl, rfl⟩ rfl hl.1 rfl (show _ ≤ _ from by simp [Value.category]) (by decide) dX12_readArticle_112) hS347 (fun v355 locs355 hr355 hS355 => ?_)
            rcases hr355 with rfl | rfl
            · refine lv_goto (tgt := 122) hx hb dX12_readArticle_115 rfl ?_
              refine q_goV (q_runV (As := [.int 0]) (rest := []) E hC347 hS355 (m_X12_must l X Γ H347 hC347 h0 g0 0 (a1 := 0) (by decide) ca gca uc (by omega) (by omega)) cw_X12_must cl_RX12_244 g0 ⟨rfl, rfl⟩ rfl hl.1 rfl (Nat.zero_le _) (by decide) dX12_readArticle_122) hS355 (fun H356 locs356 hr356 hC356 hS356 => ?_)
              obtain ⟨hp356, hr356⟩ := hr356
              have hKp356 := hKp347.tr (hp356.mono rfl)
              obtain ⟨f356_0, f356_1, f356_2, f356_3, f356_4⟩ := hr356
              refine lv_aload_n hx hb dX12_readArticle_125 rfl (lv_at hl 1 rfl) ?_
              refine q_getC E hC356 g0 fa_RX12_35 uc dX12_readArticle_126 ?_
              refine lv_sipush (v := 2102) hx hb dX12_readArticle_129 rfl ?_
              refine lv_iload_n hx hb dX12_readArticle_132 rfl (lv_at hl 0 rfl) ?_
              refine lv_iadd hx hb dX12_readArticle_133 (lv_topi (fun v357 ev357 => ?_))
              have ev357i : v357.toInt = (2102 + 1) := i_add ev357 (by decide) (by decide) (by omega) (by omega)
              refine lv_aload_n hx hb dX12_readArticle_134 rfl (lv_at hl 1 rfl) ?_
              refine lv_iconst (v := 0) hx hb dX12_readArticle_135 rfl ?_
              refine lv_iload_n hx hb dX12_readArticle_136 rfl (lv_at hl 0 rfl) ?_
              refine q_if_ne hx hb (a := 1) (by decide) (tgt := 145) dX12_readArticle_137 rfl (fun c358 => ?_) (fun c358 => absurd c358 (by omega))
              refine lv_iload_n hx hb dX12_readArticle_145 rfl (lv_at hl 0 rfl) ?_
              refine lv_iconst (v := 1) hx hb dX12_readArticle_146 rfl ?_
              refine q_icmp_ne hx hb (a := 1) (b := 1) (by decide) (by decide) (tgt := 155) dX12_readArticle_147 rfl (fun c359 => absurd c359 (by omega)) (fun c359 => ?_)
              refine lv_bipush (v := 40) hx hb dX12_readArticle_150 rfl ?_
              refine lv_goto (tgt := 157) hx hb dX12_readArticle_152 rfl ?_
              refine q_goI (q_runV (As := [.int 0, .int 40]) (rest := [.int v357, .ref ca]) E hC356 hS356 (m_X12_count l X Γ H356 hC356 h0 g0 0 (a1 := 0) (by decide) 40 (a2 := 40) (by decide) ca gca uc (by omega) (by omega) (by omega) (by omega)) cw_X12_count cl_RX12_248 g0 ⟨rfl, rfl⟩ rfl hl.1 rfl (show _ ≤ _ from by simp [Value.category]) (by decide) dX12_readArticle_157) hS356 (fun v360 H360 locs360 hr360 hC360 hS360 => ?_)
              obtain ⟨hp360, hr360⟩ := hr360
              have hKp360 := hKp356.tr (hp360.mono rfl)
              obtain ⟨f360_0, f360_1, f360_2, f360_3, f360_4, f360_5, f360_6, f360_7⟩ := hr360
              refine q_cast E hC360 hS360 gca (a := (2102 + 1)) ev357i (by omega) (by omega) (cs_n16 (a := (2102 + 1)) (by omega) (by omega)) dX12_readArticle_160 (fun H361 locs361 hC361 hS361 U361 => ?_)
              have hKp361 := Kp.upD gca rfl rfl (fun _ => ⟨fun _ => nd4 (by omega) (by omega), fun _ => by unfold dpu; omega, fun _ => by unfold dpn; omega⟩) U361 hKp360
              have m362 : (sI H361 h0 (X.1.2 11 12)).toInt = (sI H360 h0 (X.1.2 11 12)).toInt := congrArg Int32.toInt (up_nI U361 (ne_k g0 gca (by decide)))
              have m363 : (sI H361 h0 (X.1.2 11 14)).toInt = (sI H360 h0 (X.1.2 11 14)).toInt := congrArg Int32.toInt (up_nI U361 (ne_k g0 gca (by decide)))
              have m364 := congrArg tk m363
              have m365 : (sI H361 h0 (X.1.2 11 16)).toInt = (sI H360 h0 (X.1.2 11 16)).toInt := congrArg Int32.toInt (up_nI U361 (ne_k g0 gca (by decide)))
              have e366 := up_I U361
              refine lv_aload_n hx hb dX12_readArticle_161 rfl (lv_at hl 1 rfl) ?_
              refine q_getI E hC361 g0 fa_RX12_218 dX12_readArticle_162 (fun v367 ev367 lv367 uv367 => ?_)
              have m368 : (sI H361 h0 (X.1.2 11 12)).toInt = v367.toInt := (congrArg Int32.toInt ev367).trans rfl
              refine q_if_ne hx hb (a := v367.toInt) rfl (tgt := 179) dX12_readArticle_165 rfl (fun c369 => ?_) (fun c369 => ?_)
              · have hz8 := tk_nn (sI H361 h0 (X.1.2 11 14)).toInt
                exact ret H361 locs361 _ _ dX12_readArticle_179 ⟨hKp361, ⟨by omega, by omega, by omega, by omega⟩⟩ hC361 hS361
              · refine lv_aload_n hx hb dX12_readArticle_168 rfl (lv_at hl 1 rfl) ?_
                refine q_getC E hC361 g0 fa_RX12_35 uc dX12_readArticle_169 ?_
                refine lv_sipush (v := 2098) hx hb dX12_readArticle_172 rfl ?_
                refine lv_iload_n hx hb dX12_readArticle_175 rfl (lv_at hl 0 rfl) ?_
                refine lv_iadd hx hb dX12_readArticle_176 (lv_topi (fun v370 ev370 => ?_))
                have ev370i : v370.toInt = (2098 + 1) := i_add ev370 (by decide) (by decide) (by omega) (by omega)
                refine lv_iconst (v := 1) hx hb dX12_readArticle_177 rfl ?_
                refine q_cast E hC361 hS361 gca (a := (2098 + 1)) ev370i (by omega) (by omega) (cs_n16 (a := (2098 + 1)) (by omega) (by omega)) dX12_readArticle_178 (fun H371 locs371 hC371 hS371 U371 => ?_)
                have hKp371 := Kp.upD gca rfl rfl (fun _ => ⟨fun _ => nd4 (by omega) (by omega), fun _ => by unfold dpu; omega, fun _ => by unfold dpn; omega⟩) U371 hKp361
                have m372 : (sI H371 h0 (X.1.2 11 12)).toInt = (sI H361 h0 (X.1.2 11 12)).toInt := congrArg Int32.toInt (up_nI U371 (ne_k g0 gca (by decide)))
                have m373 : (sI H371 h0 (X.1.2 11 14)).toInt = (sI H361 h0 (X.1.2 11 14)).toInt := congrArg Int32.toInt (up_nI U371 (ne_k g0 gca (by decide)))
                have m374 := congrArg tk m373
                have m375 : (sI H371 h0 (X.1.2 11 16)).toInt = (sI H361 h0 (X.1.2 11 16)).toInt := congrArg Int32.toInt (up_nI U371 (ne_k g0 gca (by decide)))
                have e376 := up_I U371
                have hz8 := tk_nn (sI H371 h0 (X.1.2 11 14)).toInt
                exact ret H371 locs371 _ _ dX12_readArticle_179 ⟨hKp371, ⟨by omega, by omega, by omega, by omega⟩⟩ hC371 hS371
            · refine lv_goto (tgt := 122) hx hb dX12_readArticle_115 rfl ?_
              refine q_goV (q_runV (As := [.int 1]) (rest := []) E hC347 hS355 (m_X12_must l X Γ H347 hC347 h0 g0 1 (a1 := 1) (by decide) ca gca uc (by omega) (by omega)) cw_X12_must cl_RX12_244 g0 ⟨rfl, rfl⟩ rfl hl.1 rfl (Nat.zero_le _) (by decide) dX12_readArticle_122) hS355 (fun H377 locs377 hr377 hC377 hS377 => ?_)
              obtain ⟨hp377, hr377⟩ := hr377
              have hKp377 := hKp347.tr (hp377.mono rfl)
              obtain ⟨f377_0, f377_1, f377_2, f377_3, f377_4⟩ := hr377
              refine lv_aload_n hx hb dX12_readArticle_125 rfl (lv_at hl 1 rfl) ?_
              refine q_getC E hC377 g0 fa_RX12_35 uc dX12_readArticle_126 ?_
              refine lv_sipush (v := 2102) hx hb dX12_readArticle_129 rfl ?_
              refine lv_iload_n hx hb dX12_readArticle_132 rfl (lv_at hl 0 rfl) ?_
              refine lv_iadd hx hb dX12_readArticle_133 (lv_topi (fun v378 ev378 => ?_))
              have ev378i : v378.toInt = (2102 + 1) := i_add ev378 (by decide) (by decide) (by omega) (by omega)
              refine lv_aload_n hx hb dX12_readArticle_134 rfl (lv_at hl 1 rfl) ?_
              refine lv_iconst (v := 0) hx hb dX12_readArticle_135 rfl ?_
              refine lv_iload_n hx hb dX12_readArticle_136 rfl (lv_at hl 0 rfl) ?_
              refine q_if_ne hx hb (a := 1) (by decide) (tgt := 145) dX12_readArticle_137 rfl (fun c379 => ?_) (fun c379 => absurd c379 (by omega))
              refine lv_iload_n hx hb dX12_readArticle_145 rfl (lv_at hl 0 rfl) ?_
              refine lv_iconst (v := 1) hx hb dX12_readArticle_146 rfl ?_
              refine q_icmp_ne hx hb (a := 1) (b := 1) (by decide) (by decide) (tgt := 155) dX12_readArticle_147 rfl (fun c380 => absurd c380 (by omega)) (fun c380 => ?_)
              refine lv_bipush (v := 40) hx hb dX12_readArticle_150 rfl ?_
              refine lv_goto (tgt := 157) hx hb dX12_readArticle_152 rfl ?_
              refine q_goI (q_runV (As := [.int 0, .int 40]) (rest := [.int v378, .ref ca]) E hC377 hS377 (m_X12_count l X Γ H377 hC377 h0 g0 0 (a1 := 0) (by decide) 40 (a2 := 40) (by decide) ca gca uc (by omega) (by omega) (by omega) (by omega)) cw_X12_count cl_RX12_248 g0 ⟨rfl, rfl⟩ rfl hl.1 rfl (show _ ≤ _ from by simp [Value.category]) (by decide) dX12_readArticle_157) hS377 (fun v381 H381 locs381 hr381 hC381 hS381 => ?_)
              obtain ⟨hp381, hr381⟩ := hr381
              have hKp381 := hKp377.tr (hp381.mono rfl)
              obtain ⟨f381_0, f381_1, f381_2, f381_3, f381_4, f381_5, f381_6, f381_7⟩ := hr381
              refine q_cast E hC381 hS381 gca (a := (2102 + 1)) ev378i (by omega) (by omega) (cs_n16 (a := (2102 + 1)) (by omega) (by omega)) dX12_readArticle_160 (fun H382 locs382 hC382 hS382 U382 => ?_)
              have hKp382 := Kp.upD gca rfl rfl (fun _ => ⟨fun _ => nd4 (by omega) (by omega), fun _ => by unfold dpu; omega, fun _ => by unfold dpn; omega⟩) U382 hKp381
              have m383 : (sI H382 h0 (X.1.2 11 12)).toInt = (sI H381 h0 (X.1.2 11 12)).toInt := congrArg Int32.toInt (up_nI U382 (ne_k g0 gca (by decide)))
              have m384 : (sI H382 h0 (X.1.2 11 14)).toInt = (sI H381 h0 (X.1.2 11 14)).toInt := congrArg Int32.toInt (up_nI U382 (ne_k g0 gca (by decide)))
              have m385 := congrArg tk m384
              have m386 : (sI H382 h0 (X.1.2 11 16)).toInt = (sI H381 h0 (X.1.2 11 16)).toInt := congrArg Int32.toInt (up_nI U382 (ne_k g0 gca (by decide)))
              have e387 := up_I U382
              refine lv_aload_n hx hb dX12_readArticle_161 rfl (lv_at hl 1 rfl) ?_
              refine q_getI E hC382 g0 fa_RX12_218 dX12_readArticle_162 (fun v388 ev388 lv388 uv388 => ?_)
              have m389 : (sI H382 h0 (X.1.2 11 12)).toInt = v388.toInt := (congrArg Int32.toInt ev388).trans rfl
              refine q_if_ne hx hb (a := v388.toInt) rfl (tgt := 179) dX12_readArticle_165 rfl (fun c390 => ?_) (fun c390 => ?_)
              · have hz8 := tk_nn (sI H382 h0 (X.1.2 11 14)).toInt
                exact ret H382 locs382 _ _ dX12_readArticle_179 ⟨hKp382, ⟨by omega, by omega, by omega, by omega⟩⟩ hC382 hS382
              · refine lv_aload_n hx hb dX12_readArticle_168 rfl (lv_at hl 1 rfl) ?_
                refine q_getC E hC382 g0 fa_RX12_35 uc dX12_readArticle_169 ?_
                refine lv_sipush (v := 2098) hx hb dX12_readArticle_172 rfl ?_
                refine lv_iload_n hx hb dX12_readArticle_175 rfl (lv_at hl 0 rfl) ?_
                refine lv_iadd hx hb dX12_readArticle_176 (lv_topi (fun v391 ev391 => ?_))
                have ev391i : v391.toInt = (2098 + 1) := i_add ev391 (by decide) (by decide) (by omega) (by omega)
                refine lv_iconst (v := 1) hx hb dX12_readArticle_177 rfl ?_
                refine q_cast E hC382 hS382 gca (a := (2098 + 1)) ev391i (by omega) (by omega) (cs_n16 (a := (2098 + 1)) (by omega) (by omega)) dX12_readArticle_178 (fun H392 locs392 hC392 hS392 U392 => ?_)
                have hKp392 := Kp.upD gca rfl rfl (fun _ => ⟨fun _ => nd4 (by omega) (by omega), fun _ => by unfold dpu; omega, fun _ => by unfold dpn; omega⟩) U392 hKp382
                have m393 : (sI H392 h0 (X.1.2 11 12)).toInt = (sI H382 h0 (X.1.2 11 12)).toInt := congrArg Int32.toInt (up_nI U392 (ne_k g0 gca (by decide)))
                have m394 : (sI H392 h0 (X.1.2 11 14)).toInt = (sI H382 h0 (X.1.2 11 14)).toInt := congrArg Int32.toInt (up_nI U392 (ne_k g0 gca (by decide)))
                have m395 := congrArg tk m394
                have m396 : (sI H392 h0 (X.1.2 11 16)).toInt = (sI H382 h0 (X.1.2 11 16)).toInt := congrArg Int32.toInt (up_nI U392 (ne_k g0 gca (by decide)))
                have e397 := up_I U392
                have hz8 := tk_nn (sI H392 h0 (X.1.2 11 14)).toInt
                exact ret H392 locs392 _ _ dX12_readArticle_179 ⟨hKp392, ⟨by omega, by omega, by omega, by omega⟩⟩ hC392 hS392
        · refine lv_aload_n hx hb dX12_readArticle_79 rfl (lv_at hl 1 rfl) ?_
          refine lv_iconst (v := 5) hx hb dX12_readArticle_80 rfl ?_
          refine lv_aload_n hx hb dX12_readArticle_81 rfl (lv_at hl 1 rfl) ?_
          refine q_getI E hC21 g0 fa_RX12_114 dX12_readArticle_82 (fun v398 ev398 lv398 uv398 => ?_)
          refine q_goV (q_runV (As := [.int 5, .int v398]) (rest := []) E hC21 hS24 (m_X12_fail l X Γ H21 hC21 h0 g0 5 (a1 := 5) (by decide) v398 (a2 := v398.toInt) rfl ca gca uc (by omega) (by omega)) cw_X12_fail cl_RX12_224 g0 ⟨rfl, rfl⟩ rfl hl.1 rfl (Nat.zero_le _) (by decide) dX12_readArticle_85) hS24 (fun H399 locs399 hr399 hC399 hS399 => ?_)
          obtain ⟨hp399, hr399⟩ := hr399
          have hKp399 := hKp21.tr (hp399.mono rfl)
          obtain ⟨f399_0, f399_1, f399_2, f399_3⟩ := hr399
          refine lv_aload_n hx hb dX12_readArticle_88 rfl (lv_at hl 1 rfl) ?_
          refine lv_iconst (v := 1) hx hb dX12_readArticle_89 rfl ?_
          refine q_goV (q_runV (As := [.int 1]) (rest := []) E hC399 hS399 (m_X12_must l X Γ H399 hC399 h0 g0 1 (a1 := 1) (by decide) ca gca uc (by omega) (by omega)) cw_X12_must cl_RX12_244 g0 ⟨rfl, rfl⟩ rfl hl.1 rfl (Nat.zero_le _) (by decide) dX12_readArticle_90) hS399 (fun H400 locs400 hr400 hC400 hS400 => ?_)
          obtain ⟨hp400, hr400⟩ := hr400
          have hKp400 := hKp399.tr (hp400.mono rfl)
          obtain ⟨f400_0, f400_1, f400_2, f400_3, f400_4⟩ := hr400
          refine lv_aload_n hx hb dX12_readArticle_93 rfl (lv_at hl 1 rfl) ?_
          refine q_getI E hC400 g0 fa_RX12_218 dX12_readArticle_94 (fun v401 ev401 lv401 uv401 => ?_)
          have m402 : (sI H400 h0 (X.1.2 11 12)).toInt = v401.toInt := (congrArg Int32.toInt ev401).trans rfl
          refine q_if_ne hx hb (a := v401.toInt) rfl (tgt := 161) dX12_readArticle_97 rfl (fun c403 => ?_) (fun c403 => ?_)
          · refine lv_aload_n hx hb dX12_readArticle_161 rfl (lv_at hl 1 rfl) ?_
            refine q_getI E hC400 g0 fa_RX12_218 dX12_readArticle_162 (fun v404 ev404 lv404 uv404 => ?_)
            have qv404 := ev401.symm.trans ev404; subst qv404
            refine q_if_ne hx hb (a := v401.toInt) rfl (tgt := 179) dX12_readArticle_165 rfl (fun c405 => ?_) (fun c405 => absurd c405 (by omega))
            have hz8 := tk_nn (sI H400 h0 (X.1.2 11 14)).toInt
            exact ret H400 locs400 _ _ dX12_readArticle_179 ⟨hKp400, ⟨by omega, by omega, by omega, by omega⟩⟩ hC400 hS400
          · refine lv_iload_n hx hb dX12_readArticle_100 rfl (lv_at hl 0 rfl) ?_
            refine lv_iconst (v := 2) hx hb dX12_readArticle_101 rfl ?_
            refine q_icmp_eq hx hb (a := 1) (b := 2) (by decide) (by decide) (tgt := 161) dX12_readArticle_102 rfl (fun c406 => absurd c406 (by omega)) (fun c406 => ?_)
            refine lv_aload_n hx hb dX12_readArticle_105 rfl (lv_at hl 1 rfl) ?_
            refine lv_iload_n hx hb dX12_readArticle_106 rfl (lv_at hl 0 rfl) ?_
            refine lv_iconst (v := 1) hx hb dX12_readArticle_107 rfl ?_
            refine q_icmp_ne hx hb (a := 1) (b := 1) (by decide) (by decide) (tgt := 118) dX12_readArticle_108 rfl (fun c407 => absurd c407 (by omega)) (fun c407 => ?_)
            refine lv_aload_n hx hb dX12_readArticle_111 rfl (lv_at hl 1 rfl) ?_
            refine q_goIp (q_runV (As := []) (rest := [.ref h0]) E hC400 hS400 (m_X12_isBehind l X Γ H400 hC400 h0 g0 ca gca uc) cw_X12_isBehind cl_RX12_199 g0 ⟨rfl, rfl⟩ rfl hl.1 rfl (show _ ≤ _ from by simp [Value.category]) (by decide) dX12_readArticle_112) hS400 (fun v408 locs408 hr408 hS408 => ?_)
            rcases hr408 with rfl | rfl
            · refine lv_goto (tgt := 122) hx hb dX12_readArticle_115 rfl ?_
              refine q_goV (q_runV (As := [.int 0]) (rest := []) E hC400 hS408 (m_X12_must l X Γ H400 hC400 h0 g0 0 (a1 := 0) (by decide) ca gca uc (by omega) (by omega)) cw_X12_must cl_RX12_244 g0 ⟨rfl, rfl⟩ rfl hl.1 rfl (Nat.zero_le _) (by decide) dX12_readArticle_122) hS408 (fun H409 locs409 hr409 hC409 hS409 => ?_)
              obtain ⟨hp409, hr409⟩ := hr409
              have hKp409 := hKp400.tr (hp409.mono rfl)
              obtain ⟨f409_0, f409_1, f409_2, f409_3, f409_4⟩ := hr409
              refine lv_aload_n hx hb dX12_readArticle_125 rfl (lv_at hl 1 rfl) ?_
              refine q_getC E hC409 g0 fa_RX12_35 uc dX12_readArticle_126 ?_
              refine lv_sipush (v := 2102) hx hb dX12_readArticle_129 rfl ?_
              refine lv_iload_n hx hb dX12_readArticle_132 rfl (lv_at hl 0 rfl) ?_
              refine lv_iadd hx hb dX12_readArticle_133 (lv_topi (fun v410 ev410 => ?_))
              have ev410i : v410.toInt = (2102 + 1) := i_add ev410 (by decide) (by decide) (by omega) (by omega)
              refine lv_aload_n hx hb dX12_readArticle_134 rfl (lv_at hl 1 rfl) ?_
              refine lv_iconst (v := 0) hx hb dX12_readArticle_135 rfl ?_
              refine lv_iload_n hx hb dX12_readArticle_136 rfl (lv_at hl 0 rfl) ?_
              refine q_if_ne hx hb (a := 1) (by decide) (tgt := 145) dX12_readArticle_137 rfl (fun c411 => ?_) (fun c411 => absurd c411 (by omega))
              refine lv_iload_n hx hb dX12_readArticle_145 rfl (lv_at hl 0 rfl) ?_
              refine lv_iconst (v := 1) hx hb dX12_readArticle_146 rfl ?_
              refine q_icmp_ne hx hb (a := 1) (b := 1) (by decide) (by decide) (tgt := 155) dX12_readArticle_147 rfl (fun c412 => absurd c412 (by omega)) (fun c412 => ?_)
              refine lv_bipush (v := 40) hx hb dX12_readArticle_150 rfl ?_
              refine lv_goto (tgt := 157) hx hb dX12_readArticle_152 rfl ?_
              refine q_goI (q_runV (As := [.int 0, .int 40]) (rest := [.int v410, .ref ca]) E hC409 hS409 (m_X12_count l X Γ H409 hC409 h0 g0 0 (a1 := 0) (by decide) 40 (a2 := 40) (by decide) ca gca uc (by omega) (by omega) (by omega) (by omega)) cw_X12_count cl_RX12_248 g0 ⟨rfl, rfl⟩ rfl hl.1 rfl (show _ ≤ _ from by simp [Value.category]) (by decide) dX12_readArticle_157) hS409 (fun v413 H413 locs413 hr413 hC413 hS413 => ?_)
              obtain ⟨hp413, hr413⟩ := hr413
              have hKp413 := hKp409.tr (hp413.mono rfl)
              obtain ⟨f413_0, f413_1, f413_2, f413_3, f413_4, f413_5, f413_6, f413_7⟩ := hr413
              refine q_cast E hC413 hS413 gca (a := (2102 + 1)) ev410i (by omega) (by omega) (cs_n16 (a := (2102 + 1)) (by omega) (by omega)) dX12_readArticle_160 (fun H414 locs414 hC414 hS414 U414 => ?_)
              have hKp414 := Kp.upD gca rfl rfl (fun _ => ⟨fun _ => nd4 (by omega) (by omega), fun _ => by unfold dpu; omega, fun _ => by unfold dpn; omega⟩) U414 hKp413
              have m415 : (sI H414 h0 (X.1.2 11 12)).toInt = (sI H413 h0 (X.1.2 11 12)).toInt := congrArg Int32.toInt (up_nI U414 (ne_k g0 gca (by decide)))
              have m416 : (sI H414 h0 (X.1.2 11 14)).toInt = (sI H413 h0 (X.1.2 11 14)).toInt := congrArg Int32.toInt (up_nI U414 (ne_k g0 gca (by decide)))
              have m417 := congrArg tk m416
              have m418 : (sI H414 h0 (X.1.2 11 16)).toInt = (sI H413 h0 (X.1.2 11 16)).toInt := congrArg Int32.toInt (up_nI U414 (ne_k g0 gca (by decide)))
              have e419 := up_I U414
              refine lv_aload_n hx hb dX12_readArticle_161 rfl (lv_at hl 1 rfl) ?_
              refine q_getI E hC414 g0 fa_RX12_218 dX12_readArticle_162 (fun v420 ev420 lv420 uv420 => ?_)
              have m421 : (sI H414 h0 (X.1.2 11 12)).toInt = v420.toInt := (congrArg Int32.toInt ev420).trans rfl
              refine q_if_ne hx hb (a := v420.toInt) rfl (tgt := 179) dX12_readArticle_165 rfl (fun c422 => ?_) (fun c422 => ?_)
              · have hz8 := tk_nn (sI H414 h0 (X.1.2 11 14)).toInt
                exact ret H414 locs414 _ _ dX12_readArticle_179 ⟨hKp414, ⟨by omega, by omega, by omega, by omega⟩⟩ hC414 hS414
              · refine lv_aload_n hx hb dX12_readArticle_168 rfl (lv_at hl 1 rfl) ?_
                refine q_getC E hC414 g0 fa_RX12_35 uc dX12_readArticle_169 ?_
                refine lv_sipush (v := 2098) hx hb dX12_readArticle_172 rfl ?_
                refine lv_iload_n hx hb dX12_readArticle_175 rfl (lv_at hl 0 rfl) ?_
                refine lv_iadd hx hb dX12_readArticle_176 (lv_topi (fun v423 ev423 => ?_))
                have ev423i : v423.toInt = (2098 + 1) := i_add ev423 (by decide) (by decide) (by omega) (by omega)
                refine lv_iconst (v := 1) hx hb dX12_readArticle_177 rfl ?_
                refine q_cast E hC414 hS414 gca (a := (2098 + 1)) ev423i (by omega) (by omega) (cs_n16 (a := (2098 + 1)) (by omega) (by omega)) dX12_readArticle_178 (fun H424 locs424 hC424 hS424 U424 => ?_)
                have hKp424 := Kp.upD gca rfl rfl (fun _ => ⟨fun _ => nd4 (by omega) (by omega), fun _ => by unfold dpu; omega, fun _ => by unfold dpn; omega⟩) U424 hKp414
                have m425 : (sI H424 h0 (X.1.2 11 12)).toInt = (sI H414 h0 (X.1.2 11 12)).toInt := congrArg Int32.toInt (up_nI U424 (ne_k g0 gca (by decide)))
                have m426 : (sI H424 h0 (X.1.2 11 14)).toInt = (sI H414 h0 (X.1.2 11 14)).toInt := congrArg Int32.toInt (up_nI U424 (ne_k g0 gca (by decide)))
                have m427 := congrArg tk m426
                have m428 : (sI H424 h0 (X.1.2 11 16)).toInt = (sI H414 h0 (X.1.2 11 16)).toInt := congrArg Int32.toInt (up_nI U424 (ne_k g0 gca (by decide)))
                have e429 := up_I U424
                have hz8 := tk_nn (sI H424 h0 (X.1.2 11 14)).toInt
                exact ret H424 locs424 _ _ dX12_readArticle_179 ⟨hKp424, ⟨by omega, by omega, by omega, by omega⟩⟩ hC424 hS424
            · refine lv_goto (tgt := 122) hx hb dX12_readArticle_115 rfl ?_
              refine q_goV (q_runV (As := [.int 1]) (rest := []) E hC400 hS408 (m_X12_must l X Γ H400 hC400 h0 g0 1 (a1 := 1) (by decide) ca gca uc (by omega) (by omega)) cw_X12_must cl_RX12_244 g0 ⟨rfl, rfl⟩ rfl hl.1 rfl (Nat.zero_le _) (by decide) dX12_readArticle_122) hS408 (fun H430 locs430 hr430 hC430 hS430 => ?_)
              obtain ⟨hp430, hr430⟩ := hr430
              have hKp430 := hKp400.tr (hp430.mono rfl)
              obtain ⟨f430_0, f430_1, f430_2, f430_3, f430_4⟩ := hr430
              refine lv_aload_n hx hb dX12_readArticle_125 rfl (lv_at hl 1 rfl) ?_
              refine q_getC E hC430 g0 fa_RX12_35 uc dX12_readArticle_126 ?_
              refine lv_sipush (v := 2102) hx hb dX12_readArticle_129 rfl ?_
              refine lv_iload_n hx hb dX12_readArticle_132 rfl (lv_at hl 0 rfl) ?_
              refine lv_iadd hx hb dX12_readArticle_133 (lv_topi (fun v431 ev431 => ?_))
              have ev431i : v431.toInt = (2102 + 1) := i_add ev431 (by decide) (by decide) (by omega) (by omega)
              refine lv_aload_n hx hb dX12_readArticle_134 rfl (lv_at hl 1 rfl) ?_
              refine lv_iconst (v := 0) hx hb dX12_readArticle_135 rfl ?_
              refine lv_iload_n hx hb dX12_readArticle_136 rfl (lv_at hl 0 rfl) ?_
              refine q_if_ne hx hb (a := 1) (by decide) (tgt := 145) dX12_readArticle_137 rfl (fun c432 => ?_) (fun c432 => absurd c432 (by omega))
              refine lv_iload_n hx hb dX12_readArticle_145 rfl (lv_at hl 0 rfl) ?_
              refine lv_iconst (v := 1) hx hb dX12_readArticle_146 rfl ?_
              refine q_icmp_ne hx hb (a := 1) (b := 1) (by decide) (by decide) (tgt := 155) dX12_readArticle_147 rfl (fun c433 => absurd c433 (by omega)) (fun c433 => ?_)
              refine lv_bipush (v := 40) hx hb dX12_readArticle_150 rfl ?_
              refine lv_goto (tgt := 157) hx hb dX12_readArticle_152 rfl ?_
              refine q_goI (q_runV (As := [.int 0, .int 40]) (rest := [.int v431, .ref ca]) E hC430 hS430 (m_X12_count l X Γ H430 hC430 h0 g0 0 (a1 := 0) (by decide) 40 (a2 := 40) (by decide) ca gca uc (by omega) (by omega) (by omega) (by omega)) cw_X12_count cl_RX12_248 g0 ⟨rfl, rfl⟩ rfl hl.1 rfl (show _ ≤ _ from by simp [Value.category]) (by decide) dX12_readArticle_157) hS430 (fun v434 H434 locs434 hr434 hC434 hS434 => ?_)
              obtain ⟨hp434, hr434⟩ := hr434
              have hKp434 := hKp430.tr (hp434.mono rfl)
              obtain ⟨f434_0, f434_1, f434_2, f434_3, f434_4, f434_5, f434_6, f434_7⟩ := hr434
              refine q_cast E hC434 hS434 gca (a := (2102 + 1)) ev431i (by omega) (by omega) (cs_n16 (a := (2102 + 1)) (by omega) (by omega)) dX12_readArticle_160 (fun H435 locs435 hC435 hS435 U435 => ?_)
              have hKp435 := Kp.upD gca rfl rfl (fun _ => ⟨fun _ => nd4 (by omega) (by omega), fun _ => by unfold dpu; omega, fun _ => by unfold dpn; omega⟩) U435 hKp434
              have m436 : (sI H435 h0 (X.1.2 11 12)).toInt = (sI H434 h0 (X.1.2 11 12)).toInt := congrArg Int32.toInt (up_nI U435 (ne_k g0 gca (by decide)))
              have m437 : (sI H435 h0 (X.1.2 11 14)).toInt = (sI H434 h0 (X.1.2 11 14)).toInt := congrArg Int32.toInt (up_nI U435 (ne_k g0 gca (by decide)))
              have m438 := congrArg tk m437
              have m439 : (sI H435 h0 (X.1.2 11 16)).toInt = (sI H434 h0 (X.1.2 11 16)).toInt := congrArg Int32.toInt (up_nI U435 (ne_k g0 gca (by decide)))
              have e440 := up_I U435
              refine lv_aload_n hx hb dX12_readArticle_161 rfl (lv_at hl 1 rfl) ?_
              refine q_getI E hC435 g0 fa_RX12_218 dX12_readArticle_162 (fun v441 ev441 lv441 uv441 => ?_)
              have m442 : (sI H435 h0 (X.1.2 11 12)).toInt = v441.toInt := (congrArg Int32.toInt ev441).trans rfl
              refine q_if_ne hx hb (a := v441.toInt) rfl (tgt := 179) dX12_readArticle_165 rfl (fun c443 => ?_) (fun c443 => ?_)
              · have hz8 := tk_nn (sI H435 h0 (X.1.2 11 14)).toInt
                exact ret H435 locs435 _ _ dX12_readArticle_179 ⟨hKp435, ⟨by omega, by omega, by omega, by omega⟩⟩ hC435 hS435
              · refine lv_aload_n hx hb dX12_readArticle_168 rfl (lv_at hl 1 rfl) ?_
                refine q_getC E hC435 g0 fa_RX12_35 uc dX12_readArticle_169 ?_
                refine lv_sipush (v := 2098) hx hb dX12_readArticle_172 rfl ?_
                refine lv_iload_n hx hb dX12_readArticle_175 rfl (lv_at hl 0 rfl) ?_
                refine lv_iadd hx hb dX12_readArticle_176 (lv_topi (fun v444 ev444 => ?_))
                have ev444i : v444.toInt = (2098 + 1) := i_add ev444 (by decide) (by decide) (by omega) (by omega)
                refine lv_iconst (v := 1) hx hb dX12_readArticle_177 rfl ?_
                refine q_cast E hC435 hS435 gca (a := (2098 + 1)) ev444i (by omega) (by omega) (cs_n16 (a := (2098 + 1)) (by omega) (by omega)) dX12_readArticle_178 (fun H445 locs445 hC445 hS445 U445 => ?_)
                have hKp445 := Kp.upD gca rfl rfl (fun _ => ⟨fun _ => nd4 (by omega) (by omega), fun _ => by unfold dpu; omega, fun _ => by unfold dpn; omega⟩) U445 hKp435
                have m446 : (sI H445 h0 (X.1.2 11 12)).toInt = (sI H435 h0 (X.1.2 11 12)).toInt := congrArg Int32.toInt (up_nI U445 (ne_k g0 gca (by decide)))
                have m447 : (sI H445 h0 (X.1.2 11 14)).toInt = (sI H435 h0 (X.1.2 11 14)).toInt := congrArg Int32.toInt (up_nI U445 (ne_k g0 gca (by decide)))
                have m448 := congrArg tk m447
                have m449 : (sI H445 h0 (X.1.2 11 16)).toInt = (sI H435 h0 (X.1.2 11 16)).toInt := congrArg Int32.toInt (up_nI U445 (ne_k g0 gca (by decide)))
                have e450 := up_I U445
                have hz8 := tk_nn (sI H445 h0 (X.1.2 11 14)).toInt
                exact ret H445 locs445 _ _ dX12_readArticle_179 ⟨hKp445, ⟨by omega, by omega, by omega, by omega⟩⟩ hC445 hS445
  · refine q_if_eq hx hb (a := 1) (by decide) (tgt := 15) dX12_readArticle_8 rfl (fun c451 => absurd c451 (by omega)) (fun c451 => ?_)
    refine lv_iconst (v := 0) hx hb dX12_readArticle_11 rfl ?_
    refine lv_goto (tgt := 49) hx hb dX12_readArticle_12 rfl ?_
    refine lv_istore_n hx hb dX12_readArticle_49 rfl hl (by decide) rfl (fun ls hl => ?_)
    have hl : lv_has ls 2 [(1, .int 0), (0, .ref h0)] := hl
    refine lv_iload_n hx hb dX12_readArticle_50 rfl (lv_at hl 0 rfl) ?_
    refine q_if_ge hx hb (a := 0) (by decide) (tgt := 58) dX12_readArticle_51 rfl (fun c452 => ?_) (fun c452 => absurd c452 (by omega))
    refine lv_aload_n hx hb dX12_readArticle_58 rfl (lv_at hl 1 rfl) ?_
    refine q_getI E hC21 g0 fa_RX12_218 dX12_readArticle_59 (fun v453 ev453 lv453 uv453 => ?_)
    have m454 : (sI H21 h0 (X.1.2 11 12)).toInt = v453.toInt := (congrArg Int32.toInt ev453).trans rfl
    refine q_if_ne hx hb (a := v453.toInt) rfl (tgt := 88) dX12_readArticle_62 rfl (fun c455 => ?_) (fun c455 => ?_)
    · refine lv_aload_n hx hb dX12_readArticle_88 rfl (lv_at hl 1 rfl) ?_
      refine lv_iconst (v := 1) hx hb dX12_readArticle_89 rfl ?_
      refine q_goV (q_runV (As := [.int 1]) (rest := []) E hC21 hS22 (m_X12_must l X Γ H21 hC21 h0 g0 1 (a1 := 1) (by decide) ca gca uc (by omega) (by omega)) cw_X12_must cl_RX12_244 g0 ⟨rfl, rfl⟩ rfl hl.1 rfl (Nat.zero_le _) (by decide) dX12_readArticle_90) hS22 (fun H456 locs456 hr456 hC456 hS456 => ?_)
      obtain ⟨hp456, hr456⟩ := hr456
      have hKp456 := hKp21.tr (hp456.mono rfl)
      obtain ⟨f456_0, f456_1, f456_2, f456_3, f456_4⟩ := hr456
      refine lv_aload_n hx hb dX12_readArticle_93 rfl (lv_at hl 1 rfl) ?_
      refine q_getI E hC456 g0 fa_RX12_218 dX12_readArticle_94 (fun v457 ev457 lv457 uv457 => ?_)
      have m458 : (sI H456 h0 (X.1.2 11 12)).toInt = v457.toInt := (congrArg Int32.toInt ev457).trans rfl
      refine q_if_ne hx hb (a := v457.toInt) rfl (tgt := 161) dX12_readArticle_97 rfl (fun c459 => ?_) (fun c459 => ?_)
      · refine lv_aload_n hx hb dX12_readArticle_161 rfl (lv_at hl 1 rfl) ?_
        refine q_getI E hC456 g0 fa_RX12_218 dX12_readArticle_162 (fun v460 ev460 lv460 uv460 => ?_)
        have qv460 := ev457.symm.trans ev460; subst qv460
        refine q_if_ne hx hb (a := v457.toInt) rfl (tgt := 179) dX12_readArticle_165 rfl (fun c461 => ?_) (fun c461 => absurd c461 (by omega))
        have hz8 := tk_nn (sI H456 h0 (X.1.2 11 14)).toInt
        exact ret H456 locs456 _ _ dX12_readArticle_179 ⟨hKp456, ⟨by omega, by omega, by omega, by omega⟩⟩ hC456 hS456
      · refine lv_iload_n hx hb dX12_readArticle_100 rfl (lv_at hl 0 rfl) ?_
        refine lv_iconst (v := 2) hx hb dX12_readArticle_101 rfl ?_
        refine q_icmp_eq hx hb (a := 0) (b := 2) (by decide) (by decide) (tgt := 161) dX12_readArticle_102 rfl (fun c462 => absurd c462 (by omega)) (fun c462 => ?_)
        refine lv_aload_n hx hb dX12_readArticle_105 rfl (lv_at hl 1 rfl) ?_
        refine lv_iload_n hx hb dX12_readArticle_106 rfl (lv_at hl 0 rfl) ?_
        refine lv_iconst (v := 1) hx hb dX12_readArticle_107 rfl ?_
        refine q_icmp_ne hx hb (a := 0) (b := 1) (by decide) (by decide) (tgt := 118) dX12_readArticle_108 rfl (fun c463 => ?_) (fun c463 => absurd c463 (by omega))
        refine lv_aload_n hx hb dX12_readArticle_118 rfl (lv_at hl 1 rfl) ?_
        refine q_goIp (q_runV (As := []) (rest := [.ref h0]) E hC456 hS456 (m_X12_isAbove l X Γ H456 hC456 h0 g0 ca gca uc) cw_X12_isAbove cl_RX12_196 g0 ⟨rfl, rfl⟩ rfl hl.1 rfl (show _ ≤ _ from by simp [Value.category]) (by decide) dX12_readArticle_119) hS456 (fun v464 locs464 hr464 hS464 => ?_)
        have b464 : v464.toInt = 0 ∨ v464.toInt = 1 := hr464.imp (fun h => by rw [h]; decide) (fun h => by rw [h]; decide)
        refine q_goV (q_runV (As := [.int v464]) (rest := []) E hC456 hS464 (m_X12_must l X Γ H456 hC456 h0 g0 v464 (a1 := v464.toInt) rfl ca gca uc (by omega) (by omega)) cw_X12_must cl_RX12_244 g0 ⟨rfl, rfl⟩ rfl hl.1 rfl (Nat.zero_le _) (by decide) dX12_readArticle_122) hS464 (fun H465 locs465 hr465 hC465 hS465 => ?_)
        obtain ⟨hp465, hr465⟩ := hr465
        have hKp465 := hKp456.tr (hp465.mono rfl)
        obtain ⟨f465_0, f465_1, f465_2, f465_3, f465_4⟩ := hr465
        refine lv_aload_n hx hb dX12_readArticle_125 rfl (lv_at hl 1 rfl) ?_
        refine q_getC E hC465 g0 fa_RX12_35 uc dX12_readArticle_126 ?_
        refine lv_sipush (v := 2102) hx hb dX12_readArticle_129 rfl ?_
        refine lv_iload_n hx hb dX12_readArticle_132 rfl (lv_at hl 0 rfl) ?_
        refine lv_iadd hx hb dX12_readArticle_133 (lv_topi (fun v466 ev466 => ?_))
        have ev466i : v466.toInt = (2102 + 0) := i_add ev466 (by decide) (by decide) (by omega) (by omega)
        refine lv_aload_n hx hb dX12_readArticle_134 rfl (lv_at hl 1 rfl) ?_
        refine lv_iconst (v := 0) hx hb dX12_readArticle_135 rfl ?_
        refine lv_iload_n hx hb dX12_readArticle_136 rfl (lv_at hl 0 rfl) ?_
        refine q_if_ne hx hb (a := 0) (by decide) (tgt := 145) dX12_readArticle_137 rfl (fun c467 => absurd c467 (by omega)) (fun c467 => ?_)
        refine lv_bipush (v := 20) hx hb dX12_readArticle_140 rfl ?_
        refine lv_goto (tgt := 157) hx hb dX12_readArticle_142 rfl ?_
        refine q_goI (q_runV (As := [.int 0, .int 20]) (rest := [.int v466, .ref ca]) E hC465 hS465 (m_X12_count l X Γ H465 hC465 h0 g0 0 (a1 := 0) (by decide) 20 (a2 := 20) (by decide) ca gca uc (by omega) (by omega) (by omega) (by omega)) cw_X12_count cl_RX12_248 g0 ⟨rfl, rfl⟩ rfl hl.1 rfl (show _ ≤ _ from by simp [Value.category]) (by decide) dX12_readArticle_157) hS465 (fun v468 H468 locs468 hr468 hC468 hS468 => ?_)
        obtain ⟨hp468, hr468⟩ := hr468
        have hKp468 := hKp465.tr (hp468.mono rfl)
        obtain ⟨f468_0, f468_1, f468_2, f468_3, f468_4, f468_5, f468_6, f468_7⟩ := hr468
        refine q_cast E hC468 hS468 gca (a := (2102 + 0)) ev466i (by omega) (by omega) (cs_n16 (a := (2102 + 0)) (by omega) (by omega)) dX12_readArticle_160 (fun H469 locs469 hC469 hS469 U469 => ?_)
        have hKp469 := Kp.upD gca rfl rfl (fun _ => ⟨fun _ => nd4 (by omega) (by omega), fun _ => by unfold dpu; omega, fun _ => by unfold dpn; omega⟩) U469 hKp468
        have m470 : (sI H469 h0 (X.1.2 11 12)).toInt = (sI H468 h0 (X.1.2 11 12)).toInt := congrArg Int32.toInt (up_nI U469 (ne_k g0 gca (by decide)))
        have m471 : (sI H469 h0 (X.1.2 11 14)).toInt = (sI H468 h0 (X.1.2 11 14)).toInt := congrArg Int32.toInt (up_nI U469 (ne_k g0 gca (by decide)))
        have m472 := congrArg tk m471
        have m473 : (sI H469 h0 (X.1.2 11 16)).toInt = (sI H468 h0 (X.1.2 11 16)).toInt := congrArg Int32.toInt (up_nI U469 (ne_k g0 gca (by decide)))
        have e474 := up_I U469
        refine lv_aload_n hx hb dX12_readArticle_161 rfl (lv_at hl 1 rfl) ?_
        refine q_getI E hC469 g0 fa_RX12_218 dX12_readArticle_162 (fun v475 ev475 lv475 uv475 => ?_)
        have m476 : (sI H469 h0 (X.1.2 11 12)).toInt = v475.toInt := (congrArg Int32.toInt ev475).trans rfl
        refine q_if_ne hx hb (a := v475.toInt) rfl (tgt := 179) dX12_readArticle_165 rfl (fun c477 => ?_) (fun c477 => ?_)
        · have hz8 := tk_nn (sI H469 h0 (X.1.2 11 14)).toInt
          exact ret H469 locs469 _ _ dX12_readArticle_179 ⟨hKp469, ⟨by omega, by omega, by omega, by omega⟩⟩ hC469 hS469
        · refine lv_aload_n hx hb dX12_readArticle_168 rfl (lv_at hl 1 rfl) ?_
          refine q_getC E hC469 g0 fa_RX12_35 uc dX12_readArticle_169 ?_
          refine lv_sipush (v := 2098) hx hb dX12_readArticle_172 rfl ?_
          refine lv_iload_n hx hb dX12_readArticle_175 rfl (lv_at hl 0 rfl) ?_
          refine lv_iadd hx hb dX12_readArticle_176 (lv_topi (fun v478 ev478 => ?_))
          have ev478i : v478.toInt = (2098 + 0) := i_add ev478 (by decide) (by decide) (by omega) (by omega)
          refine lv_iconst (v := 1) hx hb dX12_readArticle_177 rfl ?_
          refine q_cast E hC469 hS469 gca (a := (2098 + 0)) ev478i (by omega) (by omega) (cs_n16 (a := (2098 + 0)) (by omega) (by omega)) dX12_readArticle_178 (fun H479 locs479 hC479 hS479 U479 => ?_)
          have hKp479 := Kp.upD gca rfl rfl (fun _ => ⟨fun _ => nd4 (by omega) (by omega), fun _ => by unfold dpu; omega, fun _ => by unfold dpn; omega⟩) U479 hKp469
          have m480 : (sI H479 h0 (X.1.2 11 12)).toInt = (sI H469 h0 (X.1.2 11 12)).toInt := congrArg Int32.toInt (up_nI U479 (ne_k g0 gca (by decide)))
          have m481 : (sI H479 h0 (X.1.2 11 14)).toInt = (sI H469 h0 (X.1.2 11 14)).toInt := congrArg Int32.toInt (up_nI U479 (ne_k g0 gca (by decide)))
          have m482 := congrArg tk m481
          have m483 : (sI H479 h0 (X.1.2 11 16)).toInt = (sI H469 h0 (X.1.2 11 16)).toInt := congrArg Int32.toInt (up_nI U479 (ne_k g0 gca (by decide)))
          have e484 := up_I U479
          have hz8 := tk_nn (sI H479 h0 (X.1.2 11 14)).toInt
          exact ret H479 locs479 _ _ dX12_readArticle_179 ⟨hKp479, ⟨by omega, by omega, by omega, by omega⟩⟩ hC479 hS479
    · refine lv_aload_n hx hb dX12_readArticle_65 rfl (lv_at hl 1 rfl) ?_
      refine q_getC E hC21 g0 fa_RX12_35 uc dX12_readArticle_66 ?_
      refine lv_sipush (v := 2098) hx hb dX12_readArticle_69 rfl ?_
      refine lv_iload_n hx hb dX12_readArticle_72 rfl (lv_at hl 0 rfl) ?_
      refine lv_iadd hx hb dX12_readArticle_73 (lv_topi (fun v485 ev485 => ?_))
      have ev485i : v485.toInt = (2098 + 0) := i_add ev485 (by decide) (by decide) (by omega) (by omega)
      refine q_cald E hC21 (lo := -2147483648) (hi := 2147483647) gca (a := (2098 + 0)) ev485i (by omega) (by omega) (cr_n16 (by omega) (by omega)) dX12_readArticle_74 (fun v486 ev486 _ _ => ?_)
      refine lv_iconst (v := 1) hx hb dX12_readArticle_75 rfl ?_
      refine q_icmp_ne hx hb (a := v486.toInt) (b := 1) rfl (by decide) (tgt := 88) dX12_readArticle_76 rfl (fun c487 => ?_) (fun c487 => ?_)
      · refine lv_aload_n hx hb dX12_readArticle_88 rfl (lv_at hl 1 rfl) ?_
        refine lv_iconst (v := 1) hx hb dX12_readArticle_89 rfl ?_
        refine q_goV (q_runV (As := [.int 1]) (rest := []) E hC21 hS22 (m_X12_must l X Γ H21 hC21 h0 g0 1 (a1 := 1) (by decide) ca gca uc (by omega) (by omega)) cw_X12_must cl_RX12_244 g0 ⟨rfl, rfl⟩ rfl hl.1 rfl (Nat.zero_le _) (by decide) dX12_readArticle_90) hS22 (fun H488 locs488 hr488 hC488 hS488 => ?_)
        obtain ⟨hp488, hr488⟩ := hr488
        have hKp488 := hKp21.tr (hp488.mono rfl)
        obtain ⟨f488_0, f488_1, f488_2, f488_3, f488_4⟩ := hr488
        refine lv_aload_n hx hb dX12_readArticle_93 rfl (lv_at hl 1 rfl) ?_
        refine q_getI E hC488 g0 fa_RX12_218 dX12_readArticle_94 (fun v489 ev489 lv489 uv489 => ?_)
        have m490 : (sI H488 h0 (X.1.2 11 12)).toInt = v489.toInt := (congrArg Int32.toInt ev489).trans rfl
        refine q_if_ne hx hb (a := v489.toInt) rfl (tgt := 161) dX12_readArticle_97 rfl (fun c491 => ?_) (fun c491 => ?_)
        · refine lv_aload_n hx hb dX12_readArticle_161 rfl (lv_at hl 1 rfl) ?_
          refine q_getI E hC488 g0 fa_RX12_218 dX12_readArticle_162 (fun v492 ev492 lv492 uv492 => ?_)
          have qv492 := ev489.symm.trans ev492; subst qv492
          refine q_if_ne hx hb (a := v489.toInt) rfl (tgt := 179) dX12_readArticle_165 rfl (fun c493 => ?_) (fun c493 => absurd c493 (by omega))
          have hz8 := tk_nn (sI H488 h0 (X.1.2 11 14)).toInt
          exact ret H488 locs488 _ _ dX12_readArticle_179 ⟨hKp488, ⟨by omega, by omega, by omega, by omega⟩⟩ hC488 hS488
        · refine lv_iload_n hx hb dX12_readArticle_100 rfl (lv_at hl 0 rfl) ?_
          refine lv_iconst (v := 2) hx hb dX12_readArticle_101 rfl ?_
          refine q_icmp_eq hx hb (a := 0) (b := 2) (by decide) (by decide) (tgt := 161) dX12_readArticle_102 rfl (fun c494 => absurd c494 (by omega)) (fun c494 => ?_)
          refine lv_aload_n hx hb dX12_readArticle_105 rfl (lv_at hl 1 rfl) ?_
          refine lv_iload_n hx hb dX12_readArticle_106 rfl (lv_at hl 0 rfl) ?_
          refine lv_iconst (v := 1) hx hb dX12_readArticle_107 rfl ?_
          refine q_icmp_ne hx hb (a := 0) (b := 1) (by decide) (by decide) (tgt := 118) dX12_readArticle_108 rfl (fun c495 => ?_) (fun c495 => absurd c495 (by omega))
          refine lv_aload_n hx hb dX12_readArticle_118 rfl (lv_at hl 1 rfl) ?_
          refine q_goIp (q_runV (As := []) (rest := [.ref h0]) E hC488 hS488 (m_X12_isAbove l X Γ H488 hC488 h0 g0 ca gca uc) cw_X12_isAbove cl_RX12_196 g0 ⟨rfl, rfl⟩ rfl hl.1 rfl (show _ ≤ _ from by simp [Value.category]) (by decide) dX12_readArticle_119) hS488 (fun v496 locs496 hr496 hS496 => ?_)
          have b496 : v496.toInt = 0 ∨ v496.toInt = 1 := hr496.imp (fun h => by rw [h]; decide) (fun h => by rw [h]; decide)
          refine q_goV (q_runV (As := [.int v496]) (rest := []) E hC488 hS496 (m_X12_must l X Γ H488 hC488 h0 g0 v496 (a1 := v496.toInt) rfl ca gca uc (by omega) (by omega)) cw_X12_must cl_RX12_244 g0 ⟨rfl, rfl⟩ rfl hl.1 rfl (Nat.zero_le _) (by decide) dX12_readArticle_122) hS496 (fun H497 locs497 hr497 hC497 hS497 => ?_)
          obtain ⟨hp497, hr497⟩ := hr497
          have hKp497 := hKp488.tr (hp497.mono rfl)
          obtain ⟨f497_0, f497_1, f497_2, f497_3, f497_4⟩ := hr497
          refine lv_aload_n hx hb dX12_readArticle_125 rfl (lv_at hl 1 rfl) ?_
          refine q_getC E hC497 g0 fa_RX12_35 uc dX12_readArticle_126 ?_
          refine lv_sipush (v := 2102) hx hb dX12_readArticle_129 rfl ?_
          refine lv_iload_n hx hb dX12_readArticle_132 rfl (lv_at hl 0 rfl) ?_
          refine lv_iadd hx hb dX12_readArticle_133 (lv_topi (fun v498 ev498 => ?_))
          have ev498i : v498.toInt = (2102 + 0) := i_add ev498 (by decide) (by decide) (by omega) (by omega)
          refine lv_aload_n hx hb dX12_readArticle_134 rfl (lv_at hl 1 rfl) ?_
          refine lv_iconst (v := 0) hx hb dX12_readArticle_135 rfl ?_
          refine lv_iload_n hx hb dX12_readArticle_136 rfl (lv_at hl 0 rfl) ?_
          refine q_if_ne hx hb (a := 0) (by decide) (tgt := 145) dX12_readArticle_137 rfl (fun c499 => absurd c499 (by omega)) (fun c499 => ?_)
          refine lv_bipush (v := 20) hx hb dX12_readArticle_140 rfl ?_
          refine lv_goto (tgt := 157) hx hb dX12_readArticle_142 rfl ?_
          refine q_goI (q_runV (As := [.int 0, .int 20]) (rest := [.int v498, .ref ca]) E hC497 hS497 (m_X12_count l X Γ H497 hC497 h0 g0 0 (a1 := 0) (by decide) 20 (a2 := 20) (by decide) ca gca uc (by omega) (by omega) (by omega) (by omega)) cw_X12_count cl_RX12_248 g0 ⟨rfl, rfl⟩ rfl hl.1 rfl (show _ ≤ _ from by simp [Value.category]) (by decide) dX12_readArticle_157) hS497 (fun v500 H500 locs500 hr500 hC500 hS500 => ?_)
          obtain ⟨hp500, hr500⟩ := hr500
          have hKp500 := hKp497.tr (hp500.mono rfl)
          obtain ⟨f500_0, f500_1, f500_2, f500_3, f500_4, f500_5, f500_6, f500_7⟩ := hr500
          refine q_cast E hC500 hS500 gca (a := (2102 + 0)) ev498i (by omega) (by omega) (cs_n16 (a := (2102 + 0)) (by omega) (by omega)) dX12_readArticle_160 (fun H501 locs501 hC501 hS501 U501 => ?_)
          have hKp501 := Kp.upD gca rfl rfl (fun _ => ⟨fun _ => nd4 (by omega) (by omega), fun _ => by unfold dpu; omega, fun _ => by unfold dpn; omega⟩) U501 hKp500
          have m502 : (sI H501 h0 (X.1.2 11 12)).toInt = (sI H500 h0 (X.1.2 11 12)).toInt := congrArg Int32.toInt (up_nI U501 (ne_k g0 gca (by decide)))
          have m503 : (sI H501 h0 (X.1.2 11 14)).toInt = (sI H500 h0 (X.1.2 11 14)).toInt := congrArg Int32.toInt (up_nI U501 (ne_k g0 gca (by decide)))
          have m504 := congrArg tk m503
          have m505 : (sI H501 h0 (X.1.2 11 16)).toInt = (sI H500 h0 (X.1.2 11 16)).toInt := congrArg Int32.toInt (up_nI U501 (ne_k g0 gca (by decide)))
          have e506 := up_I U501
          refine lv_aload_n hx hb dX12_readArticle_161 rfl (lv_at hl 1 rfl) ?_
          refine q_getI E hC501 g0 fa_RX12_218 dX12_readArticle_162 (fun v507 ev507 lv507 uv507 => ?_)
          have m508 : (sI H501 h0 (X.1.2 11 12)).toInt = v507.toInt := (congrArg Int32.toInt ev507).trans rfl
          refine q_if_ne hx hb (a := v507.toInt) rfl (tgt := 179) dX12_readArticle_165 rfl (fun c509 => ?_) (fun c509 => ?_)
          · have hz8 := tk_nn (sI H501 h0 (X.1.2 11 14)).toInt
            exact ret H501 locs501 _ _ dX12_readArticle_179 ⟨hKp501, ⟨by omega, by omega, by omega, by omega⟩⟩ hC501 hS501
          · refine lv_aload_n hx hb dX12_readArticle_168 rfl (lv_at hl 1 rfl) ?_
            refine q_getC E hC501 g0 fa_RX12_35 uc dX12_readArticle_169 ?_
            refine lv_sipush (v := 2098) hx hb dX12_readArticle_172 rfl ?_
            refine lv_iload_n hx hb dX12_readArticle_175 rfl (lv_at hl 0 rfl) ?_
            refine lv_iadd hx hb dX12_readArticle_176 (lv_topi (fun v510 ev510 => ?_))
            have ev510i : v510.toInt = (2098 + 0) := i_add ev510 (by decide) (by decide) (by omega) (by omega)
            refine lv_iconst (v := 1) hx hb dX12_readArticle_177 rfl ?_
            refine q_cast E hC501 hS501 gca (a := (2098 + 0)) ev510i (by omega) (by omega) (cs_n16 (a := (2098 + 0)) (by omega) (by omega)) dX12_readArticle_178 (fun H511 locs511 hC511 hS511 U511 => ?_)
            have hKp511 := Kp.upD gca rfl rfl (fun _ => ⟨fun _ => nd4 (by omega) (by omega), fun _ => by unfold dpu; omega, fun _ => by unfold dpn; omega⟩) U511 hKp501
            have m512 : (sI H511 h0 (X.1.2 11 12)).toInt = (sI H501 h0 (X.1.2 11 12)).toInt := congrArg Int32.toInt (up_nI U511 (ne_k g0 gca (by decide)))
            have m513 : (sI H511 h0 (X.1.2 11 14)).toInt = (sI H501 h0 (X.1.2 11 14)).toInt := congrArg Int32.toInt (up_nI U511 (ne_k g0 gca (by decide)))
            have m514 := congrArg tk m513
            have m515 : (sI H511 h0 (X.1.2 11 16)).toInt = (sI H501 h0 (X.1.2 11 16)).toInt := congrArg Int32.toInt (up_nI U511 (ne_k g0 gca (by decide)))
            have e516 := up_I U511
            have hz8 := tk_nn (sI H511 h0 (X.1.2 11 14)).toInt
            exact ret H511 locs511 _ _ dX12_readArticle_179 ⟨hKp511, ⟨by omega, by omega, by omega, by omega⟩⟩ hC511 hS511
      · refine lv_aload_n hx hb dX12_readArticle_79 rfl (lv_at hl 1 rfl) ?_
        refine lv_iconst (v := 5) hx hb dX12_readArticle_80 rfl ?_
        refine lv_aload_n hx hb dX12_readArticle_81 rfl (lv_at hl 1 rfl) ?_
        refine q_getI E hC21 g0 fa_RX12_114 dX12_readArticle_82 (fun v517 ev517 lv517 uv517 => ?_)
        refine q_goV (q_runV (As := [.int 5, .int v517]) (rest := []) E hC21 hS22 (m_X12_fail l X Γ H21 hC21 h0 g0 5 (a1 := 5) (by decide) v517 (a2 := v517.toInt) rfl ca gca uc (by omega) (by omega)) cw_X12_fail cl_RX12_224 g0 ⟨rfl, rfl⟩ rfl hl.1 rfl (Nat.zero_le _) (by decide) dX12_readArticle_85) hS22 (fun H518 locs518 hr518 hC518 hS518 => ?_)
        obtain ⟨hp518, hr518⟩ := hr518
        have hKp518 := hKp21.tr (hp518.mono rfl)
        obtain ⟨f518_0, f518_1, f518_2, f518_3⟩ := hr518
        refine lv_aload_n hx hb dX12_readArticle_88 rfl (lv_at hl 1 rfl) ?_
        refine lv_iconst (v := 1) hx hb dX12_readArticle_89 rfl ?_
        refine q_goV (q_runV (As := [.int 1]) (rest := []) E hC518 hS518 (m_X12_must l X Γ H518 hC518 h0 g0 1 (a1 := 1) (by decide) ca gca uc (by omega) (by omega)) cw_X12_must cl_RX12_244 g0 ⟨rfl, rfl⟩ rfl hl.1 rfl (Nat.zero_le _) (by decide) dX12_readArticle_90) hS518 (fun H519 locs519 hr519 hC519 hS519 => ?_)
        obtain ⟨hp519, hr519⟩ := hr519
        have hKp519 := hKp518.tr (hp519.mono rfl)
        obtain ⟨f519_0, f519_1, f519_2, f519_3, f519_4⟩ := hr519
        refine lv_aload_n hx hb dX12_readArticle_93 rfl (lv_at hl 1 rfl) ?_
        refine q_getI E hC519 g0 fa_RX12_218 dX12_readArticle_94 (fun v520 ev520 lv520 uv520 => ?_)
        have m521 : (sI H519 h0 (X.1.2 11 12)).toInt = v520.toInt := (congrArg Int32.toInt ev520).trans rfl
        refine q_if_ne hx hb (a := v520.toInt) rfl (tgt := 161) dX12_readArticle_97 rfl (fun c522 => ?_) (fun c522 => ?_)
        · refine lv_aload_n hx hb dX12_readArticle_161 rfl (lv_at hl 1 rfl) ?_
          refine q_getI E hC519 g0 fa_RX12_218 dX12_readArticle_162 (fun v523 ev523 lv523 uv523 => ?_)
          have qv523 := ev520.symm.trans ev523; subst qv523
          refine q_if_ne hx hb (a := v520.toInt) rfl (tgt := 179) dX12_readArticle_165 rfl (fun c524 => ?_) (fun c524 => absurd c524 (by omega))
          have hz8 := tk_nn (sI H519 h0 (X.1.2 11 14)).toInt
          exact ret H519 locs519 _ _ dX12_readArticle_179 ⟨hKp519, ⟨by omega, by omega, by omega, by omega⟩⟩ hC519 hS519
        · refine lv_iload_n hx hb dX12_readArticle_100 rfl (lv_at hl 0 rfl) ?_
          refine lv_iconst (v := 2) hx hb dX12_readArticle_101 rfl ?_
          refine q_icmp_eq hx hb (a := 0) (b := 2) (by decide) (by decide) (tgt := 161) dX12_readArticle_102 rfl (fun c525 => absurd c525 (by omega)) (fun c525 => ?_)
          refine lv_aload_n hx hb dX12_readArticle_105 rfl (lv_at hl 1 rfl) ?_
          refine lv_iload_n hx hb dX12_readArticle_106 rfl (lv_at hl 0 rfl) ?_
          refine lv_iconst (v := 1) hx hb dX12_readArticle_107 rfl ?_
          refine q_icmp_ne hx hb (a := 0) (b := 1) (by decide) (by decide) (tgt := 118) dX12_readArticle_108 rfl (fun c526 => ?_) (fun c526 => absurd c526 (by omega))
          refine lv_aload_n hx hb dX12_readArticle_118 rfl (lv_at hl 1 rfl) ?_
          refine q_goIp (q_runV (As := []) (rest := [.ref h0]) E hC519 hS519 (m_X12_isAbove l X Γ H519 hC519 h0 g0 ca gca uc) cw_X12_isAbove cl_RX12_196 g0 ⟨rfl, rfl⟩ rfl hl.1 rfl (show _ ≤ _ from by simp [Value.category]) (by decide) dX12_readArticle_119) hS519 (fun v527 locs527 hr527 hS527 => ?_)
          have b527 : v527.toInt = 0 ∨ v527.toInt = 1 := hr527.imp (fun h => by rw [h]; decide) (fun h => by rw [h]; decide)
          refine q_goV (q_runV (As := [.int v527]) (rest := []) E hC519 hS527 (m_X12_must l X Γ H519 hC519 h0 g0 v527 (a1 := v527.toInt) rfl ca gca uc (by omega) (by omega)) cw_X12_must cl_RX12_244 g0 ⟨rfl, rfl⟩ rfl hl.1 rfl (Nat.zero_le _) (by decide) dX12_readArticle_122) hS527 (fun H528 locs528 hr528 hC528 hS528 => ?_)
          obtain ⟨hp528, hr528⟩ := hr528
          have hKp528 := hKp519.tr (hp528.mono rfl)
          obtain ⟨f528_0, f528_1, f528_2, f528_3, f528_4⟩ := hr528
          refine lv_aload_n hx hb dX12_readArticle_125 rfl (lv_at hl 1 rfl) ?_
          refine q_getC E hC528 g0 fa_RX12_35 uc dX12_readArticle_126 ?_
          refine lv_sipush (v := 2102) hx hb dX12_readArticle_129 rfl ?_
          refine lv_iload_n hx hb dX12_readArticle_132 rfl (lv_at hl 0 rfl) ?_
          refine lv_iadd hx hb dX12_readArticle_133 (lv_topi (fun v529 ev529 => ?_))
          have ev529i : v529.toInt = (2102 + 0) := i_add ev529 (by decide) (by decide) (by omega) (by omega)
          refine lv_aload_n hx hb dX12_readArticle_134 rfl (lv_at hl 1 rfl) ?_
          refine lv_iconst (v := 0) hx hb dX12_readArticle_135 rfl ?_
          refine lv_iload_n hx hb dX12_readArticle_136 rfl (lv_at hl 0 rfl) ?_
          refine q_if_ne hx hb (a := 0) (by decide) (tgt := 145) dX12_readArticle_137 rfl (fun c530 => absurd c530 (by omega)) (fun c530 => ?_)
          refine lv_bipush (v := 20) hx hb dX12_readArticle_140 rfl ?_
          refine lv_goto (tgt := 157) hx hb dX12_readArticle_142 rfl ?_
          refine q_goI (q_runV (As := [.int 0, .int 20]) (rest := [.int v529, .ref ca]) E hC528 hS528 (m_X12_count l X Γ H528 hC528 h0 g0 0 (a1 := 0) (by decide) 20 (a2 := 20) (by decide) ca gca uc (by omega) (by omega) (by omega) (by omega)) cw_X12_count cl_RX12_248 g0 ⟨rfl, rfl⟩ rfl hl.1 rfl (show _ ≤ _ from by simp [Value.category]) (by decide) dX12_readArticle_157) hS528 (fun v531 H531 locs531 hr531 hC531 hS531 => ?_)
          obtain ⟨hp531, hr531⟩ := hr531
          have hKp531 := hKp528.tr (hp531.mono rfl)
          obtain ⟨f531_0, f531_1, f531_2, f531_3, f531_4, f531_5, f531_6, f531_7⟩ := hr531
          refine q_cast E hC531 hS531 gca (a := (2102 + 0)) ev529i (by omega) (by omega) (cs_n16 (a := (2102 + 0)) (by omega) (by omega)) dX12_readArticle_160 (fun H532 locs532 hC532 hS532 U532 => ?_)
          have hKp532 := Kp.upD gca rfl rfl (fun _ => ⟨fun _ => nd4 (by omega) (by omega), fun _ => by unfold dpu; omega, fun _ => by unfold dpn; omega⟩) U532 hKp531
          have m533 : (sI H532 h0 (X.1.2 11 12)).toInt = (sI H531 h0 (X.1.2 11 12)).toInt := congrArg Int32.toInt (up_nI U532 (ne_k g0 gca (by decide)))
          have m534 : (sI H532 h0 (X.1.2 11 14)).toInt = (sI H531 h0 (X.1.2 11 14)).toInt := congrArg Int32.toInt (up_nI U532 (ne_k g0 gca (by decide)))
          have m535 := congrArg tk m534
          have m536 : (sI H532 h0 (X.1.2 11 16)).toInt = (sI H531 h0 (X.1.2 11 16)).toInt := congrArg Int32.toInt (up_nI U532 (ne_k g0 gca (by decide)))
          have e537 := up_I U532
          refine lv_aload_n hx hb dX12_readArticle_161 rfl (lv_at hl 1 rfl) ?_
          refine q_getI E hC532 g0 fa_RX12_218 dX12_readArticle_162 (fun v538 ev538 lv538 uv538 => ?_)
          have m539 : (sI H532 h0 (X.1.2 11 12)).toInt = v538.toInt := (congrArg Int32.toInt ev538).trans rfl
          refine q_if_ne hx hb (a := v538.toInt) rfl (tgt := 179) dX12_readArticle_165 rfl (fun c540 => ?_) (fun c540 => ?_)
          · have hz8 := tk_nn (sI H532 h0 (X.1.2 11 14)).toInt
            exact ret H532 locs532 _ _ dX12_readArticle_179 ⟨hKp532, ⟨by omega, by omega, by omega, by omega⟩⟩ hC532 hS532
          · refine lv_aload_n hx hb dX12_readArticle_168 rfl (lv_at hl 1 rfl) ?_
            refine q_getC E hC532 g0 fa_RX12_35 uc dX12_readArticle_169 ?_
            refine lv_sipush (v := 2098) hx hb dX12_readArticle_172 rfl ?_
            refine lv_iload_n hx hb dX12_readArticle_175 rfl (lv_at hl 0 rfl) ?_
            refine lv_iadd hx hb dX12_readArticle_176 (lv_topi (fun v541 ev541 => ?_))
            have ev541i : v541.toInt = (2098 + 0) := i_add ev541 (by decide) (by decide) (by omega) (by omega)
            refine lv_iconst (v := 1) hx hb dX12_readArticle_177 rfl ?_
            refine q_cast E hC532 hS532 gca (a := (2098 + 0)) ev541i (by omega) (by omega) (cs_n16 (a := (2098 + 0)) (by omega) (by omega)) dX12_readArticle_178 (fun H542 locs542 hC542 hS542 U542 => ?_)
            have hKp542 := Kp.upD gca rfl rfl (fun _ => ⟨fun _ => nd4 (by omega) (by omega), fun _ => by unfold dpu; omega, fun _ => by unfold dpn; omega⟩) U542 hKp532
            have m543 : (sI H542 h0 (X.1.2 11 12)).toInt = (sI H532 h0 (X.1.2 11 12)).toInt := congrArg Int32.toInt (up_nI U542 (ne_k g0 gca (by decide)))
            have m544 : (sI H542 h0 (X.1.2 11 14)).toInt = (sI H532 h0 (X.1.2 11 14)).toInt := congrArg Int32.toInt (up_nI U542 (ne_k g0 gca (by decide)))
            have m545 := congrArg tk m544
            have m546 : (sI H542 h0 (X.1.2 11 16)).toInt = (sI H532 h0 (X.1.2 11 16)).toInt := congrArg Int32.toInt (up_nI U542 (ne_k g0 gca (by decide)))
            have e547 := up_I U542
            have hz8 := tk_nn (sI H542 h0 (X.1.2 11 14)).toInt
            exact ret H542 locs542 _ _ dX12_readArticle_179 ⟨hKp542, ⟨by omega, by omega, by omega, by omega⟩⟩ hC542 hS542
