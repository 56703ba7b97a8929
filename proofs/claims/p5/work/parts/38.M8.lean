set_option maxRecDepth 100000 in
set_option maxHeartbeats 4000000 in
theorem m_X12_readRest (l : Launch) (X : xW) (Γ : Nat → Option Nat) (H0 : Heap) (hC0 : Conf X Γ H0) (h0 : Nat) (g0 : Γ h0 = some 11) (p1 : Int32) {a1 : Int} (e1 : p1.toInt = a1) (ca : Nat) (gca : Γ ca = some 64) (uc : ∀ a, Γ a = some 64 → a = ca) (r0 : 2324 ≤ a1) (r1 : a1 ≤ 2585) : Ctr l X Γ yX12_readRest cX12_readRest 3 none 5 [.ref h0, .int p1] H0 (QV X Γ (fun H1 => Kp X Γ [1, 6, 7, 8, 9, 10, 11, 12, 14, 16, 17] H0 H1 ∧ (((sI H0 h0 (X.1.2 11 16)).toInt ≤ (sI H1 h0 (X.1.2 11 16)).toInt) ∧ ((sI H0 h0 (X.1.2 11 12)).toInt ≤ 7 * (sI H1 h0 (X.1.2 11 12)).toInt) ∧ (0 ≤ (sI H1 h0 (X.1.2 11 12)).toInt)))) := by
  refine q_enterV (own := "SnowFortsModel") (by decide) rfl (Nat.le_of_ble_eq_true rfl) ?_
  intro p e s m args below meth c ls Qz E hl ret hS0
  have hx := E.1; have hb := E.2.1
  have hKp0 : Kp X Γ [1, 6, 7, 8, 9, 10, 11, 12, 14, 16, 17] H0 H0 := Kp.rf
  have hl : lv_has ls 3 [(0, .ref h0), (1, .int p1)] := hl
  have hz1 := f_bd hC0 g0 (ci := 11) (k := 16) rfl rfl
  have hz2 := f_bd hC0 g0 (ci := 11) (k := 12) rfl rfl
  refine lv_aload_n hx hb dX12_readRest_0 rfl (lv_at hl 0 rfl) ?_
  refine q_getC E hC0 g0 fa_RX12_35 uc dX12_readRest_1 ?_
  refine lv_iload_n hx hb dX12_readRest_4 rfl (lv_at hl 1 rfl) ?_
  refine q_cald E hC0 (lo := -2147483648) (hi := 2147483647) gca (a := a1) e1 (by omega) (by omega) (cr_n244 (by omega) (by omega)) dX12_readRest_5 (fun v21 ev21 _ _ => ?_)
  refine lv_istore_n hx hb dX12_readRest_6 rfl hl (by decide) rfl (fun ls hl => ?_)
  have hl : lv_has ls 3 [(2, .int v21), (0, .ref h0), (1, .int p1)] := hl
  refine lv_iload_n hx hb dX12_readRest_7 rfl (lv_at hl 0 rfl) ?_
  refine lv_iconst (v := 2) hx hb dX12_readRest_8 rfl ?_
  refine q_icmp_ge hx hb (a := v21.toInt) (b := 2) rfl (by decide) (tgt := 30) dX12_readRest_9 rfl (fun c22 => ?_) (fun c22 => ?_)
  · refine lv_iload_n hx hb dX12_readRest_30 rfl (lv_at hl 0 rfl) ?_
    refine lv_iconst (v := 2) hx hb dX12_readRest_31 rfl ?_
    refine q_icmp_ne hx hb (a := v21.toInt) (b := 2) rfl (by decide) (tgt := 83) dX12_readRest_32 rfl (fun c23 => ?_) (fun c23 => ?_)
    · refine lv_iload_n hx hb dX12_readRest_83 rfl (lv_at hl 0 rfl) ?_
      refine lv_iconst (v := 3) hx hb dX12_readRest_84 rfl ?_
      refine q_icmp_ne hx hb (a := v21.toInt) (b := 3) rfl (by decide) (tgt := 127) dX12_readRest_85 rfl (fun c24 => ?_) (fun c24 => ?_)
      · refine lv_iload_n hx hb dX12_readRest_127 rfl (lv_at hl 0 rfl) ?_
        refine lv_iconst (v := 4) hx hb dX12_readRest_128 rfl ?_
        refine q_icmp_ne hx hb (a := v21.toInt) (b := 4) rfl (by decide) (tgt := 148) dX12_readRest_129 rfl (fun c25 => ?_) (fun c25 => ?_)
        · refine lv_iload_n hx hb dX12_readRest_148 rfl (lv_at hl 0 rfl) ?_
          refine lv_iconst (v := 5) hx hb dX12_readRest_149 rfl ?_
          refine q_icmp_ne hx hb (a := v21.toInt) (b := 5) rfl (by decide) (tgt := 161) dX12_readRest_150 rfl (fun c26 => ?_) (fun c26 => ?_)
          · refine lv_iload_n hx hb dX12_readRest_161 rfl (lv_at hl 0 rfl) ?_
            refine lv_bipush (v := 7) hx hb dX12_readRest_162 rfl ?_
            refine q_icmp_ne hx hb (a := v21.toInt) (b := 7) rfl (by decide) (tgt := 175) dX12_readRest_164 rfl (fun c27 => ?_) (fun c27 => ?_)
            · refine lv_iload_n hx hb dX12_readRest_175 rfl (lv_at hl 0 rfl) ?_
              refine lv_bipush (v := 8) hx hb dX12_readRest_176 rfl ?_
              refine q_icmp_ne hx hb (a := v21.toInt) (b := 8) rfl (by decide) (tgt := 196) dX12_readRest_178 rfl (fun c28 => ?_) (fun c28 => ?_)
              · have hz8 := tk_nn (sI H0 h0 (X.1.2 11 14)).toInt
                exact ret H0 [] _ _ dX12_readRest_196 ⟨hKp0, ⟨by omega, by omega, by omega⟩⟩ hC0 hS0
              · refine lv_aload_n hx hb dX12_readRest_181 rfl (lv_at hl 1 rfl) ?_
                refine q_getC E hC0 g0 fa_RX12_35 uc dX12_readRest_182 ?_
                refine lv_iload_n hx hb dX12_readRest_185 rfl (lv_at hl 2 rfl) ?_
                refine lv_iconst (v := 1) hx hb dX12_readRest_186 rfl ?_
                refine lv_iadd hx hb dX12_readRest_187 (lv_topi (fun v29 ev29 => ?_))
                have ev29i : v29.toInt = (a1 + 1) := i_add ev29 e1 (by decide) (by omega) (by omega)
                refine lv_aload_n hx hb dX12_readRest_188 rfl (lv_at hl 1 rfl) ?_
                refine lv_iconst (v := 1) hx hb dX12_readRest_189 rfl ?_
                refine lv_bipush (v := 99) hx hb dX12_readRest_190 rfl ?_
                refine q_goI (q_runV (As := [.int 1, .int 99]) (rest := [.int v29, .ref ca]) E hC0 hS0 (m_X12_count l X Γ H0 hC0 h0 g0 1 (a1 := 1) (by decide) 99 (a2 := 99) (by decide) ca gca uc (by omega) (by omega) (by omega) (by omega)) cw_X12_count cl_RX12_248 g0 ⟨rfl, rfl⟩ rfl hl.1 rfl (show _ ≤ _ from by simp [Value.category]) (by decide) dX12_readRest_192) hS0 (fun v30 H30 locs30 hr30 hC30 hS30 => ?_)
                obtain ⟨hp30, hr30⟩ := hr30
                have hKp30 := hKp0.tr (hp30.mono rfl)
                obtain ⟨f30_0, f30_1, f30_2, f30_3, f30_4, f30_5, f30_6, f30_7⟩ := hr30
                refine q_cast E hC30 hS30 gca (a := (a1 + 1)) ev29i (by omega) (by omega) (cs_n244 (a := (a1 + 1)) (by omega) (by omega)) dX12_readRest_195 (fun H31 locs31 hC31 hS31 U31 => ?_)
                have hKp31 := Kp.upD gca rfl rfl (fun _ => ⟨fun _ => nd4 (by omega) (by omega), fun _ => by unfold dpu; omega, fun _ => by unfold dpn; omega⟩) U31 hKp30
                have m32 : (sI H31 h0 (X.1.2 11 12)).toInt = (sI H30 h0 (X.1.2 11 12)).toInt := congrArg Int32.toInt (up_nI U31 (ne_k g0 gca (by decide)))
                have m33 : (sI H31 h0 (X.1.2 11 14)).toInt = (sI H30 h0 (X.1.2 11 14)).toInt := congrArg Int32.toInt (up_nI U31 (ne_k g0 gca (by decide)))
                have m34 := congrArg tk m33
                have m35 : (sI H31 h0 (X.1.2 11 16)).toInt = (sI H30 h0 (X.1.2 11 16)).toInt := congrArg Int32.toInt (up_nI U31 (ne_k g0 gca (by decide)))
                have e36 := up_I U31
                have hz8 := tk_nn (sI H31 h0 (X.1.2 11 14)).toInt
                exact ret H31 locs31 _ _ dX12_readRest_196 ⟨hKp31, ⟨by omega, by omega, by omega⟩⟩ hC31 hS31
            · refine lv_aload_n hx hb dX12_readRest_167 rfl (lv_at hl 1 rfl) ?_
              refine lv_iload_n hx hb dX12_readRest_168 rfl (lv_at hl 2 rfl) ?_
              refine q_goV (q_runV (As := [.int p1]) (rest := []) E hC0 hS0 (m_X12_readTest l X Γ H0 hC0 h0 g0 p1 (a1 := a1) e1 ca gca uc (by omega) (by omega)) cw_X12_readTest cl_RX12_280 g0 ⟨rfl, rfl⟩ rfl hl.1 rfl (Nat.zero_le _) (by decide) dX12_readRest_169) hS0 (fun H37 locs37 hr37 hC37 hS37 => ?_)
              obtain ⟨hp37, hr37⟩ := hr37
              have hKp37 := hKp0.tr (hp37.mono rfl)
              obtain ⟨f37_0, f37_1, f37_2, f37_3⟩ := hr37
              refine lv_goto (tgt := 196) hx hb dX12_readRest_172 rfl ?_
              have hz8 := tk_nn (sI H37 h0 (X.1.2 11 14)).toInt
              exact ret H37 locs37 _ _ dX12_readRest_196 ⟨hKp37, ⟨by omega, by omega, by omega⟩⟩ hC37 hS37
          · refine lv_aload_n hx hb dX12_readRest_153 rfl (lv_at hl 1 rfl) ?_
            refine lv_iload_n hx hb dX12_readRest_154 rfl (lv_at hl 2 rfl) ?_
            refine q_goV (q_runV (As := [.int p1]) (rest := []) E hC0 hS0 (m_X12_readSteal l X Γ H0 hC0 h0 g0 p1 (a1 := a1) e1 ca gca uc (by omega) (by omega)) cw_X12_readSteal cl_RX12_277 g0 ⟨rfl, rfl⟩ rfl hl.1 rfl (Nat.zero_le _) (by decide) dX12_readRest_155) hS0 (fun H38 locs38 hr38 hC38 hS38 => ?_)
            obtain ⟨hp38, hr38⟩ := hr38
            have hKp38 := hKp0.tr (hp38.mono rfl)
            obtain ⟨f38_0, f38_1, f38_2, f38_3⟩ := hr38
            refine lv_goto (tgt := 196) hx hb dX12_readRest_158 rfl ?_
            have hz8 := tk_nn (sI H38 h0 (X.1.2 11 14)).toInt
            exact ret H38 locs38 _ _ dX12_readRest_196 ⟨hKp38, ⟨by omega, by omega, by omega⟩⟩ hC38 hS38
        · refine lv_aload_n hx hb dX12_readRest_132 rfl (lv_at hl 1 rfl) ?_
          refine q_getC E hC0 g0 fa_RX12_35 uc dX12_readRest_133 ?_
          refine lv_iload_n hx hb dX12_readRest_136 rfl (lv_at hl 2 rfl) ?_
          refine lv_iconst (v := 1) hx hb dX12_readRest_137 rfl ?_
          refine lv_iadd hx hb dX12_readRest_138 (lv_topi (fun v39 ev39 => ?_))
          have ev39i : v39.toInt = (a1 + 1) := i_add ev39 e1 (by decide) (by omega) (by omega)
          refine lv_aload_n hx hb dX12_readRest_139 rfl (lv_at hl 1 rfl) ?_
          refine lv_iconst (v := 1) hx hb dX12_readRest_140 rfl ?_
          refine q_goI (q_runV (As := [.int 1]) (rest := [.int v39, .ref ca]) E hC0 hS0 (m_X12_readPlace l X Γ H0 hC0 h0 g0 1 (a1 := 1) (by decide) ca gca uc) cw_X12_readPlace cl_RX12_273 g0 ⟨rfl, rfl⟩ rfl hl.1 rfl (show _ ≤ _ from by simp [Value.category]) (by decide) dX12_readRest_141) hS0 (fun v40 H40 locs40 hr40 hC40 hS40 => ?_)
          obtain ⟨hp40, hr40⟩ := hr40
          have hKp40 := hKp0.tr (hp40.mono rfl)
          obtain ⟨f40_0, f40_1, f40_2, f40_3, f40_4, f40_5⟩ := hr40
          refine q_cast E hC40 hS40 gca (a := (a1 + 1)) ev39i (by omega) (by omega) (cs_n244 (a := (a1 + 1)) (by omega) (by omega)) dX12_readRest_144 (fun H41 locs41 hC41 hS41 U41 => ?_)
          have hKp41 := Kp.upD gca rfl rfl (fun _ => ⟨fun _ => nd4 (by omega) (by omega), fun _ => by unfold dpu; omega, fun _ => by unfold dpn; omega⟩) U41 hKp40
          have m42 : (sI H41 h0 (X.1.2 11 12)).toInt = (sI H40 h0 (X.1.2 11 12)).toInt := congrArg Int32.toInt (up_nI U41 (ne_k g0 gca (by decide)))
          have m43 : (sI H41 h0 (X.1.2 11 14)).toInt = (sI H40 h0 (X.1.2 11 14)).toInt := congrArg Int32.toInt (up_nI U41 (ne_k g0 gca (by decide)))
          have m44 := congrArg tk m43
          have m45 : (sI H41 h0 (X.1.2 11 16)).toInt = (sI H40 h0 (X.1.2 11 16)).toInt := congrArg Int32.toInt (up_nI U41 (ne_k g0 gca (by decide)))
          have e46 := up_I U41
          refine lv_goto (tgt := 196) hx hb dX12_readRest_145 rfl ?_
          have hz8 := tk_nn (sI H41 h0 (X.1.2 11 14)).toInt
          exact ret H41 locs41 _ _ dX12_readRest_196 ⟨hKp41, ⟨by omega, by omega, by omega⟩⟩ hC41 hS41
      · refine lv_aload_n hx hb dX12_readRest_88 rfl (lv_at hl 1 rfl) ?_
        refine q_getC E hC0 g0 fa_RX12_35 uc dX12_readRest_89 ?_
        refine lv_iload_n hx hb dX12_readRest_92 rfl (lv_at hl 2 rfl) ?_
        refine lv_iconst (v := 1) hx hb dX12_readRest_93 rfl ?_
        refine lv_iadd hx hb dX12_readRest_94 (lv_topi (fun v47 ev47 => ?_))
        have ev47i : v47.toInt = (a1 + 1) := i_add ev47 e1 (by decide) (by omega) (by omega)
        refine lv_aload_n hx hb dX12_readRest_95 rfl (lv_at hl 1 rfl) ?_
        refine lv_iconst (v := 1) hx hb dX12_readRest_96 rfl ?_
        refine q_goI (q_runV (As := [.int 1]) (rest := [.int v47, .ref ca]) E hC0 hS0 (m_X12_readPlace l X Γ H0 hC0 h0 g0 1 (a1 := 1) (by decide) ca gca uc) cw_X12_readPlace cl_RX12_273 g0 ⟨rfl, rfl⟩ rfl hl.1 rfl (show _ ≤ _ from by simp [Value.category]) (by decide) dX12_readRest_97) hS0 (fun v48 H48 locs48 hr48 hC48 hS48 => ?_)
        obtain ⟨hp48, hr48⟩ := hr48
        have hKp48 := hKp0.tr (hp48.mono rfl)
        obtain ⟨f48_0, f48_1, f48_2, f48_3, f48_4, f48_5⟩ := hr48
        refine q_cast E hC48 hS48 gca (a := (a1 + 1)) ev47i (by omega) (by omega) (cs_n244 (a := (a1 + 1)) (by omega) (by omega)) dX12_readRest_100 (fun H49 locs49 hC49 hS49 U49 => ?_)
        have hKp49 := Kp.upD gca rfl rfl (fun _ => ⟨fun _ => nd4 (by omega) (by omega), fun _ => by unfold dpu; omega, fun _ => by unfold dpn; omega⟩) U49 hKp48
        have m50 : (sI H49 h0 (X.1.2 11 12)).toInt = (sI H48 h0 (X.1.2 11 12)).toInt := congrArg Int32.toInt (up_nI U49 (ne_k g0 gca (by decide)))
        have m51 : (sI H49 h0 (X.1.2 11 14)).toInt = (sI H48 h0 (X.1.2 11 14)).toInt := congrArg Int32.toInt (up_nI U49 (ne_k g0 gca (by decide)))
        have m52 := congrArg tk m51
        have m53 : (sI H49 h0 (X.1.2 11 16)).toInt = (sI H48 h0 (X.1.2 11 16)).toInt := congrArg Int32.toInt (up_nI U49 (ne_k g0 gca (by decide)))
        have e54 := up_I U49
        refine lv_aload_n hx hb dX12_readRest_101 rfl (lv_at hl 1 rfl) ?_
        refine lv_aload_n hx hb dX12_readRest_102 rfl (lv_at hl 1 rfl) ?_
        refine q_goIp (q_runV (As := []) (rest := [.ref h0]) E hC49 hS49 (m_X12_isBy l X Γ H49 hC49 h0 g0 ca gca uc) cw_X12_isBy cl_RX12_190 g0 ⟨rfl, rfl⟩ rfl hl.1 rfl (show _ ≤ _ from by simp [Value.category]) (by decide) dX12_readRest_103) hS49 (fun v55 locs55 hr55 hS55 => ?_)
        have b55 : v55.toInt = 0 ∨ v55.toInt = 1 := hr55.imp (fun h => by rw [h]; decide) (fun h => by rw [h]; decide)
        refine q_goV (q_runV (As := [.int v55]) (rest := []) E hC49 hS55 (m_X12_must l X Γ H49 hC49 h0 g0 v55 (a1 := v55.toInt) rfl ca gca uc (by omega) (by omega)) cw_X12_must cl_RX12_244 g0 ⟨rfl, rfl⟩ rfl hl.1 rfl (Nat.zero_le _) (by decide) dX12_readRest_106) hS55 (fun H56 locs56 hr56 hC56 hS56 => ?_)
        obtain ⟨hp56, hr56⟩ := hr56
        have hKp56 := hKp49.tr (hp56.mono rfl)
        obtain ⟨f56_0, f56_1, f56_2, f56_3, f56_4⟩ := hr56
        refine lv_aload_n hx hb dX12_readRest_109 rfl (lv_at hl 1 rfl) ?_
        refine q_getC E hC56 g0 fa_RX12_35 uc dX12_readRest_110 ?_
        refine lv_iload_n hx hb dX12_readRest_113 rfl (lv_at hl 2 rfl) ?_
        refine lv_iconst (v := 2) hx hb dX12_readRest_114 rfl ?_
        refine lv_iadd hx hb dX12_readRest_115 (lv_topi (fun v57 ev57 => ?_))
        have ev57i : v57.toInt = (a1 + 2) := i_add ev57 e1 (by decide) (by omega) (by omega)
        refine lv_aload_n hx hb dX12_readRest_116 rfl (lv_at hl 1 rfl) ?_
        refine lv_iconst (v := 1) hx hb dX12_readRest_117 rfl ?_
        refine lv_bipush (v := 40) hx hb dX12_readRest_118 rfl ?_
        refine q_goI (q_runV (As := [.int 1, .int 40]) (rest := [.int v57, .ref ca]) E hC56 hS56 (m_X12_count l X Γ H56 hC56 h0 g0 1 (a1 := 1) (by decide) 40 (a2 := 40) (by decide) ca gca uc (by omega) (by omega) (by omega) (by omega)) cw_X12_count cl_RX12_248 g0 ⟨rfl, rfl⟩ rfl hl.1 rfl (show _ ≤ _ from by simp [Value.category]) (by decide) dX12_readRest_120) hS56 (fun v58 H58 locs58 hr58 hC58 hS58 => ?_)
        obtain ⟨hp58, hr58⟩ := hr58
        have hKp58 := hKp56.tr (hp58.mono rfl)
        obtain ⟨f58_0, f58_1, f58_2, f58_3, f58_4, f58_5, f58_6, f58_7⟩ := hr58
        refine q_cast E hC58 hS58 gca (a := (a1 + 2)) ev57i (by omega) (by omega) (cs_n244 (a := (a1 + 2)) (by omega) (by omega)) dX12_readRest_123 (fun H59 locs59 hC59 hS59 U59 => ?_)
        have hKp59 := Kp.upD gca rfl rfl (fun _ => ⟨fun _ => nd4 (by omega) (by omega), fun _ => by unfold dpu; omega, fun _ => by unfold dpn; omega⟩) U59 hKp58
        have m60 : (sI H59 h0 (X.1.2 11 12)).toInt = (sI H58 h0 (X.1.2 11 12)).toInt := congrArg Int32.toInt (up_nI U59 (ne_k g0 gca (by decide)))
        have m61 : (sI H59 h0 (X.1.2 11 14)).toInt = (sI H58 h0 (X.1.2 11 14)).toInt := congrArg Int32.toInt (up_nI U59 (ne_k g0 gca (by decide)))
        have m62 := congrArg tk m61
        have m63 : (sI H59 h0 (X.1.2 11 16)).toInt = (sI H58 h0 (X.1.2 11 16)).toInt := congrArg Int32.toInt (up_nI U59 (ne_k g0 gca (by decide)))
        have e64 := up_I U59
        refine lv_goto (tgt := 196) hx hb dX12_readRest_124 rfl ?_
        have hz8 := tk_nn (sI H59 h0 (X.1.2 11 14)).toInt
        exact ret H59 locs59 _ _ dX12_readRest_196 ⟨hKp59, ⟨by omega, by omega, by omega⟩⟩ hC59 hS59
    · refine lv_aload_n hx hb dX12_readRest_35 rfl (lv_at hl 1 rfl) ?_
      refine q_getC E hC0 g0 fa_RX12_35 uc dX12_readRest_36 ?_
      refine lv_iload_n hx hb dX12_readRest_39 rfl (lv_at hl 2 rfl) ?_
      refine lv_iconst (v := 1) hx hb dX12_readRest_40 rfl ?_
      refine lv_iadd hx hb dX12_readRest_41 (lv_topi (fun v65 ev65 => ?_))
      have ev65i : v65.toInt = (a1 + 1) := i_add ev65 e1 (by decide) (by omega) (by omega)
      refine lv_aload_n hx hb dX12_readRest_42 rfl (lv_at hl 1 rfl) ?_
      refine lv_iconst (v := 0) hx hb dX12_readRest_43 rfl ?_
      refine lv_bipush (v := 40) hx hb dX12_readRest_44 rfl ?_
      refine q_goI (q_runV (As := [.int 0, .int 40]) (rest := [.int v65, .ref ca]) E hC0 hS0 (m_X12_count l X Γ H0 hC0 h0 g0 0 (a1 := 0) (by decide) 40 (a2 := 40) (by decide) ca gca uc (by omega) (by omega) (by omega) (by omega)) cw_X12_count cl_RX12_248 g0 ⟨rfl, rfl⟩ rfl hl.1 rfl (show _ ≤ _ from by simp [Value.category]) (by decide) dX12_readRest_46) hS0 (fun v66 H66 locs66 hr66 hC66 hS66 => ?_)
      obtain ⟨hp66, hr66⟩ := hr66
      have hKp66 := hKp0.tr (hp66.mono rfl)
      obtain ⟨f66_0, f66_1, f66_2, f66_3, f66_4, f66_5, f66_6, f66_7⟩ := hr66
      refine q_cast E hC66 hS66 gca (a := (a1 + 1)) ev65i (by omega) (by omega) (cs_n244 (a := (a1 + 1)) (by omega) (by omega)) dX12_readRest_49 (fun H67 locs67 hC67 hS67 U67 => ?_)
      have hKp67 := Kp.upD gca rfl rfl (fun _ => ⟨fun _ => nd4 (by omega) (by omega), fun _ => by unfold dpu; omega, fun _ => by unfold dpn; omega⟩) U67 hKp66
      have m68 : (sI H67 h0 (X.1.2 11 12)).toInt = (sI H66 h0 (X.1.2 11 12)).toInt := congrArg Int32.toInt (up_nI U67 (ne_k g0 gca (by decide)))
      have m69 : (sI H67 h0 (X.1.2 11 14)).toInt = (sI H66 h0 (X.1.2 11 14)).toInt := congrArg Int32.toInt (up_nI U67 (ne_k g0 gca (by decide)))
      have m70 := congrArg tk m69
      have m71 : (sI H67 h0 (X.1.2 11 16)).toInt = (sI H66 h0 (X.1.2 11 16)).toInt := congrArg Int32.toInt (up_nI U67 (ne_k g0 gca (by decide)))
      have e72 := up_I U67
      refine lv_aload_n hx hb dX12_readRest_50 rfl (lv_at hl 1 rfl) ?_
      refine lv_aload_n hx hb dX12_readRest_51 rfl (lv_at hl 1 rfl) ?_
      refine q_goIp (q_runV (As := []) (rest := [.ref h0]) E hC67 hS67 (m_X12_isTo l X Γ H67 hC67 h0 g0 ca gca uc) cw_X12_isTo cl_RX12_202 g0 ⟨rfl, rfl⟩ rfl hl.1 rfl (show _ ≤ _ from by simp [Value.category]) (by decide) dX12_readRest_52) hS67 (fun v73 locs73 hr73 hS73 => ?_)
      have b73 : v73.toInt = 0 ∨ v73.toInt = 1 := hr73.imp (fun h => by rw [h]; decide) (fun h => by rw [h]; decide)
      refine q_goV (q_runV (As := [.int v73]) (rest := []) E hC67 hS73 (m_X12_must l X Γ H67 hC67 h0 g0 v73 (a1 := v73.toInt) rfl ca gca uc (by omega) (by omega)) cw_X12_must cl_RX12_244 g0 ⟨rfl, rfl⟩ rfl hl.1 rfl (Nat.zero_le _) (by decide) dX12_readRest_55) hS73 (fun H74 locs74 hr74 hC74 hS74 => ?_)
      obtain ⟨hp74, hr74⟩ := hr74
      have hKp74 := hKp67.tr (hp74.mono rfl)
      obtain ⟨f74_0, f74_1, f74_2, f74_3, f74_4⟩ := hr74
      refine lv_aload_n hx hb dX12_readRest_58 rfl (lv_at hl 1 rfl) ?_
      refine q_getC E hC74 g0 fa_RX12_35 uc dX12_readRest_59 ?_
      refine lv_iload_n hx hb dX12_readRest_62 rfl (lv_at hl 2 rfl) ?_
      refine lv_iconst (v := 2) hx hb dX12_readRest_63 rfl ?_
      refine lv_iadd hx hb dX12_readRest_64 (lv_topi (fun v75 ev75 => ?_))
      have ev75i : v75.toInt = (a1 + 2) := i_add ev75 e1 (by decide) (by omega) (by omega)
      refine lv_aload_n hx hb dX12_readRest_65 rfl (lv_at hl 1 rfl) ?_
      refine lv_aload_n hx hb dX12_readRest_66 rfl (lv_at hl 1 rfl) ?_
      refine q_getC E hC74 g0 fa_RX12_35 uc dX12_readRest_67 ?_
      refine lv_iload_n hx hb dX12_readRest_70 rfl (lv_at hl 2 rfl) ?_
      refine lv_iconst (v := 1) hx hb dX12_readRest_71 rfl ?_
      refine lv_iadd hx hb dX12_readRest_72 (lv_topi (fun v76 ev76 => ?_))
      have ev76i : v76.toInt = (a1 + 1) := i_add ev76 e1 (by decide) (by omega) (by omega)
      have e78 := (kp_c (j := ((a1 + 1) : Int).toNat) hp74 gca rfl).trans e72
      refine q_cald E hC74 (lo := -2147483648) (hi := 2147483647) gca (a := (a1 + 1)) ev76i (by omega) (by omega) (cr_n244 (by omega) (by omega)) dX12_readRest_73 (fun v77 ev77 _ _ => ?_)
      have qv77 := e78.symm.trans ev77; subst qv77
      refine lv_bipush (v := 40) hx hb dX12_readRest_74 rfl ?_
      refine q_goI (q_runV (As := [.int v66, .int 40]) (rest := [.int v75, .ref ca]) E hC74 hS74 (m_X12_count l X Γ H74 hC74 h0 g0 v66 (a1 := v66.toInt) rfl 40 (a2 := 40) (by decide) ca gca uc (by omega) (by omega) (by omega) (by omega)) cw_X12_count cl_RX12_248 g0 ⟨rfl, rfl⟩ rfl hl.1 rfl (show _ ≤ _ from by simp [Value.category]) (by decide) dX12_readRest_76) hS74 (fun v79 H79 locs79 hr79 hC79 hS79 => ?_)
      obtain ⟨hp79, hr79⟩ := hr79
      have hKp79 := hKp74.tr (hp79.mono rfl)
      obtain ⟨f79_0, f79_1, f79_2, f79_3, f79_4, f79_5, f79_6, f79_7⟩ := hr79
      refine q_cast E hC79 hS79 gca (a := (a1 + 2)) ev75i (by omega) (by omega) (cs_n244 (a := (a1 + 2)) (by omega) (by omega)) dX12_readRest_79 (fun H80 locs80 hC80 hS80 U80 => ?_)
      have hKp80 := Kp.upD gca rfl rfl (fun _ => ⟨fun _ => nd4 (by omega) (by omega), fun _ => by unfold dpu; omega, fun _ => by unfold dpn; omega⟩) U80 hKp79
      have m81 : (sI H80 h0 (X.1.2 11 12)).toInt = (sI H79 h0 (X.1.2 11 12)).toInt := congrArg Int32.toInt (up_nI U80 (ne_k g0 gca (by decide)))
      have m82 : (sI H80 h0 (X.1.2 11 14)).toInt = (sI H79 h0 (X.1.2 11 14)).toInt := congrArg Int32.toInt (up_nI U80 (ne_k g0 gca (by decide)))
      have m83 := congrArg tk m82
      have m84 : (sI H80 h0 (X.1.2 11 16)).toInt = (sI H79 h0 (X.1.2 11 16)).toInt := congrArg Int32.toInt (up_nI U80 (ne_k g0 gca (by decide)))
      have e85 := up_I U80
      refine lv_goto (tgt := 196) hx hb dX12_readRest_80 rfl ?_
      have hz8 := tk_nn (sI H80 h0 (X.1.2 11 14)).toInt
      exact ret H80 locs80 _ _ dX12_readRest_196 ⟨hKp80, ⟨by omega, by omega, by omega⟩⟩ hC80 hS80
  · refine lv_aload_n hx hb dX12_readRest_12 rfl (lv_at hl 1 rfl) ?_
    refine q_getC E hC0 g0 fa_RX12_35 uc dX12_readRest_13 ?_
    refine lv_iload_n hx hb dX12_readRest_16 rfl (lv_at hl 2 rfl) ?_
    refine lv_iconst (v := 1) hx hb dX12_readRest_17 rfl ?_
    refine lv_iadd hx hb dX12_readRest_18 (lv_topi (fun v86 ev86 => ?_))
    have ev86i : v86.toInt = (a1 + 1) := i_add ev86 e1 (by decide) (by omega) (by omega)
    refine lv_aload_n hx hb dX12_readRest_19 rfl (lv_at hl 1 rfl) ?_
    refine lv_iconst (v := 0) hx hb dX12_readRest_20 rfl ?_
    refine lv_bipush (v := 40) hx hb dX12_readRest_21 rfl ?_
    refine q_goI (q_runV (As := [.int 0, .int 40]) (rest := [.int v86, .ref ca]) E hC0 hS0 (m_X12_count l X Γ H0 hC0 h0 g0 0 (a1 := 0) (by decide) 40 (a2 := 40) (by decide) ca gca uc (by omega) (by omega) (by omega) (by omega)) cw_X12_count cl_RX12_248 g0 ⟨rfl, rfl⟩ rfl hl.1 rfl (show _ ≤ _ from by simp [Value.category]) (by decide) dX12_readRest_23) hS0 (fun v87 H87 locs87 hr87 hC87 hS87 => ?_)
    obtain ⟨hp87, hr87⟩ := hr87
    have hKp87 := hKp0.tr (hp87.mono rfl)
    obtain ⟨f87_0, f87_1, f87_2, f87_3, f87_4, f87_5, f87_6, f87_7⟩ := hr87
    refine q_cast E hC87 hS87 gca (a := (a1 + 1)) ev86i (by omega) (by omega) (cs_n244 (a := (a1 + 1)) (by omega) (by omega)) dX12_readRest_26 (fun H88 locs88 hC88 hS88 U88 => ?_)
    have hKp88 := Kp.upD gca rfl rfl (fun _ => ⟨fun _ => nd4 (by omega) (by omega), fun _ => by unfold dpu; omega, fun _ => by unfold dpn; omega⟩) U88 hKp87
    have m89 : (sI H88 h0 (X.1.2 11 12)).toInt = (sI H87 h0 (X.1.2 11 12)).toInt := congrArg Int32.toInt (up_nI U88 (ne_k g0 gca (by decide)))
    have m90 : (sI H88 h0 (X.1.2 11 14)).toInt = (sI H87 h0 (X.1.2 11 14)).toInt := congrArg Int32.toInt (up_nI U88 (ne_k g0 gca (by decide)))
    have m91 := congrArg tk m90
    have m92 : (sI H88 h0 (X.1.2 11 16)).toInt = (sI H87 h0 (X.1.2 11 16)).toInt := congrArg Int32.toInt (up_nI U88 (ne_k g0 gca (by decide)))
    have e93 := up_I U88
    refine lv_goto (tgt := 196) hx hb dX12_readRest_27 rfl ?_
    have hz8 := tk_nn (sI H88 h0 (X.1.2 11 14)).toInt
    exact ret H88 locs88 _ _ dX12_readRest_196 ⟨hKp88, ⟨by omega, by omega, by omega⟩⟩ hC88 hS88
set_option maxRecDepth 100000 in
set_option maxHeartbeats 4000000 in
theorem m_X12_allOf (l : Launch) (X : xW) (Γ : Nat → Option Nat) (H0 : Heap) (hC0 : Conf X Γ H0) (h0 : Nat) (g0 : Γ h0 = some 11) (p1 : Int32) {a1 : Int} (e1 : p1.toInt = a1) (ca : Nat) (gca : Γ ca = some 64) (uc : ∀ a, Γ a = some 64 → a = ca) (r0 : 0 ≤ a1) (r1 : a1 ≤ 2000) : Ctr l X Γ yX12_allOf cX12_allOf 4 (some .int) 0 [.ref h0, .int p1] H0 (QI X Γ (fun v H1 => H1 = H0 ∧ (True))) := by
  refine q_enterI (own := "SnowFortsModel") (by decide) rfl (Nat.le_of_ble_eq_true rfl) ?_
  intro p e s m args below meth c ls Qz E hl ret hS0
  have hx := E.1; have hb := E.2.1
  have hl : lv_has ls 4 [(0, .ref h0), (1, .int p1)] := hl
  refine lv_iconst (v := 0) hx hb dX12_allOf_0 rfl ?_
  refine lv_istore_n hx hb dX12_allOf_1 rfl hl (by decide) rfl (fun ls hl => ?_)
  have hl : lv_has ls 4 [(2, .int 0), (0, .ref h0), (1, .int p1)] := hl
  refine lv_iconst (v := 0) hx hb dX12_allOf_2 rfl ?_
  refine lv_istore_n hx hb dX12_allOf_3 rfl hl (by decide) rfl (fun ls hl => ?_)
  have hl : lv_has ls 4 [(3, .int 0), (2, .int 0), (0, .ref h0), (1, .int p1)] := hl
  have L4 : ∀ (n23 : Nat) (locs23 : List Loc) (v21 : Int32) (z21 : Int) (v22 : Int32) (z22 : Int) (ls : Array Slot), (36 - z21).toNat < n23 → v21.toInt = z21 → v22.toInt = z22 → z21 ≤ 36 → 0 ≤ z21 → va_S (AΓ Γ) H0 H0 locs23 → lv_has ls 4 [(3, .int v21), (2, .int v22), (0, .ref h0), (1, .int p1)] → W p l e (rmL 0) s m args below meth c H0 locs23 0 0 Qz (F0 m 4 ls []) := by
    intro n23
    induction n23 with
    | zero => intro locs23 v21 z21 v22 z22 ls hm23 ev21 ev22 iv23_0 iv23_1 hS23 hl; exact absurd hm23 (Nat.not_lt_zero _)
    | succ n23 ih23 =>
      intro locs23 v21 z21 v22 z22 ls hm23 ev21 ev22 iv23_0 iv23_1 hS23 hl
      refine lv_iload_n hx hb dX12_allOf_4 rfl (lv_at hl 0 rfl) ?_
      refine lv_bipush (v := 36) hx hb dX12_allOf_5 rfl ?_
      refine q_icmp_ge hx hb (a := z21) (b := 36) ev21 (by decide) (tgt := 27) dX12_allOf_7 rfl (fun c24 => ?_) (fun c24 => ?_)
      · refine lv_iload_n hx hb dX12_allOf_27 rfl (lv_at hl 1 rfl) ?_
        exact ret v22 H0 locs23 _ _ dX12_allOf_28 ⟨rfl, trivial⟩ hC0 hS23
      · refine lv_iload_n hx hb dX12_allOf_10 rfl (lv_at hl 1 rfl) ?_
        refine lv_aload_n hx hb dX12_allOf_11 rfl (lv_at hl 2 rfl) ?_
        refine q_getC E hC0 g0 fa_RX12_35 uc dX12_allOf_12 ?_
        refine lv_iload_n hx hb dX12_allOf_15 rfl (lv_at hl 3 rfl) ?_
        refine lv_iload_n hx hb dX12_allOf_16 rfl (lv_at hl 0 rfl) ?_
        refine lv_iadd hx hb dX12_allOf_17 (lv_topi (fun v25 ev25 => ?_))
        have ev25i : v25.toInt = (a1 + z21) := i_add ev25 e1 ev21 (by omega) (by omega)
        refine q_cald E hC0 (lo := -2147483648) (hi := 2147483647) gca (a := (a1 + z21)) ev25i (by omega) (by omega) (fun _ h => cT_any h) dX12_allOf_18 (fun v26 ev26 _ _ => ?_)
        refine lv_iadd hx hb dX12_allOf_19 (lv_topi (fun v27 ev27 => ?_))
        refine lv_istore_n hx hb dX12_allOf_20 rfl hl (by decide) rfl (fun ls hl => ?_)
        have hl : lv_has ls 4 [(2, .int v27), (3, .int v21), (0, .ref h0), (1, .int p1)] := hl
        obtain ⟨v28, ev28⟩ : ∃ z, z = v21 + Int32.ofInt 1 := ⟨_, rfl⟩
        have ev28i : v28.toInt = (z21 + 1) := i_add ev28 ev21 (by decide) (by omega) (by omega)
        refine lv_iinc hx hb dX12_allOf_21 hl (k := 1) rfl ev28.symm (by decide) rfl (fun ls hl => ?_)
        have hl : lv_has ls 4 [(3, .int v28), (2, .int v27), (0, .ref h0), (1, .int p1)] := hl
        refine lv_goto (tgt := 4) hx hb dX12_allOf_24 rfl ?_
        exact ih23 locs23 v28 ((z21 + 1)) v27 (v27.toInt) ls (by omega) ev28i rfl (by omega) (by omega) hS23 hl
  exact L4 _ [] 0 0 0 0 ls (Nat.lt_succ_self _) (by decide) (by decide) (by omega) (by omega) hS0 hl
set_option maxRecDepth 100000 in
set_option maxHeartbeats 4000000 in
theorem m_X12_refuse (l : Launch) (X : xW) (Γ : Nat → Option Nat) (H0 : Heap) (hC0 : Conf X Γ H0) (h0 : Nat) (g0 : Γ h0 = some 11) (p1 : Int32) {a1 : Int} (e1 : p1.toInt = a1) (ca : Nat) (gca : Γ ca = some 64) (uc : ∀ a, Γ a = some 64 → a = ca) : Ctr l X Γ yX12_refuse cX12_refuse 2 (some .int) 0 [.ref h0, .int p1] H0 (QI X Γ (fun v H1 => Kp X Γ [1, 6, 7, 8, 9, 10, 11, 12, 14, 15, 16, 17] H0 H1 ∧ (True))) := by
  refine q_enterI (own := "SnowFortsModel") (by decide) rfl (Nat.le_of_ble_eq_true rfl) ?_
  intro p e s m args below meth c ls Qz E hl ret hS0
  have hx := E.1; have hb := E.2.1
  have hKp0 : Kp X Γ [1, 6, 7, 8, 9, 10, 11, 12, 14, 15, 16, 17] H0 H0 := Kp.rf
  have hl : lv_has ls 2 [(0, .ref h0), (1, .int p1)] := hl
  refine lv_aload_n hx hb dX12_refuse_0 rfl (lv_at hl 0 rfl) ?_
  refine lv_iload_n hx hb dX12_refuse_1 rfl (lv_at hl 1 rfl) ?_
  refine q_put E hC0 hS0 g0 fp_RX12_72 tv_F rfl rfl dX12_refuse_2 (fun H21 locs21 hC21 hS21 U21 => ?_)
  have hKp21 := Kp.upO E g0 fp_RX12_72 rfl U21 hKp0
  have e22 := up_I U21
  refine lv_iconst (v := (-1)) hx hb dX12_refuse_5 rfl ?_
  exact ret (-1) H21 locs21 _ _ dX12_refuse_6 ⟨hKp21, trivial⟩ hC21 hS21
set_option maxRecDepth 100000 in
set_option maxHeartbeats 4000000 in
theorem m_X12_many (l : Launch) (X : xW) (Γ : Nat → Option Nat) (H0 : Heap) (hC0 : Conf X Γ H0) (h0 : Nat) (g0 : Γ h0 = some 11) (p1 : Int32) {a1 : Int} (e1 : p1.toInt = a1) (ca : Nat) (gca : Γ ca = some 64) (uc : ∀ a, Γ a = some 64 → a = ca) : Ctr l X Γ yX12_many cX12_many 2 (some .int) 1 [.ref h0, .int p1] H0 (QI X Γ (fun v H1 => Kp X Γ [1, 6, 7, 8, 9, 10, 11, 12, 14, 15, 16, 17] H0 H1 ∧ (True))) := by
  refine q_enterI (own := "SnowFortsModel") (by decide) rfl (Nat.le_of_ble_eq_true rfl) ?_
  intro p e s m args below meth c ls Qz E hl ret hS0
  have hx := E.1; have hb := E.2.1
  have hKp0 : Kp X Γ [1, 6, 7, 8, 9, 10, 11, 12, 14, 15, 16, 17] H0 H0 := Kp.rf
  have hl : lv_has ls 2 [(0, .ref h0), (1, .int p1)] := hl
  refine lv_aload_n hx hb dX12_many_0 rfl (lv_at hl 0 rfl) ?_
  refine lv_iconst (v := 0) hx hb dX12_many_1 rfl ?_
  refine q_put E hC0 hS0 g0 fp_RX12_69 tv_F rfl rfl dX12_many_2 (fun H21 locs21 hC21 hS21 U21 => ?_)
  have hKp21 := Kp.upO E g0 fp_RX12_69 rfl U21 hKp0
  have e22 := up_I U21
  refine lv_aload_n hx hb dX12_many_5 rfl (lv_at hl 0 rfl) ?_
  refine lv_iconst (v := 0) hx hb dX12_many_6 rfl ?_
  refine q_put E hC21 hS21 g0 fp_RX12_72 tv_F rfl rfl dX12_many_7 (fun H23 locs23 hC23 hS23 U23 => ?_)
  have hKp23 := Kp.upO E g0 fp_RX12_72 rfl U23 hKp21
  have e24 := up_I U23
  refine lv_iload_n hx hb dX12_many_10 rfl (lv_at hl 1 rfl) ?_
  by_cases c25_0 : a1 = 0
  · have c25_x := (show p1.toInt = a1 from e1).trans c25_0
    refine lv_tableIn hx hb dX12_many_11 (by rw [c25_x]; decide) (by rw [c25_x]; decide) (off := 53) (by rw [c25_x]; rfl) (tgt := 64) rfl ?_
    refine lv_aload_n hx hb dX12_many_64 rfl (lv_at hl 0 rfl) ?_
    refine q_getC E hC23 g0 fa_RX12_35 uc dX12_many_65 ?_
    refine lv_iconst (v := 0) hx hb dX12_many_68 rfl ?_
    refine q_cald E hC23 (lo := 0) (hi := 6) gca (a := 0) (show (0 : Int32).toInt = 0 from by decide) (by omega) (by omega) (cr_c0 (by omega) (by omega)) dX12_many_69 (fun v26 ev26 lv26 uv26 => ?_)
    exact ret v26 H23 locs23 _ _ dX12_many_70 ⟨hKp23, trivial⟩ hC23 hS23
  by_cases c25_1 : a1 = 1
  · have c25_x := (show p1.toInt = a1 from e1).trans c25_1
    refine lv_tableIn hx hb dX12_many_11 (by rw [c25_x]; decide) (by rw [c25_x]; decide) (off := 60) (by rw [c25_x]; rfl) (tgt := 71) rfl ?_
    refine lv_aload_n hx hb dX12_many_71 rfl (lv_at hl 0 rfl) ?_
    refine q_getC E hC23 g0 fa_RX12_35 uc dX12_many_72 ?_
    refine lv_iconst (v := 1) hx hb dX12_many_75 rfl ?_
    refine q_cald E hC23 (lo := 0) (hi := 6) gca (a := 1) (show (1 : Int32).toInt = 1 from by decide) (by omega) (by omega) (cr_c0 (by omega) (by omega)) dX12_many_76 (fun v27 ev27 lv27 uv27 => ?_)
    exact ret v27 H23 locs23 _ _ dX12_many_77 ⟨hKp23, trivial⟩ hC23 hS23
  by_cases c25_2 : a1 = 2
  · have c25_x := (show p1.toInt = a1 from e1).trans c25_2
    refine lv_tableIn hx hb dX12_many_11 (by rw [c25_x]; decide) (by rw [c25_x]; decide) (off := 67) (by rw [c25_x]; rfl) (tgt := 78) rfl ?_
    refine lv_aload_n hx hb dX12_many_78 rfl (lv_at hl 0 rfl) ?_
    refine q_getC E hC23 g0 fa_RX12_35 uc dX12_many_79 ?_
    refine lv_iconst (v := 2) hx hb dX12_many_82 rfl ?_
    refine q_cald E hC23 (lo := 0) (hi := 2) gca (a := 2) (show (2 : Int32).toInt = 2 from by decide) (by omega) (by omega) (cr_c2 (by omega) (by omega)) dX12_many_83 (fun v28 ev28 lv28 uv28 => ?_)
    exact ret v28 H23 locs23 _ _ dX12_many_84 ⟨hKp23, trivial⟩ hC23 hS23
  by_cases c25_3 : a1 = 3
  · have c25_x := (show p1.toInt = a1 from e1).trans c25_3
    refine lv_tableIn hx hb dX12_many_11 (by rw [c25_x]; decide) (by rw [c25_x]; decide) (off := 74) (by rw [c25_x]; rfl) (tgt := 85) rfl ?_
    refine lv_aload_n hx hb dX12_many_85 rfl (lv_at hl 0 rfl) ?_
    refine q_getC E hC23 g0 fa_RX12_35 uc dX12_many_86 ?_
    refine lv_iconst (v := 3) hx hb dX12_many_89 rfl ?_
    refine q_cald E hC23 (lo := -2147483648) (hi := 2147483647) gca (a := 3) (show (3 : Int32).toInt = 3 from by decide) (by omega) (by omega) (cr_c3 (by omega) (by omega)) dX12_many_90 (fun v29 ev29 _ _ => ?_)
    exact ret v29 H23 locs23 _ _ dX12_many_91 ⟨hKp23, trivial⟩ hC23 hS23
  by_cases c25_4 : a1 = 4
  · have c25_x := (show p1.toInt = a1 from e1).trans c25_4
    refine lv_tableIn hx hb dX12_many_11 (by rw [c25_x]; decide) (by rw [c25_x]; decide) (off := 81) (by rw [c25_x]; rfl) (tgt := 92) rfl ?_
    refine lv_aload_n hx hb dX12_many_92 rfl (lv_at hl 0 rfl) ?_
    refine q_getC E hC23 g0 fa_RX12_35 uc dX12_many_93 ?_
    refine lv_iconst (v := 4) hx hb dX12_many_96 rfl ?_
    refine q_cald E hC23 (lo := -2147483648) (hi := 2147483647) gca (a := 4) (show (4 : Int32).toInt = 4 from by decide) (by omega) (by omega) (cr_c3 (by omega) (by omega)) dX12_many_97 (fun v30 ev30 _ _ => ?_)
    exact ret v30 H23 locs23 _ _ dX12_many_98 ⟨hKp23, trivial⟩ hC23 hS23
  by_cases c25_5 : a1 = 5
  · have c25_x := (show p1.toInt = a1 from e1).trans c25_5
    refine lv_tableIn hx hb dX12_many_11 (by rw [c25_x]; decide) (by rw [c25_x]; decide) (off := 88) (by rw [c25_x]; rfl) (tgt := 99) rfl ?_
    refine lv_aload_n hx hb dX12_many_99 rfl (lv_at hl 0 rfl) ?_
    refine lv_bipush (v := 26) hx hb dX12_many_100 rfl ?_
    refine q_goIp (q_runV (As := [.int 26]) (rest := []) E hC23 hS23 (m_X12_allOf l X Γ H23 hC23 h0 g0 26 (a1 := 26) (by decide) ca gca uc (by omega) (by omega)) cw_X12_allOf cl_RX12_295 g0 ⟨rfl, rfl⟩ rfl hl.1 rfl (Nat.zero_le _) (by decide) dX12_many_102) hS23 (fun v31 locs31 hr31 hS31 => ?_)
    exact ret v31 H23 locs31 _ _ dX12_many_105 ⟨hKp23, trivial⟩ hC23 hS31
  by_cases c25_6 : a1 = 6
  · have c25_x := (show p1.toInt = a1 from e1).trans c25_6
    refine lv_tableIn hx hb dX12_many_11 (by rw [c25_x]; decide) (by rw [c25_x]; decide) (off := 95) (by rw [c25_x]; rfl) (tgt := 106) rfl ?_
    refine lv_aload_n hx hb dX12_many_106 rfl (lv_at hl 0 rfl) ?_
    refine lv_bipush (v := 62) hx hb dX12_many_107 rfl ?_
    refine q_goIp (q_runV (As := [.int 62]) (rest := []) E hC23 hS23 (m_X12_allOf l X Γ H23 hC23 h0 g0 62 (a1 := 62) (by decide) ca gca uc (by omega) (by omega)) cw_X12_allOf cl_RX12_295 g0 ⟨rfl, rfl⟩ rfl hl.1 rfl (Nat.zero_le _) (by decide) dX12_many_109) hS23 (fun v32 locs32 hr32 hS32 => ?_)
    exact ret v32 H23 locs32 _ _ dX12_many_112 ⟨hKp23, trivial⟩ hC23 hS32
  by_cases c25_7 : a1 = 7
  · have c25_x := (show p1.toInt = a1 from e1).trans c25_7
    refine lv_tableIn hx hb dX12_many_11 (by rw [c25_x]; decide) (by rw [c25_x]; decide) (off := 102) (by rw [c25_x]; rfl) (tgt := 113) rfl ?_
    refine lv_aload_n hx hb dX12_many_113 rfl (lv_at hl 0 rfl) ?_
    refine q_getC E hC23 g0 fa_RX12_35 uc dX12_many_114 ?_
    refine lv_iconst (v := 5) hx hb dX12_many_117 rfl ?_
    refine q_cald E hC23 (lo := -2147483648) (hi := 2147483647) gca (a := 5) (show (5 : Int32).toInt = 5 from by decide) (by omega) (by omega) (cr_c3 (by omega) (by omega)) dX12_many_118 (fun v33 ev33 _ _ => ?_)
    exact ret v33 H23 locs23 _ _ dX12_many_119 ⟨hKp23, trivial⟩ hC23 hS23
  by_cases c25_8 : a1 = 8
  · have c25_x := (show p1.toInt = a1 from e1).trans c25_8
    refine lv_tableIn hx hb dX12_many_11 (by rw [c25_x]; decide) (by rw [c25_x]; decide) (off := 109) (by rw [c25_x]; rfl) (tgt := 120) rfl ?_
    refine lv_aload_n hx hb dX12_many_120 rfl (lv_at hl 0 rfl) ?_
    refine q_getC E hC23 g0 fa_RX12_35 uc dX12_many_121 ?_
    refine lv_bipush (v := 6) hx hb dX12_many_124 rfl ?_
    refine q_cald E hC23 (lo := -2147483648) (hi := 2147483647) gca (a := 6) (show (6 : Int32).toInt = 6 from by decide) (by omega) (by omega) (cr_c3 (by omega) (by omega)) dX12_many_126 (fun v34 ev34 _ _ => ?_)
    exact ret v34 H23 locs23 _ _ dX12_many_127 ⟨hKp23, trivial⟩ hC23 hS23
  by_cases c25_9 : a1 = 9
  · have c25_x := (show p1.toInt = a1 from e1).trans c25_9
    refine lv_tableIn hx hb dX12_many_11 (by rw [c25_x]; decide) (by rw [c25_x]; decide) (off := 117) (by rw [c25_x]; rfl) (tgt := 128) rfl ?_
    refine lv_aload_n hx hb dX12_many_128 rfl (lv_at hl 0 rfl) ?_
    refine q_getC E hC23 g0 fa_RX12_35 uc dX12_many_129 ?_
    refine lv_bipush (v := 7) hx hb dX12_many_132 rfl ?_
    refine q_cald E hC23 (lo := -2147483648) (hi := 2147483647) gca (a := 7) (show (7 : Int32).toInt = 7 from by decide) (by omega) (by omega) (cr_c3 (by omega) (by omega)) dX12_many_134 (fun v35 ev35 _ _ => ?_)
    exact ret v35 H23 locs23 _ _ dX12_many_135 ⟨hKp23, trivial⟩ hC23 hS23
  refine lv_tableOut hx hb dX12_many_11 (by rw [show p1.toInt = a1 from e1]; omega) (tgt := 136) rfl ?_
  refine lv_aload_n hx hb dX12_many_136 rfl (lv_at hl 0 rfl) ?_
  refine lv_iconst (v := 5) hx hb dX12_many_137 rfl ?_
  refine q_goI (q_runV (As := [.int 5]) (rest := []) E hC23 hS23 (m_X12_refuse l X Γ H23 hC23 h0 g0 5 (a1 := 5) (by decide) ca gca uc) cw_X12_refuse cl_RX12_298 g0 ⟨rfl, rfl⟩ rfl hl.1 rfl (Nat.zero_le _) (by decide) dX12_many_138) hS23 (fun v36 H36 locs36 hr36 hC36 hS36 => ?_)
  obtain ⟨hp36, hr36⟩ := hr36
  have hKp36 := hKp23.tr (hp36.mono rfl)
  exact ret v36 H36 locs36 _ _ dX12_many_141 ⟨hKp36, trivial⟩ hC36 hS36
set_option maxRecDepth 100000 in
set_option maxHeartbeats 4000000 in
theorem m_X12_isCell (l : Launch) (X : xW) (Γ : Nat → Option Nat) (H0 : Heap) (hC0 : Conf X Γ H0) (h0 : Nat) (g0 : Γ h0 = some 11) (p1 : Int32) {a1 : Int} (e1 : p1.toInt = a1) (p2 : Int32) {a2 : Int} (e2 : p2.toInt = a2) (ca : Nat) (gca : Γ ca = some 64) (uc : ∀ a, Γ a = some 64 → a = ca) : Ctr l X Γ yX12_isCell cX12_isCell 3 (some .boolean) 1 [.ref h0, .int p1, .int p2] H0 (QI X Γ (fun v H1 => H1 = H0 ∧ ((v = 1 ∧ (0 ≤ a1 ∧ a1 ≤ 5 ∧ 0 ≤ a2 ∧ a2 ≤ 5)) ∨ (v = 0 ∧ (True))))) := by
  refine q_enterZ (own := "SnowFortsModel") (by decide) rfl (Nat.le_of_ble_eq_true rfl) ?_
  intro p e s m args below meth c ls Qz E hl ret hS0
  have hx := E.1; have hb := E.2.1
  have hl : lv_has ls 3 [(0, .ref h0), (1, .int p1), (2, .int p2)] := hl
  refine lv_iload_n hx hb dX12_isCell_0 rfl (lv_at hl 1 rfl) ?_
  refine lv_i2l (v := p1.toInt64) hx hb dX12_isCell_1 rfl (lv_topl (fun v21 ev21 => ?_))
  have ev21i : v21.toInt = a1 := l_ofi ev21.symm e1
  refine lv_lconst (v := 0) hx hb dX12_isCell_2 rfl ?_
  refine lv_aload_n hx hb dX12_isCell_3 rfl (lv_at hl 0 rfl) ?_
  refine q_getC E hC0 g0 fa_RX12_35 uc dX12_isCell_4 ?_
  refine lv_iconst (v := 0) hx hb dX12_isCell_7 rfl ?_
  refine q_cald E hC0 (lo := 0) (hi := 6) gca (a := 0) (show (0 : Int32).toInt = 0 from by decide) (by omega) (by omega) (cr_c0 (by omega) (by omega)) dX12_isCell_8 (fun v22 ev22 lv22 uv22 => ?_)
  refine lv_iconst (v := 1) hx hb dX12_isCell_9 rfl ?_
  refine lv_isub hx hb dX12_isCell_10 (lv_topi (fun v23 ev23 => ?_))
  have ev23i : v23.toInt = (v22.toInt - 1) := i_sub ev23 rfl (by decide) (by omega) (by omega)
  refine lv_i2l (v := v23.toInt64) hx hb dX12_isCell_11 rfl (lv_topl (fun v24 ev24 => ?_))
  have ev24i : v24.toInt = (v22.toInt - 1) := l_ofi ev24.symm ev23i
  refine q_goIp (q_runS (As := [.long v21, .long 0, .long v24]) (rest := []) E hS0 (m_X12_isIn l X Γ H0 hC0 v21 (a0 := a1) ev21i 0 (a1 := 0) (show (0 : Int64).toInt = 0 from by decide) v24 (a2 := (v22.toInt - 1)) ev24i) cw_X12_isIn cl_RX12_104 rfl hl.1 rfl (Nat.zero_le _) (by decide) dX12_isCell_12) hS0 (fun v25 locs25 hr25 hS25 => ?_)
  rcases hr25 with ⟨rfl, f25a0, f25a1⟩ | ⟨rfl, f25b⟩
  · refine q_if_eq hx hb (a := 1) (by decide) (tgt := 40) dX12_isCell_15 rfl (fun c26 => absurd c26 (by omega)) (fun c26 => ?_)
    refine lv_iload_n hx hb dX12_isCell_18 rfl (lv_at hl 2 rfl) ?_
    refine lv_i2l (v := p2.toInt64) hx hb dX12_isCell_19 rfl (lv_topl (fun v27 ev27 => ?_))
    have ev27i : v27.toInt = a2 := l_ofi ev27.symm e2
    refine lv_lconst (v := 0) hx hb dX12_isCell_20 rfl ?_
    refine lv_aload_n hx hb dX12_isCell_21 rfl (lv_at hl 0 rfl) ?_
    refine q_getC E hC0 g0 fa_RX12_35 uc dX12_isCell_22 ?_
    refine lv_iconst (v := 1) hx hb dX12_isCell_25 rfl ?_
    refine q_cald E hC0 (lo := 0) (hi := 6) gca (a := 1) (show (1 : Int32).toInt = 1 from by decide) (by omega) (by omega) (cr_c0 (by omega) (by omega)) dX12_isCell_26 (fun v28 ev28 lv28 uv28 => ?_)
    refine lv_iconst (v := 1) hx hb dX12_isCell_27 rfl ?_
    refine lv_isub hx hb dX12_isCell_28 (lv_topi (fun v29 ev29 => ?_))
    have ev29i : v29.toInt = (v28.toInt - 1) := i_sub ev29 rfl (by decide) (by omega) (by omega)
    refine lv_i2l (v := v29.toInt64) hx hb dX12_isCell_29 rfl (lv_topl (fun v30 ev30 => ?_))
    have ev30i : v30.toInt = (v28.toInt - 1) := l_ofi ev30.symm ev29i
    refine q_goIp (q_runS (As := [.long v27, .long 0, .long v30]) (rest := []) E hS25 (m_X12_isIn l X Γ H0 hC0 v27 (a0 := a2) ev27i 0 (a1 := 0) (show (0 : Int64).toInt = 0 from by decide) v30 (a2 := (v28.toInt - 1)) ev30i) cw_X12_isIn cl_RX12_104 rfl hl.1 rfl (Nat.zero_le _) (by decide) dX12_isCell_30) hS25 (fun v31 locs31 hr31 hS31 => ?_)
    rcases hr31 with ⟨rfl, f31a0, f31a1⟩ | ⟨rfl, f31b⟩
    · refine q_if_eq hx hb (a := 1) (by decide) (tgt := 40) dX12_isCell_33 rfl (fun c32 => absurd c32 (by omega)) (fun c32 => ?_)
      refine lv_iconst (v := 1) hx hb dX12_isCell_36 rfl ?_
      refine lv_goto (tgt := 41) hx hb dX12_isCell_37 rfl ?_
      exact ret 1 H0 locs31 _ _ dX12_isCell_41 (Or.inr rfl) ⟨rfl, Or.inl ⟨rfl, by omega, by omega, by omega, by omega⟩⟩ hC0 hS31
    · refine q_if_eq hx hb (a := 0) (by decide) (tgt := 40) dX12_isCell_33 rfl (fun c33 => ?_) (fun c33 => absurd c33 (by omega))
      refine lv_iconst (v := 0) hx hb dX12_isCell_40 rfl ?_
      exact ret 0 H0 locs31 _ _ dX12_isCell_41 (Or.inl rfl) ⟨rfl, Or.inr ⟨rfl, trivial⟩⟩ hC0 hS31
  · refine q_if_eq hx hb (a := 0) (by decide) (tgt := 40) dX12_isCell_15 rfl (fun c34 => ?_) (fun c34 => absurd c34 (by omega))
    refine lv_iconst (v := 0) hx hb dX12_isCell_40 rfl ?_
    exact ret 0 H0 locs25 _ _ dX12_isCell_41 (Or.inl rfl) ⟨rfl, Or.inr ⟨rfl, trivial⟩⟩ hC0 hS25
set_option maxRecDepth 100000 in
set_option maxHeartbeats 4000000 in
theorem m_X12_at2 (l : Launch) (X : xW) (Γ : Nat → Option Nat) (H0 : Heap) (hC0 : Conf X Γ H0) (p0 : Int32) {a0 : Int} (e0 : p0.toInt = a0) (p1 : Int32) {a1 : Int} (e1 : p1.toInt = a1) (r0 : 0 ≤ a0) (r1 : a0 ≤ 5) (r2 : 0 ≤ a1) (r3 : a1 ≤ 5) : Ctr l X Γ yX12_at2 cX12_at2 2 (some .int) 0 [.int p0, .int p1] H0 (QI X Γ (fun v H1 => H1 = H0 ∧ ((v.toInt = 6 * a1 + a0)))) := by
  refine q_enterI (own := "SnowFortsModel") (by decide) rfl (Nat.le_of_ble_eq_true rfl) ?_
  intro p e s m args below meth c ls Qz E hl ret hS0
  have hx := E.1; have hb := E.2.1
  have hl : lv_has ls 2 [(0, .int p0), (1, .int p1)] := hl
  refine lv_bipush (v := 6) hx hb dX12_at2_0 rfl ?_
  refine lv_iload_n hx hb dX12_at2_2 rfl (lv_at hl 1 rfl) ?_
  refine lv_imul hx hb dX12_at2_3 (lv_topi (fun v21 ev21 => ?_))
  have ev21i : v21.toInt = (6 * a1) := i_mul ev21 (by decide) e1 (by omega) (by omega)
  refine lv_iload_n hx hb dX12_at2_4 rfl (lv_at hl 0 rfl) ?_
  refine lv_iadd hx hb dX12_at2_5 (lv_topi (fun v22 ev22 => ?_))
  have ev22i : v22.toInt = ((6 * a1) + a0) := i_add ev22 ev21i e0 (by omega) (by omega)
  have c23 : v22.toInt = ((6 * a1) + a0) := ev22i
  exact ret v22 H0 [] _ _ dX12_at2_6 ⟨rfl, by omega⟩ hC0 hS0
set_option maxRecDepth 100000 in
set_option maxHeartbeats 4000000 in
theorem m_X12_cell (l : Launch) (X : xW) (Γ : Nat → Option Nat) (H0 : Heap) (hC0 : Conf X Γ H0) (h0 : Nat) (g0 : Γ h0 = some 11) (p1 : Int32) {a1 : Int} (e1 : p1.toInt = a1) (p2 : Int32) {a2 : Int} (e2 : p2.toInt = a2) (p3 : Int32) {a3 : Int} (e3 : p3.toInt = a3) (ca : Nat) (gca : Γ ca = some 64) (uc : ∀ a, Γ a = some 64 → a = ca) : Ctr l X Γ yX12_cell cX12_cell 5 (some .int) 2 [.ref h0, .int p1, .int p2, .int p3] H0 (QI X Γ (fun v H1 => Kp X Γ [1, 6, 7, 8, 9, 10, 11, 12, 14, 15, 16, 17] H0 H1 ∧ (True))) := by
  refine q_enterI (own := "SnowFortsModel") (by decide) rfl (Nat.le_of_ble_eq_true rfl) ?_
  intro p e s m args below meth c ls Qz E hl ret hS0
  have hx := E.1; have hb := E.2.1
  have hKp0 : Kp X Γ [1, 6, 7, 8, 9, 10, 11, 12, 14, 15, 16, 17] H0 H0 := Kp.rf
  have hl : lv_has ls 5 [(0, .ref h0), (1, .int p1), (2, .int p2), (3, .int p3)] := hl
  refine lv_aload_n hx hb dX12_cell_0 rfl (lv_at hl 0 rfl) ?_
  refine lv_iconst (v := 0) hx hb dX12_cell_1 rfl ?_
  refine q_put E hC0 hS0 g0 fp_RX12_69 tv_F rfl rfl dX12_cell_2 (fun H21 locs21 hC21 hS21 U21 => ?_)
  have hKp21 := Kp.upO E g0 fp_RX12_69 rfl U21 hKp0
  have e22 := up_I U21
  refine lv_aload_n hx hb dX12_cell_5 rfl (lv_at hl 0 rfl) ?_
  refine lv_iconst (v := 0) hx hb dX12_cell_6 rfl ?_
  refine q_put E hC21 hS21 g0 fp_RX12_72 tv_F rfl rfl dX12_cell_7 (fun H23 locs23 hC23 hS23 U23 => ?_)
  have hKp23 := Kp.upO E g0 fp_RX12_72 rfl U23 hKp21
  have e24 := up_I U23
  refine lv_aload_n hx hb dX12_cell_10 rfl (lv_at hl 0 rfl) ?_
  refine lv_iload_n hx hb dX12_cell_11 rfl (lv_at hl 1 rfl) ?_
  refine lv_iload_n hx hb dX12_cell_12 rfl (lv_at hl 2 rfl) ?_
  refine q_goIp (q_runV (As := [.int p1, .int p2]) (rest := []) E hC23 hS23 (m_X12_isCell l X Γ H23 hC23 h0 g0 p1 (a1 := a1) e1 p2 (a2 := a2) e2 ca gca uc) cw_X12_isCell cl_RX12_301 g0 ⟨rfl, rfl⟩ rfl hl.1 rfl (Nat.zero_le _) (by decide) dX12_cell_13) hS23 (fun v25 locs25 hr25 hS25 => ?_)
  rcases hr25 with ⟨rfl, f25a0, f25a1, f25a2, f25a3⟩ | ⟨rfl, -⟩
  · refine q_if_ne hx hb (a := 1) (by decide) (tgt := 25) dX12_cell_16 rfl (fun c26 => ?_) (fun c26 => absurd c26 (by omega))
    refine lv_iload_n hx hb dX12_cell_25 rfl (lv_at hl 1 rfl) ?_
    refine lv_iload_n hx hb dX12_cell_26 rfl (lv_at hl 2 rfl) ?_
    refine q_goIp (q_runS (As := [.int p1, .int p2]) (rest := []) E hS25 (m_X12_at2 l X Γ H23 hC23 p1 (a0 := a1) e1 p2 (a1 := a2) e2 (by omega) (by omega) (by omega) (by omega)) cw_X12_at2 cl_RX12_292 rfl hl.1 rfl (Nat.zero_le _) (by decide) dX12_cell_27) hS25 (fun v27 locs27 hr27 hS27 => ?_)
    have f27_0 := hr27
    refine lv_istore hx hb dX12_cell_30 hl (by decide) rfl (fun ls hl => ?_)
    have hl : lv_has ls 5 [(4, .int v27), (0, .ref h0), (1, .int p1), (2, .int p2), (3, .int p3)] := hl
    refine lv_iload_n hx hb dX12_cell_32 rfl (lv_at hl 4 rfl) ?_
    by_cases c28_0 : a3 = 0
    · have c28_x := (show p3.toInt = a3 from e3).trans c28_0
      refine lv_tableIn hx hb dX12_cell_33 (by rw [c28_x]; decide) (by rw [c28_x]; decide) (off := 39) (by rw [c28_x]; rfl) (tgt := 72) rfl ?_
      refine lv_aload_n hx hb dX12_cell_72 rfl (lv_at hl 1 rfl) ?_
      refine q_getC E hC23 g0 fa_RX12_35 uc dX12_cell_73 ?_
      refine lv_bipush (v := 26) hx hb dX12_cell_76 rfl ?_
      refine lv_iload hx hb dX12_cell_78 (lv_at hl 0 rfl) ?_
      refine lv_iadd hx hb dX12_cell_80 (lv_topi (fun v29 ev29 => ?_))
      have ev29i : v29.toInt = (26 + v27.toInt) := i_add ev29 (by decide) rfl (by omega) (by omega)
      refine q_cald E hC23 (lo := 0) (hi := 99) gca (a := (26 + v27.toInt)) ev29i (by omega) (by omega) (cr_c26 (by omega) (by omega)) dX12_cell_81 (fun v30 ev30 lv30 uv30 => ?_)
      exact ret v30 H23 locs27 _ _ dX12_cell_82 ⟨hKp23, trivial⟩ hC23 hS27
    by_cases c28_1 : a3 = 1
    · have c28_x := (show p3.toInt = a3 from e3).trans c28_1
      refine lv_tableIn hx hb dX12_cell_33 (by rw [c28_x]; decide) (by rw [c28_x]; decide) (off := 50) (by rw [c28_x]; rfl) (tgt := 83) rfl ?_
      refine lv_aload_n hx hb dX12_cell_83 rfl (lv_at hl 1 rfl) ?_
      refine q_getC E hC23 g0 fa_RX12_35 uc dX12_cell_84 ?_
      refine lv_bipush (v := 62) hx hb dX12_cell_87 rfl ?_
      refine lv_iload hx hb dX12_cell_89 (lv_at hl 0 rfl) ?_
      refine lv_iadd hx hb dX12_cell_91 (lv_topi (fun v31 ev31 => ?_))
      have ev31i : v31.toInt = (62 + v27.toInt) := i_add ev31 (by decide) rfl (by omega) (by omega)
      refine q_cald E hC23 (lo := 0) (hi := 99) gca (a := (62 + v27.toInt)) ev31i (by omega) (by omega) (cr_c26 (by omega) (by omega)) dX12_cell_92 (fun v32 ev32 lv32 uv32 => ?_)
      exact ret v32 H23 locs27 _ _ dX12_cell_93 ⟨hKp23, trivial⟩ hC23 hS27
    by_cases c28_2 : a3 = 2
    · have c28_x := (show p3.toInt = a3 from e3).trans c28_2
      refine lv_tableIn hx hb dX12_cell_33 (by rw [c28_x]; decide) (by rw [c28_x]; decide) (off := 61) (by rw [c28_x]; rfl) (tgt := 94) rfl ?_
      refine lv_aload_n hx hb dX12_cell_94 rfl (lv_at hl 1 rfl) ?_
      refine q_getC E hC23 g0 fa_RX12_35 uc dX12_cell_95 ?_
      refine lv_bipush (v := 98) hx hb dX12_cell_98 rfl ?_
      refine lv_iload hx hb dX12_cell_100 (lv_at hl 0 rfl) ?_
      refine lv_iadd hx hb dX12_cell_102 (lv_topi (fun v33 ev33 => ?_))
      have ev33i : v33.toInt = (98 + v27.toInt) := i_add ev33 (by decide) rfl (by omega) (by omega)
      refine q_cald E hC23 (lo := 0) (hi := 9) gca (a := (98 + v27.toInt)) ev33i (by omega) (by omega) (cr_c98 (by omega) (by omega)) dX12_cell_103 (fun v34 ev34 lv34 uv34 => ?_)
      exact ret v34 H23 locs27 _ _ dX12_cell_104 ⟨hKp23, trivial⟩ hC23 hS27
    by_cases c28_3 : a3 = 3
    · have c28_x := (show p3.toInt = a3 from e3).trans c28_3
      refine lv_tableIn hx hb dX12_cell_33 (by rw [c28_x]; decide) (by rw [c28_x]; decide) (off := 72) (by rw [c28_x]; rfl) (tgt := 105) rfl ?_
      refine lv_aload_n hx hb dX12_cell_105 rfl (lv_at hl 1 rfl) ?_
      refine q_getC E hC23 g0 fa_RX12_35 uc dX12_cell_106 ?_
      refine lv_sipush (v := 134) hx hb dX12_cell_109 rfl ?_
      refine lv_iload hx hb dX12_cell_112 (lv_at hl 0 rfl) ?_
      refine lv_iadd hx hb dX12_cell_114 (lv_topi (fun v35 ev35 => ?_))
      have ev35i : v35.toInt = (134 + v27.toInt) := i_add ev35 (by decide) rfl (by omega) (by omega)
      refine q_cald E hC23 (lo := -2147483648) (hi := 2147483647) gca (a := (134 + v27.toInt)) ev35i (by omega) (by omega) (cr_c134 (by omega) (by omega)) dX12_cell_115 (fun v36 ev36 _ _ => ?_)
      exact ret v36 H23 locs27 _ _ dX12_cell_116 ⟨hKp23, trivial⟩ hC23 hS27
    by_cases c28_4 : a3 = 4
    · have c28_x := (show p3.toInt = a3 from e3).trans c28_4
      refine lv_tableIn hx hb dX12_cell_33 (by rw [c28_x]; decide) (by rw [c28_x]; decide) (off := 84) (by rw [c28_x]; rfl) (tgt := 117) rfl ?_
      refine lv_aload_n hx hb dX12_cell_117 rfl (lv_at hl 1 rfl) ?_
      refine lv_iload_n hx hb dX12_cell_118 rfl (lv_at hl 2 rfl) ?_
      refine q_goIp (q_runV (As := [.int p1]) (rest := []) E hC23 hS27 (m_X12_halfOf l X Γ H23 hC23 h0 g0 p1 (a1 := a1) e1 ca gca uc) cw_X12_halfOf cl_RX12_270 g0 ⟨rfl, rfl⟩ rfl hl.1 rfl (Nat.zero_le _) (by decide) dX12_cell_119) hS27 (fun v37 locs37 hr37 hS37 => ?_)
      obtain ⟨f37_0, f37_1⟩ := hr37
      exact ret v37 H23 locs37 _ _ dX12_cell_122 ⟨hKp23, trivial⟩ hC23 hS37
    by_cases c28_5 : a3 = 5
    · have c28_x := (show p3.toInt = a3 from e3).trans c28_5
      refine lv_tableIn hx hb dX12_cell_33 (by rw [c28_x]; decide) (by rw [c28_x]; decide) (off := 90) (by rw [c28_x]; rfl) (tgt := 123) rfl ?_
      refine lv_aload_n hx hb dX12_cell_123 rfl (lv_at hl 1 rfl) ?_
      refine q_getC E hC23 g0 fa_RX12_35 uc dX12_cell_124 ?_
      refine lv_sipush (v := 170) hx hb dX12_cell_127 rfl ?_
      refine lv_iload hx hb dX12_cell_130 (lv_at hl 0 rfl) ?_
      refine lv_iadd hx hb dX12_cell_132 (lv_topi (fun v38 ev38 => ?_))
      have ev38i : v38.toInt = (170 + v27.toInt) := i_add ev38 (by decide) rfl (by omega) (by omega)
      refine q_cald E hC23 (lo := -2147483648) (hi := 2147483647) gca (a := (170 + v27.toInt)) ev38i (by omega) (by omega) (cr_c134 (by omega) (by omega)) dX12_cell_133 (fun v39 ev39 _ _ => ?_)
      exact ret v39 H23 locs27 _ _ dX12_cell_134 ⟨hKp23, trivial⟩ hC23 hS27
    refine lv_tableOut hx hb dX12_cell_33 (by rw [show p3.toInt = a3 from e3]; omega) (tgt := 135) rfl ?_
    refine lv_aload_n hx hb dX12_cell_135 rfl (lv_at hl 1 rfl) ?_
    refine lv_iconst (v := 5) hx hb dX12_cell_136 rfl ?_
    refine q_goI (q_runV (As := [.int 5]) (rest := []) E hC23 hS27 (m_X12_refuse l X Γ H23 hC23 h0 g0 5 (a1 := 5) (by decide) ca gca uc) cw_X12_refuse cl_RX12_298 g0 ⟨rfl, rfl⟩ rfl hl.1 rfl (Nat.zero_le _) (by decide) dX12_cell_137) hS27 (fun v40 H40 locs40 hr40 hC40 hS40 => ?_)
    obtain ⟨hp40, hr40⟩ := hr40
    have hKp40 := hKp23.tr (hp40.mono rfl)
    exact ret v40 H40 locs40 _ _ dX12_cell_140 ⟨hKp40, trivial⟩ hC40 hS40
  · refine q_if_ne hx hb (a := 0) (by decide) (tgt := 25) dX12_cell_16 rfl (fun c41 => absurd c41 (by omega)) (fun c41 => ?_)
    refine lv_aload_n hx hb dX12_cell_19 rfl (lv_at hl 0 rfl) ?_
    refine lv_iconst (v := 2) hx hb dX12_cell_20 rfl ?_
    refine q_goI (q_runV (As := [.int 2]) (rest := []) E hC23 hS25 (m_X12_refuse l X Γ H23 hC23 h0 g0 2 (a1 := 2) (by decide) ca gca uc) cw_X12_refuse cl_RX12_298 g0 ⟨rfl, rfl⟩ rfl hl.1 rfl (Nat.zero_le _) (by decide) dX12_cell_21) hS25 (fun v42 H42 locs42 hr42 hC42 hS42 => ?_)
    obtain ⟨hp42, hr42⟩ := hr42
    have hKp42 := hKp23.tr (hp42.mono rfl)
    exact ret v42 H42 locs42 _ _ dX12_cell_24 ⟨hKp42, trivial⟩ hC42 hS42
set_option maxRecDepth 100000 in
set_option maxHeartbeats 4000000 in
theorem m_X12_isSchoolAt (l : Launch) (X : xW) (Γ : Nat → Option Nat) (H0 : Heap) (hC0 : Conf X Γ H0) (h0 : Nat) (g0 : Γ h0 = some 11) (p1 : Int32) {a1 : Int} (e1 : p1.toInt = a1) (ca : Nat) (gca : Γ ca = some 64) (uc : ∀ a, Γ a = some 64 → a = ca) : Ctr l X Γ yX12_isSchoolAt cX12_isSchoolAt 2 (some .boolean) 1 [.ref h0, .int p1] H0 (QI X Γ (fun v H1 => H1 = H0 ∧ ((v = 1 ∧ (0 ≤ a1 ∧ a1 ≤ 1)) ∨ (v = 0 ∧ (True))))) := by
  refine q_enterZ (own := "SnowFortsModel") (by decide) rfl (Nat.le_of_ble_eq_true rfl) ?_
  intro p e s m args below meth c ls Qz E hl ret hS0
  have hx := E.1; have hb := E.2.1
  have hl : lv_has ls 2 [(0, .ref h0), (1, .int p1)] := hl
  refine lv_iload_n hx hb dX12_isSchoolAt_0 rfl (lv_at hl 1 rfl) ?_
  refine lv_i2l (v := p1.toInt64) hx hb dX12_isSchoolAt_1 rfl (lv_topl (fun v21 ev21 => ?_))
  have ev21i : v21.toInt = a1 := l_ofi ev21.symm e1
  refine lv_lconst (v := 0) hx hb dX12_isSchoolAt_2 rfl ?_
  refine lv_aload_n hx hb dX12_isSchoolAt_3 rfl (lv_at hl 0 rfl) ?_
  refine q_getC E hC0 g0 fa_RX12_35 uc dX12_isSchoolAt_4 ?_
  refine lv_iconst (v := 2) hx hb dX12_isSchoolAt_7 rfl ?_
  refine q_cald E hC0 (lo := 0) (hi := 2) gca (a := 2) (show (2 : Int32).toInt = 2 from by decide) (by omega) (by omega) (cr_c2 (by omega) (by omega)) dX12_isSchoolAt_8 (fun v22 ev22 lv22 uv22 => ?_)
  refine lv_iconst (v := 1) hx hb dX12_isSchoolAt_9 rfl ?_
  refine lv_isub hx hb dX12_isSchoolAt_10 (lv_topi (fun v23 ev23 => ?_))
  have ev23i : v23.toInt = (v22.toInt - 1) := i_sub ev23 rfl (by decide) (by omega) (by omega)
  refine lv_i2l (v := v23.toInt64) hx hb dX12_isSchoolAt_11 rfl (lv_topl (fun v24 ev24 => ?_))
  have ev24i : v24.toInt = (v22.toInt - 1) := l_ofi ev24.symm ev23i
  refine q_goIp (q_runS (As := [.long v21, .long 0, .long v24]) (rest := []) E hS0 (m_X12_isIn l X Γ H0 hC0 v21 (a0 := a1) ev21i 0 (a1 := 0) (show (0 : Int64).toInt = 0 from by decide) v24 (a2 := (v22.toInt - 1)) ev24i) cw_X12_isIn cl_RX12_104 rfl hl.1 rfl (Nat.zero_le _) (by decide) dX12_isSchoolAt_12) hS0 (fun v25 locs25 hr25 hS25 => ?_)
  rcases hr25 with ⟨rfl, f25a0, f25a1⟩ | ⟨rfl, f25b⟩
  · exact ret 1 H0 locs25 _ _ dX12_isSchoolAt_15 (Or.inr rfl) ⟨rfl, Or.inl ⟨rfl, by omega, by omega⟩⟩ hC0 hS25
  · exact ret 0 H0 locs25 _ _ dX12_isSchoolAt_15 (Or.inl rfl) ⟨rfl, Or.inr ⟨rfl, trivial⟩⟩ hC0 hS25
set_option maxRecDepth 100000 in
set_option maxHeartbeats 4000000 in
theorem m_X12_allOfHalf (l : Launch) (X : xW) (Γ : Nat → Option Nat) (H0 : Heap) (hC0 : Conf X Γ H0) (h0 : Nat) (g0 : Γ h0 = some 11) (p1 : Int32) {a1 : Int} (e1 : p1.toInt = a1) (p2 : Int32) {a2 : Int} (e2 : p2.toInt = a2) (ca : Nat) (gca : Γ ca = some 64) (uc : ∀ a, Γ a = some 64 → a = ca) (r0 : 0 ≤ a1) (r1 : a1 ≤ 2000) : Ctr l X Γ yX12_allOfHalf cX12_allOfHalf 6 (some .int) 1 [.ref h0, .int p1, .int p2] H0 (QI X Γ (fun v H1 => H1 = H0 ∧ (True))) := by
  refine q_enterI (own := "SnowFortsModel") (by decide) rfl (Nat.le_of_ble_eq_true rfl) ?_
  intro p e s m args below meth c ls Qz E hl ret hS0
  have hx := E.1; have hb := E.2.1
  have hl : lv_has ls 6 [(0, .ref h0), (1, .int p1), (2, .int p2)] := hl
  refine lv_iconst (v := 0) hx hb dX12_allOfHalf_0 rfl ?_
  refine lv_istore_n hx hb dX12_allOfHalf_1 rfl hl (by decide) rfl (fun ls hl => ?_)
  have hl : lv_has ls 6 [(3, .int 0), (0, .ref h0), (1, .int p1), (2, .int p2)] := hl
  refine lv_iconst (v := 0) hx hb dX12_allOfHalf_2 rfl ?_
  refine lv_istore hx hb dX12_allOfHalf_3 hl (by decide) rfl (fun ls hl => ?_)
  have hl : lv_has ls 6 [(4, .int 0), (3, .int 0), (0, .ref h0), (1, .int p1), (2, .int p2)] := hl
  have L5 : ∀ (n23 : Nat) (locs23 : List Loc) (v21 : Int32) (z21 : Int) (v22 : Int32) (z22 : Int) (ls : Array Slot), (6 - z21).toNat < n23 → v21.toInt = z21 → v22.toInt = z22 → z21 ≤ 6 → 0 ≤ z21 → va_S (AΓ Γ) H0 H0 locs23 → lv_has ls 6 [(4, .int v21), (3, .int v22), (0, .ref h0), (1, .int p1), (2, .int p2)] → W p l e (rmL 1) s m args below meth c H0 locs23 0 0 Qz (F0 m 5 ls []) := by
    intro n23
    induction n23 with
    | zero => intro locs23 v21 z21 v22 z22 ls hm23 ev21 ev22 iv23_0 iv23_1 hS23 hl; exact absurd hm23 (Nat.not_lt_zero _)
    | succ n23 ih23 =>
      intro locs23 v21 z21 v22 z22 ls hm23 ev21 ev22 iv23_0 iv23_1 hS23 hl
      refine lv_iload hx hb dX12_allOfHalf_5 (lv_at hl 0 rfl) ?_
      refine lv_aload_n hx hb dX12_allOfHalf_7 rfl (lv_at hl 2 rfl) ?_
      refine q_getC E hC0 g0 fa_RX12_35 uc dX12_allOfHalf_8 ?_
      refine lv_iconst (v := 1) hx hb dX12_allOfHalf_11 rfl ?_
      refine q_cald E hC0 (lo := 0) (hi := 6) gca (a := 1) (show (1 : Int32).toInt = 1 from by decide) (by omega) (by omega) (cr_c0 (by omega) (by omega)) dX12_allOfHalf_12 (fun v24 ev24 lv24 uv24 => ?_)
      refine q_icmp_ge hx hb (a := z21) (b := v24.toInt) ev21 rfl (tgt := 73) dX12_allOfHalf_13 rfl (fun c25 => ?_) (fun c25 => ?_)
      · refine lv_iload_n hx hb dX12_allOfHalf_73 rfl (lv_at hl 1 rfl) ?_
        exact ret v22 H0 locs23 _ _ dX12_allOfHalf_74 ⟨rfl, trivial⟩ hC0 hS23
      · refine lv_iconst (v := 0) hx hb dX12_allOfHalf_16 rfl ?_
        refine lv_istore hx hb dX12_allOfHalf_17 hl (by decide) rfl (fun ls hl => ?_)
        have hl : lv_has ls 6 [(5, .int 0), (4, .int v21), (3, .int v22), (0, .ref h0), (1, .int p1), (2, .int p2)] := hl
        have L19 : ∀ (n28 : Nat) (locs28 : List Loc) (v26 : Int32) (z26 : Int) (v27 : Int32) (z27 : Int) (ls : Array Slot), (6 - z26).toNat < n28 → v26.toInt = z26 → v27.toInt = z27 → z26 ≤ 6 → 0 ≤ z26 → va_S (AΓ Γ) H0 H0 locs28 → lv_has ls 6 [(5, .int v26), (4, .int v21), (3, .int v27), (0, .ref h0), (1, .int p1), (2, .int p2)] → W p l e (rmL 1) s m args below meth c H0 locs28 0 0 Qz (F0 m 19 ls []) := by
          intro n28
          induction n28 with
          | zero => intro locs28 v26 z26 v27 z27 ls hm28 ev26 ev27 iv28_0 iv28_1 hS28 hl; exact absurd hm28 (Nat.not_lt_zero _)
          | succ n28 ih28 =>
            intro locs28 v26 z26 v27 z27 ls hm28 ev26 ev27 iv28_0 iv28_1 hS28 hl
            refine lv_iload hx hb dX12_allOfHalf_19 (lv_at hl 0 rfl) ?_
            refine lv_aload_n hx hb dX12_allOfHalf_21 rfl (lv_at hl 3 rfl) ?_
            refine q_getC E hC0 g0 fa_RX12_35 uc dX12_allOfHalf_22 ?_
            refine lv_iconst (v := 0) hx hb dX12_allOfHalf_25 rfl ?_
            refine q_cald E hC0 (lo := 0) (hi := 6) gca (a := 0) (show (0 : Int32).toInt = 0 from by decide) (by omega) (by omega) (cr_c0 (by omega) (by omega)) dX12_allOfHalf_26 (fun v29 ev29 lv29 uv29 => ?_)
            refine q_icmp_ge hx hb (a := z26) (b := v29.toInt) ev26 rfl (tgt := 67) dX12_allOfHalf_27 rfl (fun c30 => ?_) (fun c30 => ?_)
            · obtain ⟨v31, ev31⟩ : ∃ z, z = v21 + Int32.ofInt 1 := ⟨_, rfl⟩
              have ev31i : v31.toInt = (z21 + 1) := i_add ev31 ev21 (by decide) (by omega) (by omega)
              refine lv_iinc hx hb dX12_allOfHalf_67 hl (k := 1) rfl ev31.symm (by decide) rfl (fun ls hl => ?_)
              have hl : lv_has ls 6 [(4, .int v31), (5, .int v26), (3, .int v27), (0, .ref h0), (1, .int p1), (2, .int p2)] := hl
              refine lv_goto (tgt := 5) hx hb dX12_allOfHalf_70 rfl ?_
              exact ih23 locs28 v31 ((z21 + 1)) v27 (z27) ls (by omega) ev31i ev27 (by omega) (by omega) hS28 (lv_sub hl [0, 2, 3, 4, 5] rfl)
            · refine lv_iload_n hx hb dX12_allOfHalf_30 rfl (lv_at hl 2 rfl) ?_
              refine lv_aload_n hx hb dX12_allOfHalf_31 rfl (lv_at hl 3 rfl) ?_
              refine lv_iload hx hb dX12_allOfHalf_32 (lv_at hl 0 rfl) ?_
              refine q_goIp (q_runV (As := [.int v26]) (rest := [.int v27]) E hC0 hS28 (m_X12_halfOf l X Γ H0 hC0 h0 g0 v26 (a1 := z26) ev26 ca gca uc) cw_X12_halfOf cl_RX12_270 g0 ⟨rfl, rfl⟩ rfl hl.1 rfl (show _ ≤ _ from by simp [Value.category]) (by decide) dX12_allOfHalf_34) hS28 (fun v32 locs32 hr32 hS32 => ?_)
              obtain ⟨f32_0, f32_1⟩ := hr32
              refine lv_iload_n hx hb dX12_allOfHalf_37 rfl (lv_at hl 5 rfl) ?_
              have c33 := i_rng p2; rw [show p2.toInt = a2 from e2] at c33
              refine q_icmp_ne hx hb (a := v32.toInt) (b := a2) rfl e2 (tgt := 58) dX12_allOfHalf_38 rfl (fun c34 => ?_) (fun c34 => ?_)
              · refine lv_iconst (v := 0) hx hb dX12_allOfHalf_58 rfl ?_
                refine lv_iadd hx hb dX12_allOfHalf_59 (lv_topi (fun v35 ev35 => ?_))
                have c36 := i_rng v27; rw [show v27.toInt = z27 from ev27] at c36
                have ev35i : v35.toInt = (z27 + 0) := i_add ev35 ev27 (by decide) (by omega) (by omega)
                refine lv_istore_n hx hb dX12_allOfHalf_60 rfl hl (by decide) rfl (fun ls hl => ?_)
                have hl : lv_has ls 6 [(3, .int v35), (5, .int v26), (4, .int v21), (0, .ref h0), (1, .int p1), (2, .int p2)] := hl
                obtain ⟨v37, ev37⟩ : ∃ z, z = v26 + Int32.ofInt 1 := ⟨_, rfl⟩
                have ev37i : v37.toInt = (z26 + 1) := i_add ev37 ev26 (by decide) (by omega) (by omega)
                refine lv_iinc hx hb dX12_allOfHalf_61 hl (k := 1) rfl ev37.symm (by decide) rfl (fun ls hl => ?_)
                have hl : lv_has ls 6 [(5, .int v37), (3, .int v35), (4, .int v21), (0, .ref h0), (1, .int p1), (2, .int p2)] := hl
                refine lv_goto (tgt := 19) hx hb dX12_allOfHalf_64 rfl ?_
                exact ih28 locs32 v37 ((z26 + 1)) v35 ((z27 + 0)) ls (by omega) ev37i ev35i (by omega) (by omega) hS32 (lv_sub hl [0, 2, 1, 3, 4, 5] rfl)
              · refine lv_aload_n hx hb dX12_allOfHalf_41 rfl (lv_at hl 3 rfl) ?_
                refine q_getC E hC0 g0 fa_RX12_35 uc dX12_allOfHalf_42 ?_
                refine lv_iload_n hx hb dX12_allOfHalf_45 rfl (lv_at hl 4 rfl) ?_
                refine lv_iload hx hb dX12_allOfHalf_46 (lv_at hl 0 rfl) ?_
                refine lv_iload hx hb dX12_allOfHalf_48 (lv_at hl 1 rfl) ?_
                refine q_goIp (q_runS (As := [.int v26, .int v21]) (rest := [.int p1, .ref ca, .int v27]) E hS32 (m_X12_at2 l X Γ H0 hC0 v26 (a0 := z26) ev26 v21 (a1 := z21) ev21 (by omega) (by omega) (by omega) (by omega)) cw_X12_at2 cl_RX12_292 rfl hl.1 rfl (show _ ≤ _ from by simp [Value.category]) (by decide) dX12_allOfHalf_50) hS32 (fun v38 locs38 hr38 hS38 => ?_)
                have f38_0 := hr38
                refine lv_iadd hx hb dX12_allOfHalf_53 (lv_topi (fun v39 ev39 => ?_))
                have ev39i : v39.toInt = (a1 + v38.toInt) := i_add ev39 e1 rfl (by omega) (by omega)
                refine q_cald E hC0 (lo := -2147483648) (hi := 2147483647) gca (a := (a1 + v38.toInt)) ev39i (by omega) (by omega) (fun _ h => cT_any h) dX12_allOfHalf_54 (fun v40 ev40 _ _ => ?_)
                refine lv_goto (tgt := 59) hx hb dX12_allOfHalf_55 rfl ?_
                refine lv_iadd hx hb dX12_allOfHalf_59 (lv_topi (fun v41 ev41 => ?_))
                refine lv_istore_n hx hb dX12_allOfHalf_60 rfl hl (by decide) rfl (fun ls hl => ?_)
                have hl : lv_has ls 6 [(3, .int v41), (5, .int v26), (4, .int v21), (0, .ref h0), (1, .int p1), (2, .int p2)] := hl
                obtain ⟨v42, ev42⟩ : ∃ z, z = v26 + Int32.ofInt 1 := ⟨_, rfl⟩
                have ev42i : v42.toInt = (z26 + 1) := i_add ev42 ev26 (by decide) (by omega) (by omega)
                refine lv_iinc hx hb dX12_allOfHalf_61 hl (k := 1) rfl ev42.symm (by decide) rfl (fun ls hl => ?_)
                have hl : lv_has ls 6 [(5, .int v42), (3, .int v41), (4, .int v21), (0, .ref h0), (1, .int p1), (2, .int p2)] := hl
                refine lv_goto (tgt := 19) hx hb dX12_allOfHalf_64 rfl ?_
                exact ih28 locs38 v42 ((z26 + 1)) v41 (v41.toInt) ls (by omega) ev42i rfl (by omega) (by omega) hS38 (lv_sub hl [0, 2, 1, 3, 4, 5] rfl)
        exact L19 _ locs23 0 0 v22 z22 ls (Nat.lt_succ_self _) (by decide) ev22 (by omega) (by omega) hS23 hl
  exact L5 _ [] 0 0 0 0 ls (Nat.lt_succ_self _) (by decide) (by decide) (by omega) (by omega) hS0 hl
set_option maxRecDepth 100000 in
set_option maxHeartbeats 4000000 in
theorem m_X12_school (l : Launch) (X : xW) (Γ : Nat → Option Nat) (H0 : Heap) (hC0 : Conf X Γ H0) (h0 : Nat) (g0 : Γ h0 = some 11) (p1 : Int32) {a1 : Int} (e1 : p1.toInt = a1) (p2 : Int32) {a2 : Int} (e2 : p2.toInt = a2) (ca : Nat) (gca : Γ ca = some 64) (uc : ∀ a, Γ a = some 64 → a = ca) : Ctr l X Γ yX12_school cX12_school 3 (some .int) 2 [.ref h0, .int p1, .int p2] H0 (QI X Γ (fun v H1 => Kp X Γ [1, 6, 7, 8, 9, 10, 11, 12, 14, 15, 16, 17] H0 H1 ∧ (True))) := by
  refine q_enterI (own := "SnowFortsModel") (by decide) rfl (Nat.le_of_ble_eq_true rfl) ?_
  intro p e s m args below meth c ls Qz E hl ret hS0
  have hx := E.1; have hb := E.2.1
  have hKp0 : Kp X Γ [1, 6, 7, 8, 9, 10, 11, 12, 14, 15, 16, 17] H0 H0 := Kp.rf
  have hl : lv_has ls 3 [(0, .ref h0), (1, .int p1), (2, .int p2)] := hl
  refine lv_aload_n hx hb dX12_school_0 rfl (lv_at hl 0 rfl) ?_
  refine lv_iconst (v := 0) hx hb dX12_school_1 rfl ?_
  refine q_put E hC0 hS0 g0 fp_RX12_69 tv_F rfl rfl dX12_school_2 (fun H21 locs21 hC21 hS21 U21 => ?_)
  have hKp21 := Kp.upO E g0 fp_RX12_69 rfl U21 hKp0
  have e22 := up_I U21
  refine lv_aload_n hx hb dX12_school_5 rfl (lv_at hl 0 rfl) ?_
  refine lv_iconst (v := 0) hx hb dX12_school_6 rfl ?_
  refine q_put E hC21 hS21 g0 fp_RX12_72 tv_F rfl rfl dX12_school_7 (fun H23 locs23 hC23 hS23 U23 => ?_)
  have hKp23 := Kp.upO E g0 fp_RX12_72 rfl U23 hKp21
  have e24 := up_I U23
  refine lv_aload_n hx hb dX12_school_10 rfl (lv_at hl 0 rfl) ?_
  refine lv_iload_n hx hb dX12_school_11 rfl (lv_at hl 1 rfl) ?_
  refine q_goIp (q_runV (As := [.int p1]) (rest := []) E hC23 hS23 (m_X12_isSchoolAt l X Γ H23 hC23 h0 g0 p1 (a1 := a1) e1 ca gca uc) cw_X12_isSchoolAt cl_RX12_304 g0 ⟨rfl, rfl⟩ rfl hl.1 rfl (Nat.zero_le _) (by decide) dX12_school_12) hS23 (fun v25 locs25 hr25 hS25 => ?_)
  rcases hr25 with ⟨rfl, f25a0, f25a1⟩ | ⟨rfl, -⟩
  · refine q_if_ne hx hb (a := 1) (by decide) (tgt := 24) dX12_school_15 rfl (fun c26 => ?_) (fun c26 => absurd c26 (by omega))
    refine lv_iload_n hx hb dX12_school_24 rfl (lv_at hl 2 rfl) ?_
    by_cases c27_0 : a2 = 0
    · have c27_x := (show p2.toInt = a2 from e2).trans c27_0
      refine lv_tableIn hx hb dX12_school_25 (by rw [c27_x]; decide) (by rw [c27_x]; decide) (off := 35) (by rw [c27_x]; rfl) (tgt := 60) rfl ?_
      refine lv_aload_n hx hb dX12_school_60 rfl (lv_at hl 0 rfl) ?_
      refine q_getC E hC23 g0 fa_RX12_35 uc dX12_school_61 ?_
      refine lv_bipush (v := 12) hx hb dX12_school_64 rfl ?_
      refine lv_iload_n hx hb dX12_school_66 rfl (lv_at hl 1 rfl) ?_
      refine lv_iadd hx hb dX12_school_67 (lv_topi (fun v28 ev28 => ?_))
      have ev28i : v28.toInt = (12 + a1) := i_add ev28 (by decide) e1 (by omega) (by omega)
      refine q_cald E hC23 (lo := 0) (hi := 40) gca (a := (12 + a1)) ev28i (by omega) (by omega) (cr_c12 (by omega) (by omega)) dX12_school_68 (fun v29 ev29 lv29 uv29 => ?_)
      exact ret v29 H23 locs25 _ _ dX12_school_69 ⟨hKp23, trivial⟩ hC23 hS25
    by_cases c27_1 : a2 = 1
    · have c27_x := (show p2.toInt = a2 from e2).trans c27_1
      refine lv_tableIn hx hb dX12_school_25 (by rw [c27_x]; decide) (by rw [c27_x]; decide) (off := 45) (by rw [c27_x]; rfl) (tgt := 70) rfl ?_
      refine lv_aload_n hx hb dX12_school_70 rfl (lv_at hl 0 rfl) ?_
      refine q_getC E hC23 g0 fa_RX12_35 uc dX12_school_71 ?_
      refine lv_bipush (v := 14) hx hb dX12_school_74 rfl ?_
      refine lv_iload_n hx hb dX12_school_76 rfl (lv_at hl 1 rfl) ?_
      refine lv_iadd hx hb dX12_school_77 (lv_topi (fun v30 ev30 => ?_))
      have ev30i : v30.toInt = (14 + a1) := i_add ev30 (by decide) e1 (by omega) (by omega)
      refine q_cald E hC23 (lo := 0) (hi := 40) gca (a := (14 + a1)) ev30i (by omega) (by omega) (cr_c12 (by omega) (by omega)) dX12_school_78 (fun v31 ev31 lv31 uv31 => ?_)
      exact ret v31 H23 locs25 _ _ dX12_school_79 ⟨hKp23, trivial⟩ hC23 hS25
    by_cases c27_2 : a2 = 2
    · have c27_x := (show p2.toInt = a2 from e2).trans c27_2
      refine lv_tableIn hx hb dX12_school_25 (by rw [c27_x]; decide) (by rw [c27_x]; decide) (off := 55) (by rw [c27_x]; rfl) (tgt := 80) rfl ?_
      refine lv_aload_n hx hb dX12_school_80 rfl (lv_at hl 0 rfl) ?_
      refine q_getC E hC23 g0 fa_RX12_35 uc dX12_school_81 ?_
      refine lv_bipush (v := 16) hx hb dX12_school_84 rfl ?_
      refine lv_iload_n hx hb dX12_school_86 rfl (lv_at hl 1 rfl) ?_
      refine lv_iadd hx hb dX12_school_87 (lv_topi (fun v32 ev32 => ?_))
      have ev32i : v32.toInt = (16 + a1) := i_add ev32 (by decide) e1 (by omega) (by omega)
      refine q_cald E hC23 (lo := -2147483648) (hi := 2147483647) gca (a := (16 + a1)) ev32i (by omega) (by omega) (cr_c16 (by omega) (by omega)) dX12_school_88 (fun v33 ev33 _ _ => ?_)
      exact ret v33 H23 locs25 _ _ dX12_school_89 ⟨hKp23, trivial⟩ hC23 hS25
    by_cases c27_3 : a2 = 3
    · have c27_x := (show p2.toInt = a2 from e2).trans c27_3
      refine lv_tableIn hx hb dX12_school_25 (by rw [c27_x]; decide) (by rw [c27_x]; decide) (off := 65) (by rw [c27_x]; rfl) (tgt := 90) rfl ?_
      refine lv_aload_n hx hb dX12_school_90 rfl (lv_at hl 0 rfl) ?_
      refine lv_sipush (v := 170) hx hb dX12_school_91 rfl ?_
      refine lv_iload_n hx hb dX12_school_94 rfl (lv_at hl 1 rfl) ?_
      refine q_goIp (q_runV (As := [.int 170, .int p1]) (rest := []) E hC23 hS25 (m_X12_allOfHalf l X Γ H23 hC23 h0 g0 170 (a1 := 170) (by decide) p1 (a2 := a1) e1 ca gca uc (by omega) (by omega)) cw_X12_allOfHalf cl_RX12_307 g0 ⟨rfl, rfl⟩ rfl hl.1 rfl (Nat.zero_le _) (by decide) dX12_school_95) hS25 (fun v34 locs34 hr34 hS34 => ?_)
      exact ret v34 H23 locs34 _ _ dX12_school_98 ⟨hKp23, trivial⟩ hC23 hS34
    by_cases c27_4 : a2 = 4
    · have c27_x := (show p2.toInt = a2 from e2).trans c27_4
      refine lv_tableIn hx hb dX12_school_25 (by rw [c27_x]; decide) (by rw [c27_x]; decide) (off := 74) (by rw [c27_x]; rfl) (tgt := 99) rfl ?_
      refine lv_aload_n hx hb dX12_school_99 rfl (lv_at hl 0 rfl) ?_
      refine lv_bipush (v := 62) hx hb dX12_school_100 rfl ?_
      refine lv_iload_n hx hb dX12_school_102 rfl (lv_at hl 1 rfl) ?_
      refine q_goIp (q_runV (As := [.int 62, .int p1]) (rest := []) E hC23 hS25 (m_X12_allOfHalf l X Γ H23 hC23 h0 g0 62 (a1 := 62) (by decide) p1 (a2 := a1) e1 ca gca uc (by omega) (by omega)) cw_X12_allOfHalf cl_RX12_307 g0 ⟨rfl, rfl⟩ rfl hl.1 rfl (Nat.zero_le _) (by decide) dX12_school_103) hS25 (fun v35 locs35 hr35 hS35 => ?_)
      exact ret v35 H23 locs35 _ _ dX12_school_106 ⟨hKp23, trivial⟩ hC23 hS35
    refine lv_tableOut hx hb dX12_school_25 (by rw [show p2.toInt = a2 from e2]; omega) (tgt := 107) rfl ?_
    refine lv_aload_n hx hb dX12_school_107 rfl (lv_at hl 0 rfl) ?_
    refine lv_iconst (v := 5) hx hb dX12_school_108 rfl ?_
    refine q_goI (q_runV (As := [.int 5]) (rest := []) E hC23 hS25 (m_X12_refuse l X Γ H23 hC23 h0 g0 5 (a1 := 5) (by decide) ca gca uc) cw_X12_refuse cl_RX12_298 g0 ⟨rfl, rfl⟩ rfl hl.1 rfl (Nat.zero_le _) (by decide) dX12_school_109) hS25 (fun v36 H36 locs36 hr36 hC36 hS36 => ?_)
    obtain ⟨hp36, hr36⟩ := hr36
    have hKp36 := hKp23.tr (hp36.mono rfl)
    exact ret v36 H36 locs36 _ _ dX12_school_112 ⟨hKp36, trivial⟩ hC36 hS36
  · refine q_if_ne hx hb (a := 0) (by decide) (tgt := 24) dX12_school_15 rfl (fun c37 => absurd c37 (by omega)) (fun c37 => ?_)
    refine lv_aload_n hx hb dX12_school_18 rfl (lv_at hl 0 rfl) ?_
    refine lv_iconst (v := 2) hx hb dX12_school_19 rfl ?_
    refine q_goI (q_runV (As := [.int 2]) (rest := []) E hC23 hS25 (m_X12_refuse l X Γ H23 hC23 h0 g0 2 (a1 := 2) (by decide) ca gca uc) cw_X12_refuse cl_RX12_298 g0 ⟨rfl, rfl⟩ rfl hl.1 rfl (Nat.zero_le _) (by decide) dX12_school_20) hS25 (fun v38 H38 locs38 hr38 hC38 hS38 => ?_)
    obtain ⟨hp38, hr38⟩ := hr38
    have hKp38 := hKp23.tr (hp38.mono rfl)
    exact ret v38 H38 locs38 _ _ dX12_school_23 ⟨hKp38, trivial⟩ hC38 hS38
