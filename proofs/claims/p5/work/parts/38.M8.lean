set_option maxRecDepth 100000 in
set_option maxHeartbeats 4000000 in
theorem m_X12_readRest (l : Launch) (X : xW) (Γ : Nat → Option Nat) (H0 : Heap) (hC0 : Conf X Γ H0) (h0 : Nat) (g0 : Γ h0 = some 11) (p1 : Int32) {a1 : Int} (e1 : p1.toInt = a1) (ca : Nat) (gca : Γ ca = some 64) (uc : ∀ a, Γ a = some 64 → a = ca) (r0 : 2324 ≤ a1) (r1 : a1 ≤ 2585) : Ctr l X Γ yX12_readRest cX12_readRest 3 none 5 [.ref h0, .int p1] H0 (QV X Γ (fun H1 => Kp X Γ [1, 6, 7, 8, 9, 10, 11, 12, 14, 16, 17] H0 H1 ∧ (((sI H0 h0 (X.1.2 11 16)).toInt ≤ (sI H1 h0 (X.1.2 11 16)).toInt) ∧ ((sI H0 h0 (X.1.2 11 12)).toInt ≤ 7 * (sI H1 h0 (X.1.2 11 12)).toInt) ∧ (0 ≤ (sI H1 h0 (X.1.2 11 12)).toInt) ∧ (KB H0 H1 ca (a1 + 1)) ∧ (okP H1 ca a1 (sI H0 ca (a1).toNat).toInt (sI H1 h0 (X.1.2 11 12)).toInt)))) := by
  refine q_enterV (own := "SnowFortsModel") (by decide) rfl (Nat.le_of_ble_eq_true rfl) ?_
  intro p e s m args below meth c ls Qz E hl ret hS0
  have hx := E.1; have hb := E.2.1
  have hKp0 : Kp X Γ [1, 6, 7, 8, 9, 10, 11, 12, 14, 16, 17] H0 H0 := Kp.rf
  have hl : lv_has ls 3 [(0, .ref h0), (1, .int p1)] := hl
  have hz1 := f_bd hC0 g0 (ci := 11) (k := 16) rfl rfl
  have hz2 := f_bd hC0 g0 (ci := 11) (k := 12) rfl rfl
  have kb : KB H0 H0 ca (a1 + 1) := KB.rf
  refine lv_aload_n hx hb dX12_readRest_0 rfl (lv_at hl 0 rfl) ?_
  refine q_getC E hC0 g0 fa_RX12_35 uc dX12_readRest_1 ?_
  refine lv_iload_n hx hb dX12_readRest_4 rfl (lv_at hl 1 rfl) ?_
  refine q_cald E hC0 (lo := -2147483648) (hi := 2147483647) gca (a := a1) e1 (by omega) (by omega) (cr_n244 (by omega) (by omega)) dX12_readRest_5 (fun v21 ev21 _ _ => ?_)
  have m22 : (sI H0 ca (a1 : Int).toNat).toInt = v21.toInt := congrArg Int32.toInt ev21
  refine lv_istore_n hx hb dX12_readRest_6 rfl hl (by decide) rfl (fun ls hl => ?_)
  have hl : lv_has ls 3 [(2, .int v21), (0, .ref h0), (1, .int p1)] := hl
  refine lv_iload_n hx hb dX12_readRest_7 rfl (lv_at hl 0 rfl) ?_
  refine lv_iconst (v := 2) hx hb dX12_readRest_8 rfl ?_
  refine q_icmp_ge hx hb (a := v21.toInt) (b := 2) rfl (by decide) (tgt := 30) dX12_readRest_9 rfl (fun c23 => ?_) (fun c23 => ?_)
  · refine lv_iload_n hx hb dX12_readRest_30 rfl (lv_at hl 0 rfl) ?_
    refine lv_iconst (v := 2) hx hb dX12_readRest_31 rfl ?_
    refine q_icmp_ne hx hb (a := v21.toInt) (b := 2) rfl (by decide) (tgt := 83) dX12_readRest_32 rfl (fun c24 => ?_) (fun c24 => ?_)
    · refine lv_iload_n hx hb dX12_readRest_83 rfl (lv_at hl 0 rfl) ?_
      refine lv_iconst (v := 3) hx hb dX12_readRest_84 rfl ?_
      refine q_icmp_ne hx hb (a := v21.toInt) (b := 3) rfl (by decide) (tgt := 127) dX12_readRest_85 rfl (fun c25 => ?_) (fun c25 => ?_)
      · refine lv_iload_n hx hb dX12_readRest_127 rfl (lv_at hl 0 rfl) ?_
        refine lv_iconst (v := 4) hx hb dX12_readRest_128 rfl ?_
        refine q_icmp_ne hx hb (a := v21.toInt) (b := 4) rfl (by decide) (tgt := 148) dX12_readRest_129 rfl (fun c26 => ?_) (fun c26 => ?_)
        · refine lv_iload_n hx hb dX12_readRest_148 rfl (lv_at hl 0 rfl) ?_
          refine lv_iconst (v := 5) hx hb dX12_readRest_149 rfl ?_
          refine q_icmp_ne hx hb (a := v21.toInt) (b := 5) rfl (by decide) (tgt := 161) dX12_readRest_150 rfl (fun c27 => ?_) (fun c27 => ?_)
          · refine lv_iload_n hx hb dX12_readRest_161 rfl (lv_at hl 0 rfl) ?_
            refine lv_bipush (v := 7) hx hb dX12_readRest_162 rfl ?_
            refine q_icmp_ne hx hb (a := v21.toInt) (b := 7) rfl (by decide) (tgt := 175) dX12_readRest_164 rfl (fun c28 => ?_) (fun c28 => ?_)
            · refine lv_iload_n hx hb dX12_readRest_175 rfl (lv_at hl 0 rfl) ?_
              refine lv_bipush (v := 8) hx hb dX12_readRest_176 rfl ?_
              refine q_icmp_ne hx hb (a := v21.toInt) (b := 8) rfl (by decide) (tgt := 196) dX12_readRest_178 rfl (fun c29 => ?_) (fun c29 => ?_)
              · have hz8 := tk_nn (sI H0 h0 (X.1.2 11 14)).toInt
                have okp : okP H0 ca a1 (sI H0 ca a1.toNat).toInt (sI H0 h0 (X.1.2 11 12)).toInt := ⟨congrArg Int32.toInt (KB.at kb (by omega) (by omega)), by omega, by omega, by omega, by omega, by omega⟩
                exact ret H0 [] _ _ dX12_readRest_196 ⟨hKp0, ⟨by omega, by omega, by omega, kb, okp⟩⟩ hC0 hS0
              · refine lv_aload_n hx hb dX12_readRest_181 rfl (lv_at hl 1 rfl) ?_
                refine q_getC E hC0 g0 fa_RX12_35 uc dX12_readRest_182 ?_
                refine lv_iload_n hx hb dX12_readRest_185 rfl (lv_at hl 2 rfl) ?_
                refine lv_iconst (v := 1) hx hb dX12_readRest_186 rfl ?_
                refine lv_iadd hx hb dX12_readRest_187 (lv_topi (fun v30 ev30 => ?_))
                have ev30i : v30.toInt = (a1 + 1) := i_add ev30 e1 (by decide) (by omega) (by omega)
                refine lv_aload_n hx hb dX12_readRest_188 rfl (lv_at hl 1 rfl) ?_
                refine lv_iconst (v := 1) hx hb dX12_readRest_189 rfl ?_
                refine lv_bipush (v := 99) hx hb dX12_readRest_190 rfl ?_
                refine q_goI (q_runV (As := [.int 1, .int 99]) (rest := [.int v30, .ref ca]) E hC0 hS0 (m_X12_count l X Γ H0 hC0 h0 g0 1 (a1 := 1) (by decide) 99 (a2 := 99) (by decide) ca gca uc (by omega) (by omega) (by omega) (by omega)) cw_X12_count cl_RX12_248 g0 ⟨rfl, rfl⟩ rfl hl.1 rfl (show _ ≤ _ from by simp [Value.category]) (by decide) dX12_readRest_192) hS0 (fun v31 H31 locs31 hr31 hC31 hS31 => ?_)
                obtain ⟨hp31, hr31⟩ := hr31
                have hKp31 := hKp0.tr (hp31.mono rfl)
                have kb : KB H0 H31 ca (a1 + 1) := KB.kp kb hp31 gca rfl
                obtain ⟨f31_0, f31_1, f31_2, f31_3, f31_4, f31_5, f31_6, f31_7⟩ := hr31
                refine q_cast E hC31 hS31 gca (a := (a1 + 1)) ev30i (by omega) (by omega) (cs_n244 (a := (a1 + 1)) (by omega) (by omega)) dX12_readRest_195 (fun H32 locs32 hC32 hS32 U32 => ?_)
                have hKp32 := Kp.upD gca rfl rfl (fun _ => ⟨fun _ => nd4 (by omega) (by omega), fun _ => by unfold dpu; omega, fun _ => by unfold dpn; omega⟩) U32 hKp31
                have kb : KB H0 H32 ca (a1 + 1) := KB.up kb U32 (by omega)
                have m33 : (sI H32 h0 (X.1.2 11 12)).toInt = (sI H31 h0 (X.1.2 11 12)).toInt := congrArg Int32.toInt (up_nI U32 (ne_k g0 gca (by decide)))
                have m34 : (sI H32 h0 (X.1.2 11 14)).toInt = (sI H31 h0 (X.1.2 11 14)).toInt := congrArg Int32.toInt (up_nI U32 (ne_k g0 gca (by decide)))
                have m35 := congrArg tk m34
                have m36 : (sI H32 h0 (X.1.2 11 16)).toInt = (sI H31 h0 (X.1.2 11 16)).toInt := congrArg Int32.toInt (up_nI U32 (ne_k g0 gca (by decide)))
                have e37 := up_I U32
                have m38 : (sI H32 ca ((a1 + 1)).toNat).toInt = v31.toInt := (congrArg Int32.toInt e37).trans rfl
                have hz8 := tk_nn (sI H32 h0 (X.1.2 11 14)).toInt
                have okp : okP H32 ca a1 (sI H0 ca a1.toNat).toInt (sI H32 h0 (X.1.2 11 12)).toInt := ⟨congrArg Int32.toInt (KB.at kb (by omega) (by omega)), by omega, by omega, by omega, by omega, by omega⟩
                exact ret H32 locs32 _ _ dX12_readRest_196 ⟨hKp32, ⟨by omega, by omega, by omega, kb, okp⟩⟩ hC32 hS32
            · refine lv_aload_n hx hb dX12_readRest_167 rfl (lv_at hl 1 rfl) ?_
              refine lv_iload_n hx hb dX12_readRest_168 rfl (lv_at hl 2 rfl) ?_
              refine q_goV (q_runV (As := [.int p1]) (rest := []) E hC0 hS0 (m_X12_readTest l X Γ H0 hC0 h0 g0 p1 (a1 := a1) e1 ca gca uc (by omega) (by omega)) cw_X12_readTest cl_RX12_280 g0 ⟨rfl, rfl⟩ rfl hl.1 rfl (Nat.zero_le _) (by decide) dX12_readRest_169) hS0 (fun H39 locs39 hr39 hC39 hS39 => ?_)
              obtain ⟨hp39, hr39⟩ := hr39
              have hKp39 := hKp0.tr (hp39.mono rfl)
              obtain ⟨f39_0, f39_1, f39_2, f39_3, f39_4, f39_5⟩ := hr39
              refine lv_goto (tgt := 196) hx hb dX12_readRest_172 rfl ?_
              have hz8 := tk_nn (sI H39 h0 (X.1.2 11 14)).toInt
              have okp : okP H39 ca a1 (sI H0 ca a1.toNat).toInt (sI H39 h0 (X.1.2 11 12)).toInt := ⟨congrArg Int32.toInt (KB.at kb (by omega) (by omega)), by omega, by omega, by omega, by omega, by omega⟩
              exact ret H39 locs39 _ _ dX12_readRest_196 ⟨hKp39, ⟨by omega, by omega, by omega, kb, okp⟩⟩ hC39 hS39
          · refine lv_aload_n hx hb dX12_readRest_153 rfl (lv_at hl 1 rfl) ?_
            refine lv_iload_n hx hb dX12_readRest_154 rfl (lv_at hl 2 rfl) ?_
            refine q_goV (q_runV (As := [.int p1]) (rest := []) E hC0 hS0 (m_X12_readSteal l X Γ H0 hC0 h0 g0 p1 (a1 := a1) e1 ca gca uc (by omega) (by omega)) cw_X12_readSteal cl_RX12_277 g0 ⟨rfl, rfl⟩ rfl hl.1 rfl (Nat.zero_le _) (by decide) dX12_readRest_155) hS0 (fun H40 locs40 hr40 hC40 hS40 => ?_)
            obtain ⟨hp40, hr40⟩ := hr40
            have hKp40 := hKp0.tr (hp40.mono rfl)
            obtain ⟨f40_0, f40_1, f40_2, f40_3, f40_4, f40_5, f40_6, f40_7, f40_8, f40_9⟩ := hr40
            refine lv_goto (tgt := 196) hx hb dX12_readRest_158 rfl ?_
            have hz8 := tk_nn (sI H40 h0 (X.1.2 11 14)).toInt
            have okp : okP H40 ca a1 (sI H0 ca a1.toNat).toInt (sI H40 h0 (X.1.2 11 12)).toInt := ⟨congrArg Int32.toInt (KB.at kb (by omega) (by omega)), by omega, by omega, by omega, by omega, by omega⟩
            exact ret H40 locs40 _ _ dX12_readRest_196 ⟨hKp40, ⟨by omega, by omega, by omega, kb, okp⟩⟩ hC40 hS40
        · refine lv_aload_n hx hb dX12_readRest_132 rfl (lv_at hl 1 rfl) ?_
          refine q_getC E hC0 g0 fa_RX12_35 uc dX12_readRest_133 ?_
          refine lv_iload_n hx hb dX12_readRest_136 rfl (lv_at hl 2 rfl) ?_
          refine lv_iconst (v := 1) hx hb dX12_readRest_137 rfl ?_
          refine lv_iadd hx hb dX12_readRest_138 (lv_topi (fun v41 ev41 => ?_))
          have ev41i : v41.toInt = (a1 + 1) := i_add ev41 e1 (by decide) (by omega) (by omega)
          refine lv_aload_n hx hb dX12_readRest_139 rfl (lv_at hl 1 rfl) ?_
          refine lv_iconst (v := 1) hx hb dX12_readRest_140 rfl ?_
          refine q_goI (q_runV (As := [.int 1]) (rest := [.int v41, .ref ca]) E hC0 hS0 (m_X12_readPlace l X Γ H0 hC0 h0 g0 1 (a1 := 1) (by decide) ca gca uc) cw_X12_readPlace cl_RX12_273 g0 ⟨rfl, rfl⟩ rfl hl.1 rfl (show _ ≤ _ from by simp [Value.category]) (by decide) dX12_readRest_141) hS0 (fun v42 H42 locs42 hr42 hC42 hS42 => ?_)
          obtain ⟨hp42, hr42⟩ := hr42
          have hKp42 := hKp0.tr (hp42.mono rfl)
          have kb : KB H0 H42 ca (a1 + 1) := KB.kp kb hp42 gca rfl
          obtain ⟨f42_0, f42_1, f42_2, f42_3, f42_4, f42_5⟩ := hr42
          refine q_cast E hC42 hS42 gca (a := (a1 + 1)) ev41i (by omega) (by omega) (cs_n244 (a := (a1 + 1)) (by omega) (by omega)) dX12_readRest_144 (fun H43 locs43 hC43 hS43 U43 => ?_)
          have hKp43 := Kp.upD gca rfl rfl (fun _ => ⟨fun _ => nd4 (by omega) (by omega), fun _ => by unfold dpu; omega, fun _ => by unfold dpn; omega⟩) U43 hKp42
          have kb : KB H0 H43 ca (a1 + 1) := KB.up kb U43 (by omega)
          have m44 : (sI H43 h0 (X.1.2 11 12)).toInt = (sI H42 h0 (X.1.2 11 12)).toInt := congrArg Int32.toInt (up_nI U43 (ne_k g0 gca (by decide)))
          have m45 : (sI H43 h0 (X.1.2 11 14)).toInt = (sI H42 h0 (X.1.2 11 14)).toInt := congrArg Int32.toInt (up_nI U43 (ne_k g0 gca (by decide)))
          have m46 := congrArg tk m45
          have m47 : (sI H43 h0 (X.1.2 11 16)).toInt = (sI H42 h0 (X.1.2 11 16)).toInt := congrArg Int32.toInt (up_nI U43 (ne_k g0 gca (by decide)))
          have e48 := up_I U43
          refine lv_goto (tgt := 196) hx hb dX12_readRest_145 rfl ?_
          have m49 : (sI H43 ca ((a1 + 1)).toNat).toInt = v42.toInt := (congrArg Int32.toInt e48).trans rfl
          have hz8 := tk_nn (sI H43 h0 (X.1.2 11 14)).toInt
          have okp : okP H43 ca a1 (sI H0 ca a1.toNat).toInt (sI H43 h0 (X.1.2 11 12)).toInt := ⟨congrArg Int32.toInt (KB.at kb (by omega) (by omega)), by omega, by omega, by omega, by omega, by omega⟩
          exact ret H43 locs43 _ _ dX12_readRest_196 ⟨hKp43, ⟨by omega, by omega, by omega, kb, okp⟩⟩ hC43 hS43
      · refine lv_aload_n hx hb dX12_readRest_88 rfl (lv_at hl 1 rfl) ?_
        refine q_getC E hC0 g0 fa_RX12_35 uc dX12_readRest_89 ?_
        refine lv_iload_n hx hb dX12_readRest_92 rfl (lv_at hl 2 rfl) ?_
        refine lv_iconst (v := 1) hx hb dX12_readRest_93 rfl ?_
        refine lv_iadd hx hb dX12_readRest_94 (lv_topi (fun v50 ev50 => ?_))
        have ev50i : v50.toInt = (a1 + 1) := i_add ev50 e1 (by decide) (by omega) (by omega)
        refine lv_aload_n hx hb dX12_readRest_95 rfl (lv_at hl 1 rfl) ?_
        refine lv_iconst (v := 1) hx hb dX12_readRest_96 rfl ?_
        refine q_goI (q_runV (As := [.int 1]) (rest := [.int v50, .ref ca]) E hC0 hS0 (m_X12_readPlace l X Γ H0 hC0 h0 g0 1 (a1 := 1) (by decide) ca gca uc) cw_X12_readPlace cl_RX12_273 g0 ⟨rfl, rfl⟩ rfl hl.1 rfl (show _ ≤ _ from by simp [Value.category]) (by decide) dX12_readRest_97) hS0 (fun v51 H51 locs51 hr51 hC51 hS51 => ?_)
        obtain ⟨hp51, hr51⟩ := hr51
        have hKp51 := hKp0.tr (hp51.mono rfl)
        have kb : KB H0 H51 ca (a1 + 1) := KB.kp kb hp51 gca rfl
        obtain ⟨f51_0, f51_1, f51_2, f51_3, f51_4, f51_5⟩ := hr51
        refine q_cast E hC51 hS51 gca (a := (a1 + 1)) ev50i (by omega) (by omega) (cs_n244 (a := (a1 + 1)) (by omega) (by omega)) dX12_readRest_100 (fun H52 locs52 hC52 hS52 U52 => ?_)
        have hKp52 := Kp.upD gca rfl rfl (fun _ => ⟨fun _ => nd4 (by omega) (by omega), fun _ => by unfold dpu; omega, fun _ => by unfold dpn; omega⟩) U52 hKp51
        have kb : KB H0 H52 ca (a1 + 1) := KB.up kb U52 (by omega)
        have m53 : (sI H52 h0 (X.1.2 11 12)).toInt = (sI H51 h0 (X.1.2 11 12)).toInt := congrArg Int32.toInt (up_nI U52 (ne_k g0 gca (by decide)))
        have m54 : (sI H52 h0 (X.1.2 11 14)).toInt = (sI H51 h0 (X.1.2 11 14)).toInt := congrArg Int32.toInt (up_nI U52 (ne_k g0 gca (by decide)))
        have m55 := congrArg tk m54
        have m56 : (sI H52 h0 (X.1.2 11 16)).toInt = (sI H51 h0 (X.1.2 11 16)).toInt := congrArg Int32.toInt (up_nI U52 (ne_k g0 gca (by decide)))
        have e57 := up_I U52
        refine lv_aload_n hx hb dX12_readRest_101 rfl (lv_at hl 1 rfl) ?_
        refine lv_aload_n hx hb dX12_readRest_102 rfl (lv_at hl 1 rfl) ?_
        refine q_goIp (q_runV (As := []) (rest := [.ref h0]) E hC52 hS52 (m_X12_isBy l X Γ H52 hC52 h0 g0 ca gca uc) cw_X12_isBy cl_RX12_190 g0 ⟨rfl, rfl⟩ rfl hl.1 rfl (show _ ≤ _ from by simp [Value.category]) (by decide) dX12_readRest_103) hS52 (fun v58 locs58 hr58 hS58 => ?_)
        have b58 : v58.toInt = 0 ∨ v58.toInt = 1 := hr58.imp (fun h => by rw [h]; decide) (fun h => by rw [h]; decide)
        refine q_goV (q_runV (As := [.int v58]) (rest := []) E hC52 hS58 (m_X12_must l X Γ H52 hC52 h0 g0 v58 (a1 := v58.toInt) rfl ca gca uc (by omega) (by omega)) cw_X12_must cl_RX12_244 g0 ⟨rfl, rfl⟩ rfl hl.1 rfl (Nat.zero_le _) (by decide) dX12_readRest_106) hS58 (fun H59 locs59 hr59 hC59 hS59 => ?_)
        obtain ⟨hp59, hr59⟩ := hr59
        have hKp59 := hKp52.tr (hp59.mono rfl)
        have kb : KB H0 H59 ca (a1 + 1) := KB.kp kb hp59 gca rfl
        obtain ⟨f59_0, f59_1, f59_2, f59_3, f59_4⟩ := hr59
        refine lv_aload_n hx hb dX12_readRest_109 rfl (lv_at hl 1 rfl) ?_
        refine q_getC E hC59 g0 fa_RX12_35 uc dX12_readRest_110 ?_
        refine lv_iload_n hx hb dX12_readRest_113 rfl (lv_at hl 2 rfl) ?_
        refine lv_iconst (v := 2) hx hb dX12_readRest_114 rfl ?_
        refine lv_iadd hx hb dX12_readRest_115 (lv_topi (fun v60 ev60 => ?_))
        have ev60i : v60.toInt = (a1 + 2) := i_add ev60 e1 (by decide) (by omega) (by omega)
        refine lv_aload_n hx hb dX12_readRest_116 rfl (lv_at hl 1 rfl) ?_
        refine lv_iconst (v := 1) hx hb dX12_readRest_117 rfl ?_
        refine lv_bipush (v := 40) hx hb dX12_readRest_118 rfl ?_
        refine q_goI (q_runV (As := [.int 1, .int 40]) (rest := [.int v60, .ref ca]) E hC59 hS59 (m_X12_count l X Γ H59 hC59 h0 g0 1 (a1 := 1) (by decide) 40 (a2 := 40) (by decide) ca gca uc (by omega) (by omega) (by omega) (by omega)) cw_X12_count cl_RX12_248 g0 ⟨rfl, rfl⟩ rfl hl.1 rfl (show _ ≤ _ from by simp [Value.category]) (by decide) dX12_readRest_120) hS59 (fun v61 H61 locs61 hr61 hC61 hS61 => ?_)
        obtain ⟨hp61, hr61⟩ := hr61
        have hKp61 := hKp59.tr (hp61.mono rfl)
        have kb : KB H0 H61 ca (a1 + 1) := KB.kp kb hp61 gca rfl
        obtain ⟨f61_0, f61_1, f61_2, f61_3, f61_4, f61_5, f61_6, f61_7⟩ := hr61
        refine q_cast E hC61 hS61 gca (a := (a1 + 2)) ev60i (by omega) (by omega) (cs_n244 (a := (a1 + 2)) (by omega) (by omega)) dX12_readRest_123 (fun H62 locs62 hC62 hS62 U62 => ?_)
        have hKp62 := Kp.upD gca rfl rfl (fun _ => ⟨fun _ => nd4 (by omega) (by omega), fun _ => by unfold dpu; omega, fun _ => by unfold dpn; omega⟩) U62 hKp61
        have kb : KB H0 H62 ca (a1 + 1) := KB.up kb U62 (by omega)
        have m63 : (sI H62 h0 (X.1.2 11 12)).toInt = (sI H61 h0 (X.1.2 11 12)).toInt := congrArg Int32.toInt (up_nI U62 (ne_k g0 gca (by decide)))
        have m64 : (sI H62 h0 (X.1.2 11 14)).toInt = (sI H61 h0 (X.1.2 11 14)).toInt := congrArg Int32.toInt (up_nI U62 (ne_k g0 gca (by decide)))
        have m65 := congrArg tk m64
        have m66 : (sI H62 h0 (X.1.2 11 16)).toInt = (sI H61 h0 (X.1.2 11 16)).toInt := congrArg Int32.toInt (up_nI U62 (ne_k g0 gca (by decide)))
        have e67 := up_I U62
        refine lv_goto (tgt := 196) hx hb dX12_readRest_124 rfl ?_
        have e68 := (kp_c (j := ((a1 + 1) : Int).toNat) hp59 gca rfl).trans e57
        have e69 := (kp_c (j := ((a1 + 1) : Int).toNat) hp61 gca rfl).trans e68
        have e70 := (up_nI (a' := ca) (j' := ((a1 + 1) : Int).toNat) U62 (fun h => by have h2 := h.2; omega)).trans e69
        have m71 : (sI H62 ca ((a1 + 1)).toNat).toInt = v51.toInt := (congrArg Int32.toInt e70).trans rfl
        have m72 : (sI H62 ca ((a1 + 2)).toNat).toInt = v61.toInt := (congrArg Int32.toInt e67).trans rfl
        have hz8 := tk_nn (sI H62 h0 (X.1.2 11 14)).toInt
        have okp : okP H62 ca a1 (sI H0 ca a1.toNat).toInt (sI H62 h0 (X.1.2 11 12)).toInt := ⟨congrArg Int32.toInt (KB.at kb (by omega) (by omega)), by omega, by omega, by omega, by omega, by omega⟩
        exact ret H62 locs62 _ _ dX12_readRest_196 ⟨hKp62, ⟨by omega, by omega, by omega, kb, okp⟩⟩ hC62 hS62
    · refine lv_aload_n hx hb dX12_readRest_35 rfl (lv_at hl 1 rfl) ?_
      refine q_getC E hC0 g0 fa_RX12_35 uc dX12_readRest_36 ?_
      refine lv_iload_n hx hb dX12_readRest_39 rfl (lv_at hl 2 rfl) ?_
      refine lv_iconst (v := 1) hx hb dX12_readRest_40 rfl ?_
      refine lv_iadd hx hb dX12_readRest_41 (lv_topi (fun v73 ev73 => ?_))
      have ev73i : v73.toInt = (a1 + 1) := i_add ev73 e1 (by decide) (by omega) (by omega)
      refine lv_aload_n hx hb dX12_readRest_42 rfl (lv_at hl 1 rfl) ?_
      refine lv_iconst (v := 0) hx hb dX12_readRest_43 rfl ?_
      refine lv_bipush (v := 40) hx hb dX12_readRest_44 rfl ?_
      refine q_goI (q_runV (As := [.int 0, .int 40]) (rest := [.int v73, .ref ca]) E hC0 hS0 (m_X12_count l X Γ H0 hC0 h0 g0 0 (a1 := 0) (by decide) 40 (a2 := 40) (by decide) ca gca uc (by omega) (by omega) (by omega) (by omega)) cw_X12_count cl_RX12_248 g0 ⟨rfl, rfl⟩ rfl hl.1 rfl (show _ ≤ _ from by simp [Value.category]) (by decide) dX12_readRest_46) hS0 (fun v74 H74 locs74 hr74 hC74 hS74 => ?_)
      obtain ⟨hp74, hr74⟩ := hr74
      have hKp74 := hKp0.tr (hp74.mono rfl)
      have kb : KB H0 H74 ca (a1 + 1) := KB.kp kb hp74 gca rfl
      obtain ⟨f74_0, f74_1, f74_2, f74_3, f74_4, f74_5, f74_6, f74_7⟩ := hr74
      refine q_cast E hC74 hS74 gca (a := (a1 + 1)) ev73i (by omega) (by omega) (cs_n244 (a := (a1 + 1)) (by omega) (by omega)) dX12_readRest_49 (fun H75 locs75 hC75 hS75 U75 => ?_)
      have hKp75 := Kp.upD gca rfl rfl (fun _ => ⟨fun _ => nd4 (by omega) (by omega), fun _ => by unfold dpu; omega, fun _ => by unfold dpn; omega⟩) U75 hKp74
      have kb : KB H0 H75 ca (a1 + 1) := KB.up kb U75 (by omega)
      have m76 : (sI H75 h0 (X.1.2 11 12)).toInt = (sI H74 h0 (X.1.2 11 12)).toInt := congrArg Int32.toInt (up_nI U75 (ne_k g0 gca (by decide)))
      have m77 : (sI H75 h0 (X.1.2 11 14)).toInt = (sI H74 h0 (X.1.2 11 14)).toInt := congrArg Int32.toInt (up_nI U75 (ne_k g0 gca (by decide)))
      have m78 := congrArg tk m77
      have m79 : (sI H75 h0 (X.1.2 11 16)).toInt = (sI H74 h0 (X.1.2 11 16)).toInt := congrArg Int32.toInt (up_nI U75 (ne_k g0 gca (by decide)))
      have e80 := up_I U75
      refine lv_aload_n hx hb dX12_readRest_50 rfl (lv_at hl 1 rfl) ?_
      refine lv_aload_n hx hb dX12_readRest_51 rfl (lv_at hl 1 rfl) ?_
      refine q_goIp (q_runV (As := []) (rest := [.ref h0]) E hC75 hS75 (m_X12_isTo l X Γ H75 hC75 h0 g0 ca gca uc) cw_X12_isTo cl_RX12_202 g0 ⟨rfl, rfl⟩ rfl hl.1 rfl (show _ ≤ _ from by simp [Value.category]) (by decide) dX12_readRest_52) hS75 (fun v81 locs81 hr81 hS81 => ?_)
      have b81 : v81.toInt = 0 ∨ v81.toInt = 1 := hr81.imp (fun h => by rw [h]; decide) (fun h => by rw [h]; decide)
      refine q_goV (q_runV (As := [.int v81]) (rest := []) E hC75 hS81 (m_X12_must l X Γ H75 hC75 h0 g0 v81 (a1 := v81.toInt) rfl ca gca uc (by omega) (by omega)) cw_X12_must cl_RX12_244 g0 ⟨rfl, rfl⟩ rfl hl.1 rfl (Nat.zero_le _) (by decide) dX12_readRest_55) hS81 (fun H82 locs82 hr82 hC82 hS82 => ?_)
      obtain ⟨hp82, hr82⟩ := hr82
      have hKp82 := hKp75.tr (hp82.mono rfl)
      have kb : KB H0 H82 ca (a1 + 1) := KB.kp kb hp82 gca rfl
      obtain ⟨f82_0, f82_1, f82_2, f82_3, f82_4⟩ := hr82
      refine lv_aload_n hx hb dX12_readRest_58 rfl (lv_at hl 1 rfl) ?_
      refine q_getC E hC82 g0 fa_RX12_35 uc dX12_readRest_59 ?_
      refine lv_iload_n hx hb dX12_readRest_62 rfl (lv_at hl 2 rfl) ?_
      refine lv_iconst (v := 2) hx hb dX12_readRest_63 rfl ?_
      refine lv_iadd hx hb dX12_readRest_64 (lv_topi (fun v83 ev83 => ?_))
      have ev83i : v83.toInt = (a1 + 2) := i_add ev83 e1 (by decide) (by omega) (by omega)
      refine lv_aload_n hx hb dX12_readRest_65 rfl (lv_at hl 1 rfl) ?_
      refine lv_aload_n hx hb dX12_readRest_66 rfl (lv_at hl 1 rfl) ?_
      refine q_getC E hC82 g0 fa_RX12_35 uc dX12_readRest_67 ?_
      refine lv_iload_n hx hb dX12_readRest_70 rfl (lv_at hl 2 rfl) ?_
      refine lv_iconst (v := 1) hx hb dX12_readRest_71 rfl ?_
      refine lv_iadd hx hb dX12_readRest_72 (lv_topi (fun v84 ev84 => ?_))
      have ev84i : v84.toInt = (a1 + 1) := i_add ev84 e1 (by decide) (by omega) (by omega)
      have e86 := (kp_c (j := ((a1 + 1) : Int).toNat) hp82 gca rfl).trans e80
      refine q_cald E hC82 (lo := -2147483648) (hi := 2147483647) gca (a := (a1 + 1)) ev84i (by omega) (by omega) (cr_n244 (by omega) (by omega)) dX12_readRest_73 (fun v85 ev85 _ _ => ?_)
      have qv85 := e86.symm.trans ev85; subst qv85
      refine lv_bipush (v := 40) hx hb dX12_readRest_74 rfl ?_
      refine q_goI (q_runV (As := [.int v74, .int 40]) (rest := [.int v83, .ref ca]) E hC82 hS82 (m_X12_count l X Γ H82 hC82 h0 g0 v74 (a1 := v74.toInt) rfl 40 (a2 := 40) (by decide) ca gca uc (by omega) (by omega) (by omega) (by omega)) cw_X12_count cl_RX12_248 g0 ⟨rfl, rfl⟩ rfl hl.1 rfl (show _ ≤ _ from by simp [Value.category]) (by decide) dX12_readRest_76) hS82 (fun v87 H87 locs87 hr87 hC87 hS87 => ?_)
      obtain ⟨hp87, hr87⟩ := hr87
      have hKp87 := hKp82.tr (hp87.mono rfl)
      have kb : KB H0 H87 ca (a1 + 1) := KB.kp kb hp87 gca rfl
      obtain ⟨f87_0, f87_1, f87_2, f87_3, f87_4, f87_5, f87_6, f87_7⟩ := hr87
      refine q_cast E hC87 hS87 gca (a := (a1 + 2)) ev83i (by omega) (by omega) (cs_n244 (a := (a1 + 2)) (by omega) (by omega)) dX12_readRest_79 (fun H88 locs88 hC88 hS88 U88 => ?_)
      have hKp88 := Kp.upD gca rfl rfl (fun _ => ⟨fun _ => nd4 (by omega) (by omega), fun _ => by unfold dpu; omega, fun _ => by unfold dpn; omega⟩) U88 hKp87
      have kb : KB H0 H88 ca (a1 + 1) := KB.up kb U88 (by omega)
      have m89 : (sI H88 h0 (X.1.2 11 12)).toInt = (sI H87 h0 (X.1.2 11 12)).toInt := congrArg Int32.toInt (up_nI U88 (ne_k g0 gca (by decide)))
      have m90 : (sI H88 h0 (X.1.2 11 14)).toInt = (sI H87 h0 (X.1.2 11 14)).toInt := congrArg Int32.toInt (up_nI U88 (ne_k g0 gca (by decide)))
      have m91 := congrArg tk m90
      have m92 : (sI H88 h0 (X.1.2 11 16)).toInt = (sI H87 h0 (X.1.2 11 16)).toInt := congrArg Int32.toInt (up_nI U88 (ne_k g0 gca (by decide)))
      have e93 := up_I U88
      refine lv_goto (tgt := 196) hx hb dX12_readRest_80 rfl ?_
      have e94 := (kp_c (j := ((a1 + 1) : Int).toNat) hp87 gca rfl).trans e86
      have e95 := (up_nI (a' := ca) (j' := ((a1 + 1) : Int).toNat) U88 (fun h => by have h2 := h.2; omega)).trans e94
      have m96 : (sI H88 ca ((a1 + 1)).toNat).toInt = v74.toInt := (congrArg Int32.toInt e95).trans rfl
      have m97 : (sI H88 ca ((a1 + 2)).toNat).toInt = v87.toInt := (congrArg Int32.toInt e93).trans rfl
      have hz8 := tk_nn (sI H88 h0 (X.1.2 11 14)).toInt
      have okp : okP H88 ca a1 (sI H0 ca a1.toNat).toInt (sI H88 h0 (X.1.2 11 12)).toInt := ⟨congrArg Int32.toInt (KB.at kb (by omega) (by omega)), by omega, by omega, by omega, by omega, by omega⟩
      exact ret H88 locs88 _ _ dX12_readRest_196 ⟨hKp88, ⟨by omega, by omega, by omega, kb, okp⟩⟩ hC88 hS88
  · refine lv_aload_n hx hb dX12_readRest_12 rfl (lv_at hl 1 rfl) ?_
    refine q_getC E hC0 g0 fa_RX12_35 uc dX12_readRest_13 ?_
    refine lv_iload_n hx hb dX12_readRest_16 rfl (lv_at hl 2 rfl) ?_
    refine lv_iconst (v := 1) hx hb dX12_readRest_17 rfl ?_
    refine lv_iadd hx hb dX12_readRest_18 (lv_topi (fun v98 ev98 => ?_))
    have ev98i : v98.toInt = (a1 + 1) := i_add ev98 e1 (by decide) (by omega) (by omega)
    refine lv_aload_n hx hb dX12_readRest_19 rfl (lv_at hl 1 rfl) ?_
    refine lv_iconst (v := 0) hx hb dX12_readRest_20 rfl ?_
    refine lv_bipush (v := 40) hx hb dX12_readRest_21 rfl ?_
    refine q_goI (q_runV (As := [.int 0, .int 40]) (rest := [.int v98, .ref ca]) E hC0 hS0 (m_X12_count l X Γ H0 hC0 h0 g0 0 (a1 := 0) (by decide) 40 (a2 := 40) (by decide) ca gca uc (by omega) (by omega) (by omega) (by omega)) cw_X12_count cl_RX12_248 g0 ⟨rfl, rfl⟩ rfl hl.1 rfl (show _ ≤ _ from by simp [Value.category]) (by decide) dX12_readRest_23) hS0 (fun v99 H99 locs99 hr99 hC99 hS99 => ?_)
    obtain ⟨hp99, hr99⟩ := hr99
    have hKp99 := hKp0.tr (hp99.mono rfl)
    have kb : KB H0 H99 ca (a1 + 1) := KB.kp kb hp99 gca rfl
    obtain ⟨f99_0, f99_1, f99_2, f99_3, f99_4, f99_5, f99_6, f99_7⟩ := hr99
    refine q_cast E hC99 hS99 gca (a := (a1 + 1)) ev98i (by omega) (by omega) (cs_n244 (a := (a1 + 1)) (by omega) (by omega)) dX12_readRest_26 (fun H100 locs100 hC100 hS100 U100 => ?_)
    have hKp100 := Kp.upD gca rfl rfl (fun _ => ⟨fun _ => nd4 (by omega) (by omega), fun _ => by unfold dpu; omega, fun _ => by unfold dpn; omega⟩) U100 hKp99
    have kb : KB H0 H100 ca (a1 + 1) := KB.up kb U100 (by omega)
    have m101 : (sI H100 h0 (X.1.2 11 12)).toInt = (sI H99 h0 (X.1.2 11 12)).toInt := congrArg Int32.toInt (up_nI U100 (ne_k g0 gca (by decide)))
    have m102 : (sI H100 h0 (X.1.2 11 14)).toInt = (sI H99 h0 (X.1.2 11 14)).toInt := congrArg Int32.toInt (up_nI U100 (ne_k g0 gca (by decide)))
    have m103 := congrArg tk m102
    have m104 : (sI H100 h0 (X.1.2 11 16)).toInt = (sI H99 h0 (X.1.2 11 16)).toInt := congrArg Int32.toInt (up_nI U100 (ne_k g0 gca (by decide)))
    have e105 := up_I U100
    refine lv_goto (tgt := 196) hx hb dX12_readRest_27 rfl ?_
    have m106 : (sI H100 ca ((a1 + 1)).toNat).toInt = v99.toInt := (congrArg Int32.toInt e105).trans rfl
    have hz8 := tk_nn (sI H100 h0 (X.1.2 11 14)).toInt
    have okp : okP H100 ca a1 (sI H0 ca a1.toNat).toInt (sI H100 h0 (X.1.2 11 12)).toInt := ⟨congrArg Int32.toInt (KB.at kb (by omega) (by omega)), by omega, by omega, by omega, by omega, by omega⟩
    exact ret H100 locs100 _ _ dX12_readRest_196 ⟨hKp100, ⟨by omega, by omega, by omega, kb, okp⟩⟩ hC100 hS100
set_option maxRecDepth 100000 in
set_option maxHeartbeats 4000000 in
theorem m_X12_readStep (l : Launch) (X : xW) (Γ : Nat → Option Nat) : ∀ (d : Nat) (H0 : Heap) (hC0 : Conf X Γ H0) (h0 : Nat) (g0 : Γ h0 = some 11) (p1 : Int32) {a1 : Int} (e1 : p1.toInt = a1) (ca : Nat) (gca : Γ ca = some 64) (uc : ∀ a, Γ a = some 64 → a = ca) (r0 : a1 = 3 - (d : Int)) (r1 : 0 ≤ a1) (r2 : a1 ≤ 3), Ctr l X Γ yX12_readStep cX12_readStep 5 none (6 + d) [.ref h0, .int p1] H0 (QV X Γ (fun H1 => Kp X Γ [1, 6, 7, 8, 9, 10, 11, 12, 16, 17] H0 H1 ∧ (((sI H0 h0 (X.1.2 11 25)).toInt + 1 ≤ (sI H1 h0 (X.1.2 11 25)).toInt + 100 * (sI H1 h0 (X.1.2 11 12)).toInt) ∧ ((sI H0 h0 (X.1.2 11 25)).toInt ≤ (sI H1 h0 (X.1.2 11 25)).toInt) ∧ ((sI H1 h0 (X.1.2 11 25)).toInt ≤ 30) ∧ ((sI H0 h0 (X.1.2 11 12)).toInt ≤ 7 * (sI H1 h0 (X.1.2 11 12)).toInt) ∧ (0 ≤ (sI H1 h0 (X.1.2 11 12)).toInt) ∧ (KB H0 H1 ca (2324 + 9 * (sI H0 h0 (X.1.2 11 25)).toInt)) ∧ (SWc (sI H1 h0 (X.1.2 11 12)).toInt H1 ca (sI H0 h0 (X.1.2 11 25)).toInt (sI H1 h0 (X.1.2 11 25)).toInt)))) := by
  intro d
  induction d using Nat.strongRecOn with
  | _ d IH =>
    intro H0 hC0 h0 g0 p1 a1 e1 ca gca uc r0 d r1 r2
    refine q_enterV (own := "SnowFortsModel") (by decide) rfl (Nat.le_of_ble_eq_true rfl) ?_
    intro p e s m args below meth c ls Qz E hl ret hS0
    have hx := E.1; have hb := E.2.1
    have hKp0 : Kp X Γ [1, 6, 7, 8, 9, 10, 11, 12, 16, 17] H0 H0 := Kp.rf
    have hl : lv_has ls 5 [(0, .ref h0), (1, .int p1)] := hl
    have hz2 := f_bd hC0 g0 (ci := 11) (k := 12) rfl rfl
    have hz3 := f_bd hC0 g0 (ci := 11) (k := 25) rfl rfl
    have kb : KB H0 H0 ca (2324 + 9 * (sI H0 h0 (X.1.2 11 25)).toInt) := KB.rf
    refine lv_aload_n hx hb dX12_readStep_0 rfl (lv_at hl 0 rfl) ?_
    refine q_goIp (q_runV (As := []) (rest := []) E hC0 hS0 (m_X12_stepWord l X Γ H0 hC0 h0 g0 ca gca uc) cw_X12_stepWord cl_RX12_208 g0 ⟨rfl, rfl⟩ rfl hl.1 rfl (Nat.zero_le _) ⟨by omega, by omega⟩ dX12_readStep_1) hS0 (fun v21 locs21 hr21 hS21 => ?_)
    obtain ⟨f21_0, f21_1⟩ := hr21
    refine lv_istore_n hx hb dX12_readStep_4 rfl hl (by decide) rfl (fun ls hl => ?_)
    have hl : lv_has ls 5 [(2, .int v21), (0, .ref h0), (1, .int p1)] := hl
    refine lv_iload_n hx hb dX12_readStep_5 rfl (lv_at hl 0 rfl) ?_
    refine lv_bipush (v := 7) hx hb dX12_readStep_6 rfl ?_
    refine q_icmp_eq hx hb (a := v21.toInt) (b := 7) rfl (by decide) (tgt := 17) dX12_readStep_8 rfl (fun c22 => ?_) (fun c22 => ?_)
    · refine lv_iconst (v := 1) hx hb dX12_readStep_17 rfl ?_
      refine lv_goto (tgt := 22) hx hb dX12_readStep_18 rfl ?_
      refine lv_istore_n hx hb dX12_readStep_22 rfl hl (by decide) rfl (fun ls hl => ?_)
      have hl : lv_has ls 5 [(3, .int 1), (2, .int v21), (0, .ref h0), (1, .int p1)] := hl
      refine lv_iload_n hx hb dX12_readStep_23 rfl (lv_at hl 1 rfl) ?_
      refine q_if_ge hx hb (a := v21.toInt) rfl (tgt := 31) dX12_readStep_24 rfl (fun c23 => ?_) (fun c23 => absurd c23 (by omega))
      refine lv_aload_n hx hb dX12_readStep_31 rfl (lv_at hl 2 rfl) ?_
      refine q_getI E hC0 g0 fa_RX12_218 dX12_readStep_32 (fun v24 ev24 lv24 uv24 => ?_)
      have m25 : (sI H0 h0 (X.1.2 11 12)).toInt = v24.toInt := (congrArg Int32.toInt ev24).trans rfl
      refine q_if_ne hx hb (a := v24.toInt) rfl (tgt := 57) dX12_readStep_35 rfl (fun c26 => ?_) (fun c26 => ?_)
      · refine lv_aload_n hx hb dX12_readStep_57 rfl (lv_at hl 2 rfl) ?_
        refine q_getI E hC0 g0 fa_RX12_218 dX12_readStep_58 (fun v27 ev27 lv27 uv27 => ?_)
        have qv27 := ev24.symm.trans ev27; subst qv27
        refine q_if_ne hx hb (a := v24.toInt) rfl (tgt := 83) dX12_readStep_61 rfl (fun c28 => ?_) (fun c28 => absurd c28 (by omega))
        refine lv_aload_n hx hb dX12_readStep_83 rfl (lv_at hl 2 rfl) ?_
        refine q_getI E hC0 g0 fa_RX12_218 dX12_readStep_84 (fun v29 ev29 lv29 uv29 => ?_)
        have qv29 := ev24.symm.trans ev29; subst qv29
        refine q_if_le hx hb (a := v24.toInt) rfl (tgt := 91) dX12_readStep_87 rfl (fun c30 => absurd c30 (by omega)) (fun c30 => ?_)
        have swf : SWc (sI H0 h0 (X.1.2 11 12)).toInt H0 ca (sI H0 h0 (X.1.2 11 25)).toInt (sI H0 h0 (X.1.2 11 25)).toInt := fun h => absurd h (by omega)
        exact ret H0 locs21 _ _ dX12_readStep_90 ⟨hKp0, ⟨by omega, by omega, by omega, by omega, by omega, kb, swf⟩⟩ hC0 hS21
      · refine lv_aload_n hx hb dX12_readStep_38 rfl (lv_at hl 2 rfl) ?_
        refine q_getI E hC0 g0 fa_RX12_283 dX12_readStep_39 (fun v31 ev31 lv31 uv31 => ?_)
        have m32 : (sI H0 h0 (X.1.2 11 25)).toInt = v31.toInt := (congrArg Int32.toInt ev31).trans rfl
        refine lv_bipush (v := 30) hx hb dX12_readStep_42 rfl ?_
        refine q_icmp_ne hx hb (a := v31.toInt) (b := 30) rfl (by decide) (tgt := 57) dX12_readStep_44 rfl (fun c33 => ?_) (fun c33 => ?_)
        · refine lv_aload_n hx hb dX12_readStep_57 rfl (lv_at hl 2 rfl) ?_
          refine q_getI E hC0 g0 fa_RX12_218 dX12_readStep_58 (fun v34 ev34 lv34 uv34 => ?_)
          have qv34 := ev24.symm.trans ev34; subst qv34
          refine q_if_ne hx hb (a := v24.toInt) rfl (tgt := 83) dX12_readStep_61 rfl (fun c35 => absurd c35 (by omega)) (fun c35 => ?_)
          refine lv_iload_n hx hb dX12_readStep_64 rfl (lv_at hl 0 rfl) ?_
          refine q_if_eq hx hb (a := 1) (by decide) (tgt := 83) dX12_readStep_65 rfl (fun c36 => absurd c36 (by omega)) (fun c36 => ?_)
          refine lv_iload_n hx hb dX12_readStep_68 rfl (lv_at hl 3 rfl) ?_
          refine lv_iconst (v := 3) hx hb dX12_readStep_69 rfl ?_
          refine q_icmp_ne hx hb (a := a1) (b := 3) e1 (by decide) (tgt := 83) dX12_readStep_70 rfl (fun c37 => ?_) (fun c37 => ?_)
          · refine lv_aload_n hx hb dX12_readStep_83 rfl (lv_at hl 2 rfl) ?_
            refine q_getI E hC0 g0 fa_RX12_218 dX12_readStep_84 (fun v38 ev38 lv38 uv38 => ?_)
            have qv38 := ev24.symm.trans ev38; subst qv38
            refine q_if_le hx hb (a := v24.toInt) rfl (tgt := 91) dX12_readStep_87 rfl (fun c39 => ?_) (fun c39 => absurd c39 (by omega))
            refine lv_sipush (v := 2324) hx hb dX12_readStep_91 rfl ?_
            refine lv_bipush (v := 9) hx hb dX12_readStep_94 rfl ?_
            refine lv_aload_n hx hb dX12_readStep_96 rfl (lv_at hl 2 rfl) ?_
            refine q_getI E hC0 g0 fa_RX12_283 dX12_readStep_97 (fun v40 ev40 lv40 uv40 => ?_)
            have qv40 := ev31.symm.trans ev40; subst qv40
            refine lv_imul hx hb dX12_readStep_100 (lv_topi (fun v41 ev41 => ?_))
            have ev41i : v41.toInt = (9 * v31.toInt) := i_mul ev41 (by decide) rfl (by omega) (by omega)
            refine lv_iadd hx hb dX12_readStep_101 (lv_topi (fun v42 ev42 => ?_))
            have ev42i : v42.toInt = (2324 + (9 * v31.toInt)) := i_add ev42 (by decide) ev41i (by omega) (by omega)
            refine lv_istore hx hb dX12_readStep_102 hl (by decide) rfl (fun ls hl => ?_)
            have hl : lv_has ls 5 [(4, .int v42), (3, .int 1), (2, .int v21), (0, .ref h0), (1, .int p1)] := hl
            refine lv_aload_n hx hb dX12_readStep_104 rfl (lv_at hl 3 rfl) ?_
            refine lv_dup hx hb dX12_readStep_105 rfl ?_
            refine q_getI E hC0 g0 fa_RX12_283 dX12_readStep_106 (fun v43 ev43 lv43 uv43 => ?_)
            have qv43 := ev31.symm.trans ev43; subst qv43
            refine lv_iconst (v := 1) hx hb dX12_readStep_109 rfl ?_
            refine lv_iadd hx hb dX12_readStep_110 (lv_topi (fun v44 ev44 => ?_))
            have ev44i : v44.toInt = (v31.toInt + 1) := i_add ev44 rfl (by decide) (by omega) (by omega)
            refine q_put E hC0 hS21 g0 fp_RX12_283 (tv_I ev44i (by omega) (by omega)) rfl rfl dX12_readStep_111 (fun H45 locs45 hC45 hS45 U45 => ?_)
            have hKp45 := Kp.upO E g0 fp_RX12_283 rfl U45 hKp0
            have e46 := up_I U45
            have m47 : (sI H45 h0 (X.1.2 11 25)).toInt = (v31.toInt + 1) := (congrArg Int32.toInt e46).trans ev44i
            have kb : KB H0 H45 ca (2324 + 9 * (sI H0 h0 (X.1.2 11 25)).toInt) := KB.ne kb U45 (nek g0 gca (by decide))
            have m48 : (sI H45 h0 (X.1.2 11 12)).toInt = (sI H0 h0 (X.1.2 11 12)).toInt := congrArg Int32.toInt (up_nI U45 (ne_f E 11 12 25 rfl (by decide) (by decide) (by decide)))
            refine lv_aload_n hx hb dX12_readStep_114 rfl (lv_at hl 3 rfl) ?_
            refine q_goV (q_runV (As := []) (rest := []) E hC45 hS45 (m_X12_next l X Γ H45 hC45 h0 g0 ca gca uc) cw_X12_next cl_RX12_228 g0 ⟨rfl, rfl⟩ rfl hl.1 rfl (Nat.zero_le _) ⟨by omega, by omega⟩ dX12_readStep_115) hS45 (fun H49 locs49 hr49 hC49 hS49 => ?_)
            obtain ⟨hp49, hr49⟩ := hr49
            have hKp49 := hKp45.tr (hp49.mono rfl)
            have kb : KB H0 H49 ca (2324 + 9 * (sI H0 h0 (X.1.2 11 25)).toInt) := KB.kp kb hp49 gca rfl
            obtain ⟨f49_0, f49_1, f49_2⟩ := hr49
            refine lv_aload_n hx hb dX12_readStep_118 rfl (lv_at hl 3 rfl) ?_
            refine q_getC E hC49 g0 fa_RX12_35 uc dX12_readStep_119 ?_
            refine lv_iload hx hb dX12_readStep_122 (lv_at hl 0 rfl) ?_
            refine lv_iload_n hx hb dX12_readStep_124 rfl (lv_at hl 2 rfl) ?_
            refine q_cast E hC49 hS49 gca (a := (2324 + (9 * v31.toInt))) ev42i (by omega) (by omega) (cs_n244 (a := (2324 + (9 * v31.toInt))) (by omega) (by omega)) dX12_readStep_125 (fun H50 locs50 hC50 hS50 U50 => ?_)
            have hKp50 := Kp.upD gca rfl rfl (fun _ => ⟨fun _ => nd4 (by omega) (by omega), fun _ => by unfold dpu; omega, fun _ => by unfold dpn; omega⟩) U50 hKp49
            have kb : KB H0 H50 ca (2324 + 9 * (sI H0 h0 (X.1.2 11 25)).toInt) := KB.up kb U50 (by omega)
            have m51 : (sI H50 h0 (X.1.2 11 12)).toInt = (sI H49 h0 (X.1.2 11 12)).toInt := congrArg Int32.toInt (up_nI U50 (ne_k g0 gca (by decide)))
            have m52 : (sI H50 h0 (X.1.2 11 25)).toInt = (sI H49 h0 (X.1.2 11 25)).toInt := congrArg Int32.toInt (up_nI U50 (ne_k g0 gca (by decide)))
            have hck : (sI H50 ca ((2324 + (9 * v31.toInt))).toNat).toInt = v21.toInt := (congrArg Int32.toInt (up_I U50)).trans rfl
            have e53 := up_I U50
            refine lv_aload_n hx hb dX12_readStep_126 rfl (lv_at hl 3 rfl) ?_
            refine lv_iload hx hb dX12_readStep_127 (lv_at hl 0 rfl) ?_
            refine q_goV (q_runV (As := [.int v42]) (rest := []) E hC50 hS50 (m_X12_readRest l X Γ H50 hC50 h0 g0 v42 (a1 := (2324 + (9 * v31.toInt))) ev42i ca gca uc (by omega) (by omega)) cw_X12_readRest cl_RX12_286 g0 ⟨rfl, rfl⟩ rfl hl.1 rfl (Nat.zero_le _) ⟨by omega, by omega⟩ dX12_readStep_129) hS50 (fun H54 locs54 hr54 hC54 hS54 => ?_)
            obtain ⟨hp54, hr54⟩ := hr54
            have hKp54 := hKp50.tr (hp54.mono rfl)
            obtain ⟨f54_0, f54_1, f54_2, f54_3, f54_4⟩ := hr54
            have kb : KB H0 H54 ca (2324 + 9 * (sI H0 h0 (X.1.2 11 25)).toInt) := KB.tr kb f54_3 (by omega)
            obtain ⟨zz, hzz⟩ : ∃ z, (sI H54 h0 (X.1.2 11 12)).toInt = z := ⟨_, rfl⟩
            have okp : okP H54 ca (2324 + (9 * v31.toInt)) v21.toInt zz := by have h := f54_4; rw [hck, hzz] at h; exact h
            refine lv_aload_n hx hb dX12_readStep_132 rfl (lv_at hl 3 rfl) ?_
            refine lv_aload_n hx hb dX12_readStep_133 rfl (lv_at hl 3 rfl) ?_
            refine lv_bipush (v := 59) hx hb dX12_readStep_134 rfl ?_
            refine q_goIp (q_runV (As := [.int 59]) (rest := [.ref h0]) E hC54 hS54 (m_X12_isSign l X Γ H54 hC54 h0 g0 59 (a1 := 59) (by decide) ca gca uc) cw_X12_isSign cl_RX12_255 g0 ⟨rfl, rfl⟩ rfl hl.1 rfl (show _ ≤ _ from by simp [Value.category]) ⟨by omega, by omega⟩ dX12_readStep_136) hS54 (fun v55 locs55 hr55 hS55 => ?_)
            have b55 : (v55.toInt = 1 ∧ _) ∨ (v55.toInt = 0 ∧ _) := hr55.imp (fun h => ⟨by rw [h.1]; decide, h.2⟩) (fun h => ⟨by rw [h.1]; decide, h.2⟩)
            refine q_goV (q_runV (As := [.int v55]) (rest := []) E hC54 hS55 (m_X12_must l X Γ H54 hC54 h0 g0 v55 (a1 := v55.toInt) rfl ca gca uc (by omega) (by omega)) cw_X12_must cl_RX12_244 g0 ⟨rfl, rfl⟩ rfl hl.1 rfl (Nat.zero_le _) ⟨by omega, by omega⟩ dX12_readStep_139) hS55 (fun H56 locs56 hr56 hC56 hS56 => ?_)
            obtain ⟨hp56, hr56⟩ := hr56
            have hKp56 := hKp54.tr (hp56.mono rfl)
            have kb : KB H0 H56 ca (2324 + 9 * (sI H0 h0 (X.1.2 11 25)).toInt) := KB.kp kb hp56 gca rfl
            have okp : okP H56 ca (2324 + (9 * v31.toInt)) v21.toInt zz := okP.kp okp hp56 gca rfl
            obtain ⟨f56_0, f56_1, f56_2, f56_3, f56_4⟩ := hr56
            have L142 : ∀ (n57 : Nat) (H57 : Heap) (locs57 : List Loc) (ls : Array Slot), 0 < n57 ∧ ((sI H57 h0 (X.1.2 11 12)).toInt ≠ 0 ∨ 32 - (sI H57 h0 (X.1.2 11 25)).toInt < n57) → (sI H0 h0 (X.1.2 11 25)).toInt + 1 ≤ (sI H57 h0 (X.1.2 11 25)).toInt → (sI H0 h0 (X.1.2 11 12)).toInt ≤ 7 * (sI H57 h0 (X.1.2 11 12)).toInt → 1 = 1 → (sI H57 h0 (X.1.2 11 12)).toInt = 0 → a1 ≤ 2 → zz ≤ 7 * (sI H57 h0 (X.1.2 11 12)).toInt → SWc (sI H57 h0 (X.1.2 11 12)).toInt H57 ca ((sI H0 h0 (X.1.2 11 25)).toInt + 1) (sI H57 h0 (X.1.2 11 25)).toInt → Conf X Γ H57 → va_S (AΓ Γ) H0 H57 locs57 → Kp X Γ [1, 6, 7, 8, 9, 10, 11, 12, 16, 17] H0 H57 → (KB H0 H57 ca (2324 + 9 * (sI H0 h0 (X.1.2 11 25)).toInt)) → (okP H57 ca (2324 + (9 * v31.toInt)) v21.toInt zz) → lv_has ls 5 [(4, .int v42), (3, .int 1), (2, .int v21), (0, .ref h0), (1, .int p1)] → W p l e (rmL (6 + d)) s m args below meth c H57 locs57 0 0 Qz (F0 m 142 ls []) := by
              intro n57
              induction n57 with
              | zero => intro H57 locs57 ls hm57 iv57_0 iv57_1 iv57_2 iv57_3 iv57_4 hC57 hS57 hKp57 kb okp hl; exact absurd hm57 (by omega)
              | succ n57 ih57 =>
                intro H57 locs57 ls hm57 iv57_0 iv57_1 iv57_2 iv57_3 iv57_4 hC57 hS57 hKp57 kb okp hl
                have hb1 := f_bd hC57 g0 (ci := 11) (k := 25) rfl rfl
                have hb2 := f_bd hC57 g0 (ci := 11) (k := 12) rfl rfl
                have swi := iv57_4
                obtain ⟨nL, hnL⟩ : ∃ z, (sI H57 h0 (X.1.2 11 25)).toInt = z := ⟨_, rfl⟩
                obtain ⟨bL, hbL⟩ : ∃ z, (sI H57 h0 (X.1.2 11 12)).toInt = z := ⟨_, rfl⟩
                have sw : SWc bL H57 ca ((sI H0 h0 (X.1.2 11 25)).toInt + 1) nL := by have h := iv57_4; rw [hnL, hbL] at h; exact h
                refine lv_iload_n hx hb dX12_readStep_142 rfl (lv_at hl 1 rfl) ?_
                refine q_if_eq hx hb (a := 1) (by decide) (tgt := 170) dX12_readStep_143 rfl (fun c58 => absurd c58 (by omega)) (fun c58 => ?_)
                refine lv_aload_n hx hb dX12_readStep_146 rfl (lv_at hl 3 rfl) ?_
                refine q_getI E hC57 g0 fa_RX12_218 dX12_readStep_147 (fun v59 ev59 lv59 uv59 => ?_)
                have m60 : (sI H57 h0 (X.1.2 11 12)).toInt = v59.toInt := (congrArg Int32.toInt ev59).trans rfl
                refine q_if_ne hx hb (a := v59.toInt) rfl (tgt := 170) dX12_readStep_150 rfl (fun c61 => ?_) (fun c61 => ?_)
                · refine lv_iload_n hx hb dX12_readStep_170 rfl (lv_at hl 1 rfl) ?_
                  refine q_if_eq hx hb (a := 1) (by decide) (tgt := 192) dX12_readStep_171 rfl (fun c62 => absurd c62 (by omega)) (fun c62 => ?_)
                  refine lv_aload_n hx hb dX12_readStep_174 rfl (lv_at hl 3 rfl) ?_
                  refine lv_aload_n hx hb dX12_readStep_175 rfl (lv_at hl 3 rfl) ?_
                  refine q_goIp (q_runV (As := []) (rest := [.ref h0]) E hC57 hS57 (m_X12_isEnd l X Γ H57 hC57 h0 g0 ca gca uc) cw_X12_isEnd cl_RX12_215 g0 ⟨rfl, rfl⟩ rfl hl.1 rfl (show _ ≤ _ from by simp [Value.category]) ⟨by omega, by omega⟩ dX12_readStep_176) hS57 (fun v63 locs63 hr63 hS63 => ?_)
                  have b63 : v63.toInt = 0 ∨ v63.toInt = 1 := hr63.imp (fun h => by rw [h]; decide) (fun h => by rw [h]; decide)
                  refine q_goV (q_runV (As := [.int v63]) (rest := []) E hC57 hS63 (m_X12_must l X Γ H57 hC57 h0 g0 v63 (a1 := v63.toInt) rfl ca gca uc (by omega) (by omega)) cw_X12_must cl_RX12_244 g0 ⟨rfl, rfl⟩ rfl hl.1 rfl (Nat.zero_le _) ⟨by omega, by omega⟩ dX12_readStep_179) hS63 (fun H64 locs64 hr64 hC64 hS64 => ?_)
                  obtain ⟨hp64, hr64⟩ := hr64
                  have hKp64 := hKp57.tr (hp64.mono rfl)
                  have kb : KB H0 H64 ca (2324 + 9 * (sI H0 h0 (X.1.2 11 25)).toInt) := KB.kp kb hp64 gca rfl
                  have okp : okP H64 ca (2324 + (9 * v31.toInt)) v21.toInt zz := okP.kp okp hp64 gca rfl
                  have sw : SWc bL H64 ca ((sI H0 h0 (X.1.2 11 25)).toInt + 1) nL := SWc.kp sw hp64 gca rfl (by omega)
                  obtain ⟨f64_0, f64_1, f64_2, f64_3, f64_4⟩ := hr64
                  refine lv_aload_n hx hb dX12_readStep_182 rfl (lv_at hl 3 rfl) ?_
                  refine lv_aload_n hx hb dX12_readStep_183 rfl (lv_at hl 3 rfl) ?_
                  refine lv_bipush (v := 59) hx hb dX12_readStep_184 rfl ?_
                  refine q_goIp (q_runV (As := [.int 59]) (rest := [.ref h0]) E hC64 hS64 (m_X12_isSign l X Γ H64 hC64 h0 g0 59 (a1 := 59) (by decide) ca gca uc) cw_X12_isSign cl_RX12_255 g0 ⟨rfl, rfl⟩ rfl hl.1 rfl (show _ ≤ _ from by simp [Value.category]) ⟨by omega, by omega⟩ dX12_readStep_186) hS64 (fun v65 locs65 hr65 hS65 => ?_)
                  have b65 : (v65.toInt = 1 ∧ _) ∨ (v65.toInt = 0 ∧ _) := hr65.imp (fun h => ⟨by rw [h.1]; decide, h.2⟩) (fun h => ⟨by rw [h.1]; decide, h.2⟩)
                  refine q_goV (q_runV (As := [.int v65]) (rest := []) E hC64 hS65 (m_X12_must l X Γ H64 hC64 h0 g0 v65 (a1 := v65.toInt) rfl ca gca uc (by omega) (by omega)) cw_X12_must cl_RX12_244 g0 ⟨rfl, rfl⟩ rfl hl.1 rfl (Nat.zero_le _) ⟨by omega, by omega⟩ dX12_readStep_189) hS65 (fun H66 locs66 hr66 hC66 hS66 => ?_)
                  obtain ⟨hp66, hr66⟩ := hr66
                  have hKp66 := hKp64.tr (hp66.mono rfl)
                  have kb : KB H0 H66 ca (2324 + 9 * (sI H0 h0 (X.1.2 11 25)).toInt) := KB.kp kb hp66 gca rfl
                  have okp : okP H66 ca (2324 + (9 * v31.toInt)) v21.toInt zz := okP.kp okp hp66 gca rfl
                  have sw : SWc bL H66 ca ((sI H0 h0 (X.1.2 11 25)).toInt + 1) nL := SWc.kp sw hp66 gca rfl (by omega)
                  obtain ⟨f66_0, f66_1, f66_2, f66_3, f66_4⟩ := hr66
                  refine lv_aload_n hx hb dX12_readStep_192 rfl (lv_at hl 3 rfl) ?_
                  refine q_getC E hC66 g0 fa_RX12_35 uc dX12_readStep_193 ?_
                  refine lv_iload hx hb dX12_readStep_196 (lv_at hl 0 rfl) ?_
                  refine lv_bipush (v := 8) hx hb dX12_readStep_198 rfl ?_
                  refine lv_iadd hx hb dX12_readStep_200 (lv_topi (fun v67 ev67 => ?_))
                  have ev67i : v67.toInt = ((2324 + (9 * v31.toInt)) + 8) := i_add ev67 ev42i (by decide) (by omega) (by omega)
                  refine lv_aload_n hx hb dX12_readStep_201 rfl (lv_at hl 3 rfl) ?_
                  refine q_getI E hC66 g0 fa_RX12_283 dX12_readStep_202 (fun v68 ev68 lv68 uv68 => ?_)
                  have m69 : (sI H66 h0 (X.1.2 11 25)).toInt = v68.toInt := (congrArg Int32.toInt ev68).trans rfl
                  refine q_cast E hC66 hS66 gca (a := ((2324 + (9 * v31.toInt)) + 8)) ev67i (by omega) (by omega) (cs_n244 (a := ((2324 + (9 * v31.toInt)) + 8)) (by omega) (by omega)) dX12_readStep_205 (fun H70 locs70 hC70 hS70 U70 => ?_)
                  have hKp70 := Kp.upD gca rfl rfl (fun _ => ⟨fun _ => nd4 (by omega) (by omega), fun _ => by unfold dpu; omega, fun _ => by unfold dpn; omega⟩) U70 hKp66
                  have kb : KB H0 H70 ca (2324 + 9 * (sI H0 h0 (X.1.2 11 25)).toInt) := KB.up kb U70 (by omega)
                  have okp : okP H70 ca (2324 + (9 * v31.toInt)) v21.toInt zz := okP.up okp U70 (by omega) (by omega)
                  have sw : SWc bL H70 ca ((sI H0 h0 (X.1.2 11 25)).toInt + 1) nL := SWc.up sw U70 (by omega) (by omega)
                  have m71 : (sI H70 h0 (X.1.2 11 12)).toInt = (sI H66 h0 (X.1.2 11 12)).toInt := congrArg Int32.toInt (up_nI U70 (ne_k g0 gca (by decide)))
                  have m72 : (sI H70 h0 (X.1.2 11 25)).toInt = (sI H66 h0 (X.1.2 11 25)).toInt := congrArg Int32.toInt (up_nI U70 (ne_k g0 gca (by decide)))
                  have hce : (sI H70 ca ((2324 + (9 * v31.toInt)) + 8).toNat).toInt = v68.toInt := (congrArg Int32.toInt (up_I U70)).trans rfl
                  have e73 := up_I U70
                  have swf : SWc (sI H70 h0 (X.1.2 11 12)).toInt H70 ca (sI H0 h0 (X.1.2 11 25)).toInt (sI H70 h0 (X.1.2 11 25)).toInt := fun hz => SWn.one (k := v21.toInt) (w := (2324 + (9 * v31.toInt))) (by have h0 : zz = 0 := (by omega); rw [h0] at okp; exact okp) (by omega) ⟨by omega, by omega⟩ hce (by omega) (by omega) (by have h := sw (by omega); rw [show nL = (sI H70 h0 (X.1.2 11 25)).toInt from (by omega)] at h; exact h)
                  exact ret H70 locs70 _ _ dX12_readStep_206 ⟨hKp70, ⟨by omega, by omega, by omega, by omega, by omega, kb, swf⟩⟩ hC70 hS70
                · refine lv_aload_n hx hb dX12_readStep_153 rfl (lv_at hl 3 rfl) ?_
                  refine q_goIp (q_runV (As := []) (rest := []) E hC57 hS57 (m_X12_isEnd l X Γ H57 hC57 h0 g0 ca gca uc) cw_X12_isEnd cl_RX12_215 g0 ⟨rfl, rfl⟩ rfl hl.1 rfl (Nat.zero_le _) ⟨by omega, by omega⟩ dX12_readStep_154) hS57 (fun v74 locs74 hr74 hS74 => ?_)
                  rcases hr74 with rfl | rfl
                  · refine q_if_ne hx hb (a := 0) (by decide) (tgt := 170) dX12_readStep_157 rfl (fun c75 => absurd c75 (by omega)) (fun c75 => ?_)
                    refine lv_aload_n hx hb dX12_readStep_160 rfl (lv_at hl 3 rfl) ?_
                    refine lv_iload_n hx hb dX12_readStep_161 rfl (lv_at hl 4 rfl) ?_
                    refine lv_iconst (v := 1) hx hb dX12_readStep_162 rfl ?_
                    refine lv_iadd hx hb dX12_readStep_163 (lv_topi (fun v76 ev76 => ?_))
                    have ev76i : v76.toInt = (a1 + 1) := i_add ev76 e1 (by decide) (by omega) (by omega)
                    refine q_goV (q_runV (As := [.int v76]) (rest := []) E hC57 hS74 (IH (d - 1) (by omega) H57 hC57 h0 g0 v76 (a1 := (a1 + 1)) ev76i ca gca uc (by omega) (by omega) (by omega)) cw_X12_readStep cl_RX12_289 g0 ⟨rfl, rfl⟩ rfl hl.1 rfl (Nat.zero_le _) ⟨by omega, by omega⟩ dX12_readStep_164) hS74 (fun H77 locs77 hr77 hC77 hS77 => ?_)
                    obtain ⟨hp77, hr77⟩ := hr77
                    have hKp77 := hKp57.tr (hp77.mono rfl)
                    obtain ⟨f77_0, f77_1, f77_2, f77_3, f77_4, f77_5, f77_6⟩ := hr77
                    have kb : KB H0 H77 ca (2324 + 9 * (sI H0 h0 (X.1.2 11 25)).toInt) := KB.tr kb f77_5 (by omega)
                    have okp : okP H77 ca (2324 + (9 * v31.toInt)) v21.toInt zz := okP.kb okp f77_5 (by omega) (by omega)
                    have swi : SWc (sI H77 h0 (X.1.2 11 12)).toInt H77 ca ((sI H0 h0 (X.1.2 11 25)).toInt + 1) (sI H77 h0 (X.1.2 11 25)).toInt := SWc.step swi f77_5 f77_6 (by omega) (by omega) (by omega) (by omega)
                    refine lv_goto (tgt := 142) hx hb dX12_readStep_167 rfl ?_
                    exact ih57 H77 locs77 ls (by omega) (by omega) (by omega) (by omega) (by omega) (swi) hC77 hS77 hKp77 kb okp hl
                  · refine q_if_ne hx hb (a := 1) (by decide) (tgt := 170) dX12_readStep_157 rfl (fun c78 => ?_) (fun c78 => absurd c78 (by omega))
                    refine lv_iload_n hx hb dX12_readStep_170 rfl (lv_at hl 1 rfl) ?_
                    refine q_if_eq hx hb (a := 1) (by decide) (tgt := 192) dX12_readStep_171 rfl (fun c79 => absurd c79 (by omega)) (fun c79 => ?_)
                    refine lv_aload_n hx hb dX12_readStep_174 rfl (lv_at hl 3 rfl) ?_
                    refine lv_aload_n hx hb dX12_readStep_175 rfl (lv_at hl 3 rfl) ?_
                    refine q_goIp (q_runV (As := []) (rest := [.ref h0]) E hC57 hS74 (m_X12_isEnd l X Γ H57 hC57 h0 g0 ca gca uc) cw_X12_isEnd cl_RX12_215 g0 ⟨rfl, rfl⟩ rfl hl.1 rfl (show _ ≤ _ from by simp [Value.category]) ⟨by omega, by omega⟩ dX12_readStep_176) hS74 (fun v80 locs80 hr80 hS80 => ?_)
                    have b80 : v80.toInt = 0 ∨ v80.toInt = 1 := hr80.imp (fun h => by rw [h]; decide) (fun h => by rw [h]; decide)
                    refine q_goV (q_runV (As := [.int v80]) (rest := []) E hC57 hS80 (m_X12_must l X Γ H57 hC57 h0 g0 v80 (a1 := v80.toInt) rfl ca gca uc (by omega) (by omega)) cw_X12_must cl_RX12_244 g0 ⟨rfl, rfl⟩ rfl hl.1 rfl (Nat.zero_le _) ⟨by omega, by omega⟩ dX12_readStep_179) hS80 (fun H81 locs81 hr81 hC81 hS81 => ?_)
                    obtain ⟨hp81, hr81⟩ := hr81
                    have hKp81 := hKp57.tr (hp81.mono rfl)
                    have kb : KB H0 H81 ca (2324 + 9 * (sI H0 h0 (X.1.2 11 25)).toInt) := KB.kp kb hp81 gca rfl
                    have okp : okP H81 ca (2324 + (9 * v31.toInt)) v21.toInt zz := okP.kp okp hp81 gca rfl
                    have sw : SWc bL H81 ca ((sI H0 h0 (X.1.2 11 25)).toInt + 1) nL := SWc.kp sw hp81 gca rfl (by omega)
                    obtain ⟨f81_0, f81_1, f81_2, f81_3, f81_4⟩ := hr81
                    refine lv_aload_n hx hb dX12_readStep_182 rfl (lv_at hl 3 rfl) ?_
                    refine lv_aload_n hx hb dX12_readStep_183 rfl (lv_at hl 3 rfl) ?_
                    refine lv_bipush (v := 59) hx hb dX12_readStep_184 rfl ?_
                    refine q_goIp (q_runV (As := [.int 59]) (rest := [.ref h0]) E hC81 hS81 (m_X12_isSign l X Γ H81 hC81 h0 g0 59 (a1 := 59) (by decide) ca gca uc) cw_X12_isSign cl_RX12_255 g0 ⟨rfl, rfl⟩ rfl hl.1 rfl (show _ ≤ _ from by simp [Value.category]) ⟨by omega, by omega⟩ dX12_readStep_186) hS81 (fun v82 locs82 hr82 hS82 => ?_)
                    have b82 : (v82.toInt = 1 ∧ _) ∨ (v82.toInt = 0 ∧ _) := hr82.imp (fun h => ⟨by rw [h.1]; decide, h.2⟩) (fun h => ⟨by rw [h.1]; decide, h.2⟩)
                    refine q_goV (q_runV (As := [.int v82]) (rest := []) E hC81 hS82 (m_X12_must l X Γ H81 hC81 h0 g0 v82 (a1 := v82.toInt) rfl ca gca uc (by omega) (by omega)) cw_X12_must cl_RX12_244 g0 ⟨rfl, rfl⟩ rfl hl.1 rfl (Nat.zero_le _) ⟨by omega, by omega⟩ dX12_readStep_189) hS82 (fun H83 locs83 hr83 hC83 hS83 => ?_)
                    obtain ⟨hp83, hr83⟩ := hr83
                    have hKp83 := hKp81.tr (hp83.mono rfl)
                    have kb : KB H0 H83 ca (2324 + 9 * (sI H0 h0 (X.1.2 11 25)).toInt) := KB.kp kb hp83 gca rfl
                    have okp : okP H83 ca (2324 + (9 * v31.toInt)) v21.toInt zz := okP.kp okp hp83 gca rfl
                    have sw : SWc bL H83 ca ((sI H0 h0 (X.1.2 11 25)).toInt + 1) nL := SWc.kp sw hp83 gca rfl (by omega)
                    obtain ⟨f83_0, f83_1, f83_2, f83_3, f83_4⟩ := hr83
                    refine lv_aload_n hx hb dX12_readStep_192 rfl (lv_at hl 3 rfl) ?_
                    refine q_getC E hC83 g0 fa_RX12_35 uc dX12_readStep_193 ?_
                    refine lv_iload hx hb dX12_readStep_196 (lv_at hl 0 rfl) ?_
                    refine lv_bipush (v := 8) hx hb dX12_readStep_198 rfl ?_
                    refine lv_iadd hx hb dX12_readStep_200 (lv_topi (fun v84 ev84 => ?_))
                    have ev84i : v84.toInt = ((2324 + (9 * v31.toInt)) + 8) := i_add ev84 ev42i (by decide) (by omega) (by omega)
                    refine lv_aload_n hx hb dX12_readStep_201 rfl (lv_at hl 3 rfl) ?_
                    refine q_getI E hC83 g0 fa_RX12_283 dX12_readStep_202 (fun v85 ev85 lv85 uv85 => ?_)
                    have m86 : (sI H83 h0 (X.1.2 11 25)).toInt = v85.toInt := (congrArg Int32.toInt ev85).trans rfl
                    refine q_cast E hC83 hS83 gca (a := ((2324 + (9 * v31.toInt)) + 8)) ev84i (by omega) (by omega) (cs_n244 (a := ((2324 + (9 * v31.toInt)) + 8)) (by omega) (by omega)) dX12_readStep_205 (fun H87 locs87 hC87 hS87 U87 => ?_)
                    have hKp87 := Kp.upD gca rfl rfl (fun _ => ⟨fun _ => nd4 (by omega) (by omega), fun _ => by unfold dpu; omega, fun _ => by unfold dpn; omega⟩) U87 hKp83
                    have kb : KB H0 H87 ca (2324 + 9 * (sI H0 h0 (X.1.2 11 25)).toInt) := KB.up kb U87 (by omega)
                    have okp : okP H87 ca (2324 + (9 * v31.toInt)) v21.toInt zz := okP.up okp U87 (by omega) (by omega)
                    have sw : SWc bL H87 ca ((sI H0 h0 (X.1.2 11 25)).toInt + 1) nL := SWc.up sw U87 (by omega) (by omega)
                    have m88 : (sI H87 h0 (X.1.2 11 12)).toInt = (sI H83 h0 (X.1.2 11 12)).toInt := congrArg Int32.toInt (up_nI U87 (ne_k g0 gca (by decide)))
                    have m89 : (sI H87 h0 (X.1.2 11 25)).toInt = (sI H83 h0 (X.1.2 11 25)).toInt := congrArg Int32.toInt (up_nI U87 (ne_k g0 gca (by decide)))
                    have hce : (sI H87 ca ((2324 + (9 * v31.toInt)) + 8).toNat).toInt = v85.toInt := (congrArg Int32.toInt (up_I U87)).trans rfl
                    have e90 := up_I U87
                    have swf : SWc (sI H87 h0 (X.1.2 11 12)).toInt H87 ca (sI H0 h0 (X.1.2 11 25)).toInt (sI H87 h0 (X.1.2 11 25)).toInt := fun hz => SWn.one (k := v21.toInt) (w := (2324 + (9 * v31.toInt))) (by have h0 : zz = 0 := (by omega); rw [h0] at okp; exact okp) (by omega) ⟨by omega, by omega⟩ hce (by omega) (by omega) (by have h := sw (by omega); rw [show nL = (sI H87 h0 (X.1.2 11 25)).toInt from (by omega)] at h; exact h)
                    exact ret H87 locs87 _ _ dX12_readStep_206 ⟨hKp87, ⟨by omega, by omega, by omega, by omega, by omega, kb, swf⟩⟩ hC87 hS87
            exact L142 33 H56 locs56 ls (by omega) (by omega) (by omega) (by omega) (by omega) (fun _ => SWn.nil (by omega)) hC56 hS56 hKp56 kb okp hl
          · refine lv_aload_n hx hb dX12_readStep_73 rfl (lv_at hl 2 rfl) ?_
            refine lv_bipush (v := 7) hx hb dX12_readStep_74 rfl ?_
            refine lv_aload_n hx hb dX12_readStep_76 rfl (lv_at hl 2 rfl) ?_
            refine q_getI E hC0 g0 fa_RX12_114 dX12_readStep_77 (fun v91 ev91 lv91 uv91 => ?_)
            refine q_goV (q_runV (As := [.int 7, .int v91]) (rest := []) E hC0 hS21 (m_X12_fail l X Γ H0 hC0 h0 g0 7 (a1 := 7) (by decide) v91 (a2 := v91.toInt) rfl ca gca uc (by omega) (by omega)) cw_X12_fail cl_RX12_224 g0 ⟨rfl, rfl⟩ rfl hl.1 rfl (Nat.zero_le _) ⟨by omega, by omega⟩ dX12_readStep_80) hS21 (fun H92 locs92 hr92 hC92 hS92 => ?_)
            obtain ⟨hp92, hr92⟩ := hr92
            have hKp92 := hKp0.tr (hp92.mono rfl)
            have kb : KB H0 H92 ca (2324 + 9 * (sI H0 h0 (X.1.2 11 25)).toInt) := KB.kp kb hp92 gca rfl
            obtain ⟨f92_0, f92_1, f92_2, f92_3⟩ := hr92
            refine lv_aload_n hx hb dX12_readStep_83 rfl (lv_at hl 2 rfl) ?_
            refine q_getI E hC92 g0 fa_RX12_218 dX12_readStep_84 (fun v93 ev93 lv93 uv93 => ?_)
            have m94 : (sI H92 h0 (X.1.2 11 12)).toInt = v93.toInt := (congrArg Int32.toInt ev93).trans rfl
            refine q_if_le hx hb (a := v93.toInt) rfl (tgt := 91) dX12_readStep_87 rfl (fun c95 => absurd c95 (by omega)) (fun c95 => ?_)
            have e96 := (kp_I hp92 g0 (k := 25) rfl (by decide) rfl).trans ev31
            have m97 : (sI H92 h0 (X.1.2 11 25)).toInt = v31.toInt := (congrArg Int32.toInt e96).trans rfl
            have swf : SWc (sI H92 h0 (X.1.2 11 12)).toInt H92 ca (sI H0 h0 (X.1.2 11 25)).toInt (sI H92 h0 (X.1.2 11 25)).toInt := fun h => absurd h (by omega)
            exact ret H92 locs92 _ _ dX12_readStep_90 ⟨hKp92, ⟨by omega, by omega, by omega, by omega, by omega, kb, swf⟩⟩ hC92 hS92
        · refine lv_aload_n hx hb dX12_readStep_47 rfl (lv_at hl 2 rfl) ?_
          refine lv_bipush (v := 6) hx hb dX12_readStep_48 rfl ?_
          refine lv_aload_n hx hb dX12_readStep_50 rfl (lv_at hl 2 rfl) ?_
          refine q_getI E hC0 g0 fa_RX12_114 dX12_readStep_51 (fun v98 ev98 lv98 uv98 => ?_)
          refine q_goV (q_runV (As := [.int 6, .int v98]) (rest := []) E hC0 hS21 (m_X12_fail l X Γ H0 hC0 h0 g0 6 (a1 := 6) (by decide) v98 (a2 := v98.toInt) rfl ca gca uc (by omega) (by omega)) cw_X12_fail cl_RX12_224 g0 ⟨rfl, rfl⟩ rfl hl.1 rfl (Nat.zero_le _) ⟨by omega, by omega⟩ dX12_readStep_54) hS21 (fun H99 locs99 hr99 hC99 hS99 => ?_)
          obtain ⟨hp99, hr99⟩ := hr99
          have hKp99 := hKp0.tr (hp99.mono rfl)
          have kb : KB H0 H99 ca (2324 + 9 * (sI H0 h0 (X.1.2 11 25)).toInt) := KB.kp kb hp99 gca rfl
          obtain ⟨f99_0, f99_1, f99_2, f99_3⟩ := hr99
          refine lv_aload_n hx hb dX12_readStep_57 rfl (lv_at hl 2 rfl) ?_
          refine q_getI E hC99 g0 fa_RX12_218 dX12_readStep_58 (fun v100 ev100 lv100 uv100 => ?_)
          have m101 : (sI H99 h0 (X.1.2 11 12)).toInt = v100.toInt := (congrArg Int32.toInt ev100).trans rfl
          refine q_if_ne hx hb (a := v100.toInt) rfl (tgt := 83) dX12_readStep_61 rfl (fun c102 => ?_) (fun c102 => absurd c102 (by omega))
          refine lv_aload_n hx hb dX12_readStep_83 rfl (lv_at hl 2 rfl) ?_
          refine q_getI E hC99 g0 fa_RX12_218 dX12_readStep_84 (fun v103 ev103 lv103 uv103 => ?_)
          have qv103 := ev100.symm.trans ev103; subst qv103
          refine q_if_le hx hb (a := v100.toInt) rfl (tgt := 91) dX12_readStep_87 rfl (fun c104 => absurd c104 (by omega)) (fun c104 => ?_)
          have e105 := (kp_I hp99 g0 (k := 25) rfl (by decide) rfl).trans ev31
          have m106 : (sI H99 h0 (X.1.2 11 25)).toInt = v31.toInt := (congrArg Int32.toInt e105).trans rfl
          have swf : SWc (sI H99 h0 (X.1.2 11 12)).toInt H99 ca (sI H0 h0 (X.1.2 11 25)).toInt (sI H99 h0 (X.1.2 11 25)).toInt := fun h => absurd h (by omega)
          exact ret H99 locs99 _ _ dX12_readStep_90 ⟨hKp99, ⟨by omega, by omega, by omega, by omega, by omega, kb, swf⟩⟩ hC99 hS99
    · refine lv_iload_n hx hb dX12_readStep_11 rfl (lv_at hl 0 rfl) ?_
      refine lv_bipush (v := 8) hx hb dX12_readStep_12 rfl ?_
      refine q_icmp_ne hx hb (a := v21.toInt) (b := 8) rfl (by decide) (tgt := 21) dX12_readStep_14 rfl (fun c107 => ?_) (fun c107 => ?_)
      · refine lv_iconst (v := 0) hx hb dX12_readStep_21 rfl ?_
        refine lv_istore_n hx hb dX12_readStep_22 rfl hl (by decide) rfl (fun ls hl => ?_)
        have hl : lv_has ls 5 [(3, .int 0), (2, .int v21), (0, .ref h0), (1, .int p1)] := hl
        refine lv_iload_n hx hb dX12_readStep_23 rfl (lv_at hl 1 rfl) ?_
        refine q_if_ge hx hb (a := v21.toInt) rfl (tgt := 31) dX12_readStep_24 rfl (fun c108 => ?_) (fun c108 => ?_)
        · refine lv_aload_n hx hb dX12_readStep_31 rfl (lv_at hl 2 rfl) ?_
          refine q_getI E hC0 g0 fa_RX12_218 dX12_readStep_32 (fun v109 ev109 lv109 uv109 => ?_)
          have m110 : (sI H0 h0 (X.1.2 11 12)).toInt = v109.toInt := (congrArg Int32.toInt ev109).trans rfl
          refine q_if_ne hx hb (a := v109.toInt) rfl (tgt := 57) dX12_readStep_35 rfl (fun c111 => ?_) (fun c111 => ?_)
          · refine lv_aload_n hx hb dX12_readStep_57 rfl (lv_at hl 2 rfl) ?_
            refine q_getI E hC0 g0 fa_RX12_218 dX12_readStep_58 (fun v112 ev112 lv112 uv112 => ?_)
            have qv112 := ev109.symm.trans ev112; subst qv112
            refine q_if_ne hx hb (a := v109.toInt) rfl (tgt := 83) dX12_readStep_61 rfl (fun c113 => ?_) (fun c113 => absurd c113 (by omega))
            refine lv_aload_n hx hb dX12_readStep_83 rfl (lv_at hl 2 rfl) ?_
            refine q_getI E hC0 g0 fa_RX12_218 dX12_readStep_84 (fun v114 ev114 lv114 uv114 => ?_)
            have qv114 := ev109.symm.trans ev114; subst qv114
            refine q_if_le hx hb (a := v109.toInt) rfl (tgt := 91) dX12_readStep_87 rfl (fun c115 => absurd c115 (by omega)) (fun c115 => ?_)
            have swf : SWc (sI H0 h0 (X.1.2 11 12)).toInt H0 ca (sI H0 h0 (X.1.2 11 25)).toInt (sI H0 h0 (X.1.2 11 25)).toInt := fun h => absurd h (by omega)
            exact ret H0 locs21 _ _ dX12_readStep_90 ⟨hKp0, ⟨by omega, by omega, by omega, by omega, by omega, kb, swf⟩⟩ hC0 hS21
          · refine lv_aload_n hx hb dX12_readStep_38 rfl (lv_at hl 2 rfl) ?_
            refine q_getI E hC0 g0 fa_RX12_283 dX12_readStep_39 (fun v116 ev116 lv116 uv116 => ?_)
            have m117 : (sI H0 h0 (X.1.2 11 25)).toInt = v116.toInt := (congrArg Int32.toInt ev116).trans rfl
            refine lv_bipush (v := 30) hx hb dX12_readStep_42 rfl ?_
            refine q_icmp_ne hx hb (a := v116.toInt) (b := 30) rfl (by decide) (tgt := 57) dX12_readStep_44 rfl (fun c118 => ?_) (fun c118 => ?_)
            · refine lv_aload_n hx hb dX12_readStep_57 rfl (lv_at hl 2 rfl) ?_
              refine q_getI E hC0 g0 fa_RX12_218 dX12_readStep_58 (fun v119 ev119 lv119 uv119 => ?_)
              have qv119 := ev109.symm.trans ev119; subst qv119
              refine q_if_ne hx hb (a := v109.toInt) rfl (tgt := 83) dX12_readStep_61 rfl (fun c120 => absurd c120 (by omega)) (fun c120 => ?_)
              refine lv_iload_n hx hb dX12_readStep_64 rfl (lv_at hl 0 rfl) ?_
              refine q_if_eq hx hb (a := 0) (by decide) (tgt := 83) dX12_readStep_65 rfl (fun c121 => ?_) (fun c121 => absurd c121 (by omega))
              refine lv_aload_n hx hb dX12_readStep_83 rfl (lv_at hl 2 rfl) ?_
              refine q_getI E hC0 g0 fa_RX12_218 dX12_readStep_84 (fun v122 ev122 lv122 uv122 => ?_)
              have qv122 := ev109.symm.trans ev122; subst qv122
              refine q_if_le hx hb (a := v109.toInt) rfl (tgt := 91) dX12_readStep_87 rfl (fun c123 => ?_) (fun c123 => absurd c123 (by omega))
              refine lv_sipush (v := 2324) hx hb dX12_readStep_91 rfl ?_
              refine lv_bipush (v := 9) hx hb dX12_readStep_94 rfl ?_
              refine lv_aload_n hx hb dX12_readStep_96 rfl (lv_at hl 2 rfl) ?_
              refine q_getI E hC0 g0 fa_RX12_283 dX12_readStep_97 (fun v124 ev124 lv124 uv124 => ?_)
              have qv124 := ev116.symm.trans ev124; subst qv124
              refine lv_imul hx hb dX12_readStep_100 (lv_topi (fun v125 ev125 => ?_))
              have ev125i : v125.toInt = (9 * v116.toInt) := i_mul ev125 (by decide) rfl (by omega) (by omega)
              refine lv_iadd hx hb dX12_readStep_101 (lv_topi (fun v126 ev126 => ?_))
              have ev126i : v126.toInt = (2324 + (9 * v116.toInt)) := i_add ev126 (by decide) ev125i (by omega) (by omega)
              refine lv_istore hx hb dX12_readStep_102 hl (by decide) rfl (fun ls hl => ?_)
              have hl : lv_has ls 5 [(4, .int v126), (3, .int 0), (2, .int v21), (0, .ref h0), (1, .int p1)] := hl
              refine lv_aload_n hx hb dX12_readStep_104 rfl (lv_at hl 3 rfl) ?_
              refine lv_dup hx hb dX12_readStep_105 rfl ?_
              refine q_getI E hC0 g0 fa_RX12_283 dX12_readStep_106 (fun v127 ev127 lv127 uv127 => ?_)
              have qv127 := ev116.symm.trans ev127; subst qv127
              refine lv_iconst (v := 1) hx hb dX12_readStep_109 rfl ?_
              refine lv_iadd hx hb dX12_readStep_110 (lv_topi (fun v128 ev128 => ?_))
              have ev128i : v128.toInt = (v116.toInt + 1) := i_add ev128 rfl (by decide) (by omega) (by omega)
              refine q_put E hC0 hS21 g0 fp_RX12_283 (tv_I ev128i (by omega) (by omega)) rfl rfl dX12_readStep_111 (fun H129 locs129 hC129 hS129 U129 => ?_)
              have hKp129 := Kp.upO E g0 fp_RX12_283 rfl U129 hKp0
              have e130 := up_I U129
              have m131 : (sI H129 h0 (X.1.2 11 25)).toInt = (v116.toInt + 1) := (congrArg Int32.toInt e130).trans ev128i
              have kb : KB H0 H129 ca (2324 + 9 * (sI H0 h0 (X.1.2 11 25)).toInt) := KB.ne kb U129 (nek g0 gca (by decide))
              have m132 : (sI H129 h0 (X.1.2 11 12)).toInt = (sI H0 h0 (X.1.2 11 12)).toInt := congrArg Int32.toInt (up_nI U129 (ne_f E 11 12 25 rfl (by decide) (by decide) (by decide)))
              refine lv_aload_n hx hb dX12_readStep_114 rfl (lv_at hl 3 rfl) ?_
              refine q_goV (q_runV (As := []) (rest := []) E hC129 hS129 (m_X12_next l X Γ H129 hC129 h0 g0 ca gca uc) cw_X12_next cl_RX12_228 g0 ⟨rfl, rfl⟩ rfl hl.1 rfl (Nat.zero_le _) ⟨by omega, by omega⟩ dX12_readStep_115) hS129 (fun H133 locs133 hr133 hC133 hS133 => ?_)
              obtain ⟨hp133, hr133⟩ := hr133
              have hKp133 := hKp129.tr (hp133.mono rfl)
              have kb : KB H0 H133 ca (2324 + 9 * (sI H0 h0 (X.1.2 11 25)).toInt) := KB.kp kb hp133 gca rfl
              obtain ⟨f133_0, f133_1, f133_2⟩ := hr133
              refine lv_aload_n hx hb dX12_readStep_118 rfl (lv_at hl 3 rfl) ?_
              refine q_getC E hC133 g0 fa_RX12_35 uc dX12_readStep_119 ?_
              refine lv_iload hx hb dX12_readStep_122 (lv_at hl 0 rfl) ?_
              refine lv_iload_n hx hb dX12_readStep_124 rfl (lv_at hl 2 rfl) ?_
              refine q_cast E hC133 hS133 gca (a := (2324 + (9 * v116.toInt))) ev126i (by omega) (by omega) (cs_n244 (a := (2324 + (9 * v116.toInt))) (by omega) (by omega)) dX12_readStep_125 (fun H134 locs134 hC134 hS134 U134 => ?_)
              have hKp134 := Kp.upD gca rfl rfl (fun _ => ⟨fun _ => nd4 (by omega) (by omega), fun _ => by unfold dpu; omega, fun _ => by unfold dpn; omega⟩) U134 hKp133
              have kb : KB H0 H134 ca (2324 + 9 * (sI H0 h0 (X.1.2 11 25)).toInt) := KB.up kb U134 (by omega)
              have m135 : (sI H134 h0 (X.1.2 11 12)).toInt = (sI H133 h0 (X.1.2 11 12)).toInt := congrArg Int32.toInt (up_nI U134 (ne_k g0 gca (by decide)))
              have m136 : (sI H134 h0 (X.1.2 11 25)).toInt = (sI H133 h0 (X.1.2 11 25)).toInt := congrArg Int32.toInt (up_nI U134 (ne_k g0 gca (by decide)))
              have hck : (sI H134 ca ((2324 + (9 * v116.toInt))).toNat).toInt = v21.toInt := (congrArg Int32.toInt (up_I U134)).trans rfl
              have e137 := up_I U134
              refine lv_aload_n hx hb dX12_readStep_126 rfl (lv_at hl 3 rfl) ?_
              refine lv_iload hx hb dX12_readStep_127 (lv_at hl 0 rfl) ?_
              refine q_goV (q_runV (As := [.int v126]) (rest := []) E hC134 hS134 (m_X12_readRest l X Γ H134 hC134 h0 g0 v126 (a1 := (2324 + (9 * v116.toInt))) ev126i ca gca uc (by omega) (by omega)) cw_X12_readRest cl_RX12_286 g0 ⟨rfl, rfl⟩ rfl hl.1 rfl (Nat.zero_le _) ⟨by omega, by omega⟩ dX12_readStep_129) hS134 (fun H138 locs138 hr138 hC138 hS138 => ?_)
              obtain ⟨hp138, hr138⟩ := hr138
              have hKp138 := hKp134.tr (hp138.mono rfl)
              obtain ⟨f138_0, f138_1, f138_2, f138_3, f138_4⟩ := hr138
              have kb : KB H0 H138 ca (2324 + 9 * (sI H0 h0 (X.1.2 11 25)).toInt) := KB.tr kb f138_3 (by omega)
              obtain ⟨zz, hzz⟩ : ∃ z, (sI H138 h0 (X.1.2 11 12)).toInt = z := ⟨_, rfl⟩
              have okp : okP H138 ca (2324 + (9 * v116.toInt)) v21.toInt zz := by have h := f138_4; rw [hck, hzz] at h; exact h
              refine lv_aload_n hx hb dX12_readStep_132 rfl (lv_at hl 3 rfl) ?_
              refine lv_aload_n hx hb dX12_readStep_133 rfl (lv_at hl 3 rfl) ?_
              refine lv_bipush (v := 59) hx hb dX12_readStep_134 rfl ?_
              refine q_goIp (q_runV (As := [.int 59]) (rest := [.ref h0]) E hC138 hS138 (m_X12_isSign l X Γ H138 hC138 h0 g0 59 (a1 := 59) (by decide) ca gca uc) cw_X12_isSign cl_RX12_255 g0 ⟨rfl, rfl⟩ rfl hl.1 rfl (show _ ≤ _ from by simp [Value.category]) ⟨by omega, by omega⟩ dX12_readStep_136) hS138 (fun v139 locs139 hr139 hS139 => ?_)
              have b139 : (v139.toInt = 1 ∧ _) ∨ (v139.toInt = 0 ∧ _) := hr139.imp (fun h => ⟨by rw [h.1]; decide, h.2⟩) (fun h => ⟨by rw [h.1]; decide, h.2⟩)
              refine q_goV (q_runV (As := [.int v139]) (rest := []) E hC138 hS139 (m_X12_must l X Γ H138 hC138 h0 g0 v139 (a1 := v139.toInt) rfl ca gca uc (by omega) (by omega)) cw_X12_must cl_RX12_244 g0 ⟨rfl, rfl⟩ rfl hl.1 rfl (Nat.zero_le _) ⟨by omega, by omega⟩ dX12_readStep_139) hS139 (fun H140 locs140 hr140 hC140 hS140 => ?_)
              obtain ⟨hp140, hr140⟩ := hr140
              have hKp140 := hKp138.tr (hp140.mono rfl)
              have kb : KB H0 H140 ca (2324 + 9 * (sI H0 h0 (X.1.2 11 25)).toInt) := KB.kp kb hp140 gca rfl
              have okp : okP H140 ca (2324 + (9 * v116.toInt)) v21.toInt zz := okP.kp okp hp140 gca rfl
              obtain ⟨f140_0, f140_1, f140_2, f140_3, f140_4⟩ := hr140
              have L142 : ∀ (n141 : Nat) (H141 : Heap) (locs141 : List Loc) (ls : Array Slot), 0 < n141 ∧ ((sI H141 h0 (X.1.2 11 12)).toInt ≠ 0 ∨ 32 - (sI H141 h0 (X.1.2 11 25)).toInt < n141) → (sI H0 h0 (X.1.2 11 25)).toInt + 1 ≤ (sI H141 h0 (X.1.2 11 25)).toInt → (sI H0 h0 (X.1.2 11 12)).toInt ≤ 7 * (sI H141 h0 (X.1.2 11 12)).toInt → 0 = 1 → (sI H141 h0 (X.1.2 11 12)).toInt = 0 → a1 ≤ 2 → zz ≤ 7 * (sI H141 h0 (X.1.2 11 12)).toInt → SWc (sI H141 h0 (X.1.2 11 12)).toInt H141 ca ((sI H0 h0 (X.1.2 11 25)).toInt + 1) (sI H141 h0 (X.1.2 11 25)).toInt → Conf X Γ H141 → va_S (AΓ Γ) H0 H141 locs141 → Kp X Γ [1, 6, 7, 8, 9, 10, 11, 12, 16, 17] H0 H141 → (KB H0 H141 ca (2324 + 9 * (sI H0 h0 (X.1.2 11 25)).toInt)) → (okP H141 ca (2324 + (9 * v116.toInt)) v21.toInt zz) → lv_has ls 5 [(4, .int v126), (3, .int 0), (2, .int v21), (0, .ref h0), (1, .int p1)] → W p l e (rmL (6 + d)) s m args below meth c H141 locs141 0 0 Qz (F0 m 142 ls []) := by
                intro n141
                induction n141 with
                | zero => intro H141 locs141 ls hm141 iv141_0 iv141_1 iv141_2 iv141_3 iv141_4 hC141 hS141 hKp141 kb okp hl; exact absurd hm141 (by omega)
                | succ n141 ih141 =>
                  intro H141 locs141 ls hm141 iv141_0 iv141_1 iv141_2 iv141_3 iv141_4 hC141 hS141 hKp141 kb okp hl
                  have hb1 := f_bd hC141 g0 (ci := 11) (k := 25) rfl rfl
                  have hb2 := f_bd hC141 g0 (ci := 11) (k := 12) rfl rfl
                  have swi := iv141_4
                  obtain ⟨nL, hnL⟩ : ∃ z, (sI H141 h0 (X.1.2 11 25)).toInt = z := ⟨_, rfl⟩
                  obtain ⟨bL, hbL⟩ : ∃ z, (sI H141 h0 (X.1.2 11 12)).toInt = z := ⟨_, rfl⟩
                  have sw : SWc bL H141 ca ((sI H0 h0 (X.1.2 11 25)).toInt + 1) nL := by have h := iv141_4; rw [hnL, hbL] at h; exact h
                  refine lv_iload_n hx hb dX12_readStep_142 rfl (lv_at hl 1 rfl) ?_
                  refine q_if_eq hx hb (a := 0) (by decide) (tgt := 170) dX12_readStep_143 rfl (fun c142 => ?_) (fun c142 => absurd c142 (by omega))
                  refine lv_iload_n hx hb dX12_readStep_170 rfl (lv_at hl 1 rfl) ?_
                  refine q_if_eq hx hb (a := 0) (by decide) (tgt := 192) dX12_readStep_171 rfl (fun c143 => ?_) (fun c143 => absurd c143 (by omega))
                  refine lv_aload_n hx hb dX12_readStep_192 rfl (lv_at hl 3 rfl) ?_
                  refine q_getC E hC141 g0 fa_RX12_35 uc dX12_readStep_193 ?_
                  refine lv_iload hx hb dX12_readStep_196 (lv_at hl 0 rfl) ?_
                  refine lv_bipush (v := 8) hx hb dX12_readStep_198 rfl ?_
                  refine lv_iadd hx hb dX12_readStep_200 (lv_topi (fun v144 ev144 => ?_))
                  have ev144i : v144.toInt = ((2324 + (9 * v116.toInt)) + 8) := i_add ev144 ev126i (by decide) (by omega) (by omega)
                  refine lv_aload_n hx hb dX12_readStep_201 rfl (lv_at hl 3 rfl) ?_
                  refine q_getI E hC141 g0 fa_RX12_283 dX12_readStep_202 (fun v145 ev145 lv145 uv145 => ?_)
                  have m146 : (sI H141 h0 (X.1.2 11 25)).toInt = v145.toInt := (congrArg Int32.toInt ev145).trans rfl
                  refine q_cast E hC141 hS141 gca (a := ((2324 + (9 * v116.toInt)) + 8)) ev144i (by omega) (by omega) (cs_n244 (a := ((2324 + (9 * v116.toInt)) + 8)) (by omega) (by omega)) dX12_readStep_205 (fun H147 locs147 hC147 hS147 U147 => ?_)
                  have hKp147 := Kp.upD gca rfl rfl (fun _ => ⟨fun _ => nd4 (by omega) (by omega), fun _ => by unfold dpu; omega, fun _ => by unfold dpn; omega⟩) U147 hKp141
                  have kb : KB H0 H147 ca (2324 + 9 * (sI H0 h0 (X.1.2 11 25)).toInt) := KB.up kb U147 (by omega)
                  have okp : okP H147 ca (2324 + (9 * v116.toInt)) v21.toInt zz := okP.up okp U147 (by omega) (by omega)
                  have sw : SWc bL H147 ca ((sI H0 h0 (X.1.2 11 25)).toInt + 1) nL := SWc.up sw U147 (by omega) (by omega)
                  have m148 : (sI H147 h0 (X.1.2 11 12)).toInt = (sI H141 h0 (X.1.2 11 12)).toInt := congrArg Int32.toInt (up_nI U147 (ne_k g0 gca (by decide)))
                  have m149 : (sI H147 h0 (X.1.2 11 25)).toInt = (sI H141 h0 (X.1.2 11 25)).toInt := congrArg Int32.toInt (up_nI U147 (ne_k g0 gca (by decide)))
                  have hce : (sI H147 ca ((2324 + (9 * v116.toInt)) + 8).toNat).toInt = v145.toInt := (congrArg Int32.toInt (up_I U147)).trans rfl
                  have e150 := up_I U147
                  have swf : SWc (sI H147 h0 (X.1.2 11 12)).toInt H147 ca (sI H0 h0 (X.1.2 11 25)).toInt (sI H147 h0 (X.1.2 11 25)).toInt := fun hz => SWn.one (k := v21.toInt) (w := (2324 + (9 * v116.toInt))) (by have h0 : zz = 0 := (by omega); rw [h0] at okp; exact okp) (by omega) ⟨by omega, by omega⟩ hce (by omega) (by omega) (by have h := sw (by omega); rw [show nL = (sI H147 h0 (X.1.2 11 25)).toInt from (by omega)] at h; exact h)
                  exact ret H147 locs147 _ _ dX12_readStep_206 ⟨hKp147, ⟨by omega, by omega, by omega, by omega, by omega, kb, swf⟩⟩ hC147 hS147
              exact L142 33 H140 locs140 ls (by omega) (by omega) (by omega) (by omega) (by omega) (fun _ => SWn.nil (by omega)) hC140 hS140 hKp140 kb okp hl
            · refine lv_aload_n hx hb dX12_readStep_47 rfl (lv_at hl 2 rfl) ?_
              refine lv_bipush (v := 6) hx hb dX12_readStep_48 rfl ?_
              refine lv_aload_n hx hb dX12_readStep_50 rfl (lv_at hl 2 rfl) ?_
              refine q_getI E hC0 g0 fa_RX12_114 dX12_readStep_51 (fun v151 ev151 lv151 uv151 => ?_)
              refine q_goV (q_runV (As := [.int 6, .int v151]) (rest := []) E hC0 hS21 (m_X12_fail l X Γ H0 hC0 h0 g0 6 (a1 := 6) (by decide) v151 (a2 := v151.toInt) rfl ca gca uc (by omega) (by omega)) cw_X12_fail cl_RX12_224 g0 ⟨rfl, rfl⟩ rfl hl.1 rfl (Nat.zero_le _) ⟨by omega, by omega⟩ dX12_readStep_54) hS21 (fun H152 locs152 hr152 hC152 hS152 => ?_)
              obtain ⟨hp152, hr152⟩ := hr152
              have hKp152 := hKp0.tr (hp152.mono rfl)
              have kb : KB H0 H152 ca (2324 + 9 * (sI H0 h0 (X.1.2 11 25)).toInt) := KB.kp kb hp152 gca rfl
              obtain ⟨f152_0, f152_1, f152_2, f152_3⟩ := hr152
              refine lv_aload_n hx hb dX12_readStep_57 rfl (lv_at hl 2 rfl) ?_
              refine q_getI E hC152 g0 fa_RX12_218 dX12_readStep_58 (fun v153 ev153 lv153 uv153 => ?_)
              have m154 : (sI H152 h0 (X.1.2 11 12)).toInt = v153.toInt := (congrArg Int32.toInt ev153).trans rfl
              refine q_if_ne hx hb (a := v153.toInt) rfl (tgt := 83) dX12_readStep_61 rfl (fun c155 => ?_) (fun c155 => absurd c155 (by omega))
              refine lv_aload_n hx hb dX12_readStep_83 rfl (lv_at hl 2 rfl) ?_
              refine q_getI E hC152 g0 fa_RX12_218 dX12_readStep_84 (fun v156 ev156 lv156 uv156 => ?_)
              have qv156 := ev153.symm.trans ev156; subst qv156
              refine q_if_le hx hb (a := v153.toInt) rfl (tgt := 91) dX12_readStep_87 rfl (fun c157 => absurd c157 (by omega)) (fun c157 => ?_)
              have e158 := (kp_I hp152 g0 (k := 25) rfl (by decide) rfl).trans ev116
              have m159 : (sI H152 h0 (X.1.2 11 25)).toInt = v116.toInt := (congrArg Int32.toInt e158).trans rfl
              have swf : SWc (sI H152 h0 (X.1.2 11 12)).toInt H152 ca (sI H0 h0 (X.1.2 11 25)).toInt (sI H152 h0 (X.1.2 11 25)).toInt := fun h => absurd h (by omega)
              exact ret H152 locs152 _ _ dX12_readStep_90 ⟨hKp152, ⟨by omega, by omega, by omega, by omega, by omega, kb, swf⟩⟩ hC152 hS152
        · refine lv_aload_n hx hb dX12_readStep_27 rfl (lv_at hl 2 rfl) ?_
          refine q_goV (q_runV (As := []) (rest := []) E hC0 hS21 (m_X12_wrong l X Γ H0 hC0 h0 g0 ca gca uc) cw_X12_wrong cl_RX12_231 g0 ⟨rfl, rfl⟩ rfl hl.1 rfl (Nat.zero_le _) ⟨by omega, by omega⟩ dX12_readStep_28) hS21 (fun H160 locs160 hr160 hC160 hS160 => ?_)
          obtain ⟨hp160, hr160⟩ := hr160
          have hKp160 := hKp0.tr (hp160.mono rfl)
          have kb : KB H0 H160 ca (2324 + 9 * (sI H0 h0 (X.1.2 11 25)).toInt) := KB.kp kb hp160 gca rfl
          obtain ⟨f160_0, f160_1, f160_2, f160_3⟩ := hr160
          refine lv_aload_n hx hb dX12_readStep_31 rfl (lv_at hl 2 rfl) ?_
          refine q_getI E hC160 g0 fa_RX12_218 dX12_readStep_32 (fun v161 ev161 lv161 uv161 => ?_)
          have m162 : (sI H160 h0 (X.1.2 11 12)).toInt = v161.toInt := (congrArg Int32.toInt ev161).trans rfl
          refine q_if_ne hx hb (a := v161.toInt) rfl (tgt := 57) dX12_readStep_35 rfl (fun c163 => ?_) (fun c163 => absurd c163 (by omega))
          refine lv_aload_n hx hb dX12_readStep_57 rfl (lv_at hl 2 rfl) ?_
          refine q_getI E hC160 g0 fa_RX12_218 dX12_readStep_58 (fun v164 ev164 lv164 uv164 => ?_)
          have qv164 := ev161.symm.trans ev164; subst qv164
          refine q_if_ne hx hb (a := v161.toInt) rfl (tgt := 83) dX12_readStep_61 rfl (fun c165 => ?_) (fun c165 => absurd c165 (by omega))
          refine lv_aload_n hx hb dX12_readStep_83 rfl (lv_at hl 2 rfl) ?_
          refine q_getI E hC160 g0 fa_RX12_218 dX12_readStep_84 (fun v166 ev166 lv166 uv166 => ?_)
          have qv166 := ev161.symm.trans ev166; subst qv166
          refine q_if_le hx hb (a := v161.toInt) rfl (tgt := 91) dX12_readStep_87 rfl (fun c167 => absurd c167 (by omega)) (fun c167 => ?_)
          have swf : SWc (sI H160 h0 (X.1.2 11 12)).toInt H160 ca (sI H0 h0 (X.1.2 11 25)).toInt (sI H160 h0 (X.1.2 11 25)).toInt := fun h => absurd h (by omega)
          exact ret H160 locs160 _ _ dX12_readStep_90 ⟨hKp160, ⟨by omega, by omega, by omega, by omega, by omega, kb, swf⟩⟩ hC160 hS160
      · refine lv_iconst (v := 1) hx hb dX12_readStep_17 rfl ?_
        refine lv_goto (tgt := 22) hx hb dX12_readStep_18 rfl ?_
        refine lv_istore_n hx hb dX12_readStep_22 rfl hl (by decide) rfl (fun ls hl => ?_)
        have hl : lv_has ls 5 [(3, .int 1), (2, .int v21), (0, .ref h0), (1, .int p1)] := hl
        refine lv_iload_n hx hb dX12_readStep_23 rfl (lv_at hl 1 rfl) ?_
        refine q_if_ge hx hb (a := v21.toInt) rfl (tgt := 31) dX12_readStep_24 rfl (fun c168 => ?_) (fun c168 => absurd c168 (by omega))
        refine lv_aload_n hx hb dX12_readStep_31 rfl (lv_at hl 2 rfl) ?_
        refine q_getI E hC0 g0 fa_RX12_218 dX12_readStep_32 (fun v169 ev169 lv169 uv169 => ?_)
        have m170 : (sI H0 h0 (X.1.2 11 12)).toInt = v169.toInt := (congrArg Int32.toInt ev169).trans rfl
        refine q_if_ne hx hb (a := v169.toInt) rfl (tgt := 57) dX12_readStep_35 rfl (fun c171 => ?_) (fun c171 => ?_)
        · refine lv_aload_n hx hb dX12_readStep_57 rfl (lv_at hl 2 rfl) ?_
          refine q_getI E hC0 g0 fa_RX12_218 dX12_readStep_58 (fun v172 ev172 lv172 uv172 => ?_)
          have qv172 := ev169.symm.trans ev172; subst qv172
          refine q_if_ne hx hb (a := v169.toInt) rfl (tgt := 83) dX12_readStep_61 rfl (fun c173 => ?_) (fun c173 => absurd c173 (by omega))
          refine lv_aload_n hx hb dX12_readStep_83 rfl (lv_at hl 2 rfl) ?_
          refine q_getI E hC0 g0 fa_RX12_218 dX12_readStep_84 (fun v174 ev174 lv174 uv174 => ?_)
          have qv174 := ev169.symm.trans ev174; subst qv174
          refine q_if_le hx hb (a := v169.toInt) rfl (tgt := 91) dX12_readStep_87 rfl (fun c175 => absurd c175 (by omega)) (fun c175 => ?_)
          have swf : SWc (sI H0 h0 (X.1.2 11 12)).toInt H0 ca (sI H0 h0 (X.1.2 11 25)).toInt (sI H0 h0 (X.1.2 11 25)).toInt := fun h => absurd h (by omega)
          exact ret H0 locs21 _ _ dX12_readStep_90 ⟨hKp0, ⟨by omega, by omega, by omega, by omega, by omega, kb, swf⟩⟩ hC0 hS21
        · refine lv_aload_n hx hb dX12_readStep_38 rfl (lv_at hl 2 rfl) ?_
          refine q_getI E hC0 g0 fa_RX12_283 dX12_readStep_39 (fun v176 ev176 lv176 uv176 => ?_)
          have m177 : (sI H0 h0 (X.1.2 11 25)).toInt = v176.toInt := (congrArg Int32.toInt ev176).trans rfl
          refine lv_bipush (v := 30) hx hb dX12_readStep_42 rfl ?_
          refine q_icmp_ne hx hb (a := v176.toInt) (b := 30) rfl (by decide) (tgt := 57) dX12_readStep_44 rfl (fun c178 => ?_) (fun c178 => ?_)
          · refine lv_aload_n hx hb dX12_readStep_57 rfl (lv_at hl 2 rfl) ?_
            refine q_getI E hC0 g0 fa_RX12_218 dX12_readStep_58 (fun v179 ev179 lv179 uv179 => ?_)
            have qv179 := ev169.symm.trans ev179; subst qv179
            refine q_if_ne hx hb (a := v169.toInt) rfl (tgt := 83) dX12_readStep_61 rfl (fun c180 => absurd c180 (by omega)) (fun c180 => ?_)
            refine lv_iload_n hx hb dX12_readStep_64 rfl (lv_at hl 0 rfl) ?_
            refine q_if_eq hx hb (a := 1) (by decide) (tgt := 83) dX12_readStep_65 rfl (fun c181 => absurd c181 (by omega)) (fun c181 => ?_)
            refine lv_iload_n hx hb dX12_readStep_68 rfl (lv_at hl 3 rfl) ?_
            refine lv_iconst (v := 3) hx hb dX12_readStep_69 rfl ?_
            refine q_icmp_ne hx hb (a := a1) (b := 3) e1 (by decide) (tgt := 83) dX12_readStep_70 rfl (fun c182 => ?_) (fun c182 => ?_)
            · refine lv_aload_n hx hb dX12_readStep_83 rfl (lv_at hl 2 rfl) ?_
              refine q_getI E hC0 g0 fa_RX12_218 dX12_readStep_84 (fun v183 ev183 lv183 uv183 => ?_)
              have qv183 := ev169.symm.trans ev183; subst qv183
              refine q_if_le hx hb (a := v169.toInt) rfl (tgt := 91) dX12_readStep_87 rfl (fun c184 => ?_) (fun c184 => absurd c184 (by omega))
              refine lv_sipush (v := 2324) hx hb dX12_readStep_91 rfl ?_
              refine lv_bipush (v := 9) hx hb dX12_readStep_94 rfl ?_
              refine lv_aload_n hx hb dX12_readStep_96 rfl (lv_at hl 2 rfl) ?_
              refine q_getI E hC0 g0 fa_RX12_283 dX12_readStep_97 (fun v185 ev185 lv185 uv185 => ?_)
              have qv185 := ev176.symm.trans ev185; subst qv185
              refine lv_imul hx hb dX12_readStep_100 (lv_topi (fun v186 ev186 => ?_))
              have ev186i : v186.toInt = (9 * v176.toInt) := i_mul ev186 (by decide) rfl (by omega) (by omega)
              refine lv_iadd hx hb dX12_readStep_101 (lv_topi (fun v187 ev187 => ?_))
              have ev187i : v187.toInt = (2324 + (9 * v176.toInt)) := i_add ev187 (by decide) ev186i (by omega) (by omega)
              refine lv_istore hx hb dX12_readStep_102 hl (by decide) rfl (fun ls hl => ?_)
              have hl : lv_has ls 5 [(4, .int v187), (3, .int 1), (2, .int v21), (0, .ref h0), (1, .int p1)] := hl
              refine lv_aload_n hx hb dX12_readStep_104 rfl (lv_at hl 3 rfl) ?_
              refine lv_dup hx hb dX12_readStep_105 rfl ?_
              refine q_getI E hC0 g0 fa_RX12_283 dX12_readStep_106 (fun v188 ev188 lv188 uv188 => ?_)
              have qv188 := ev176.symm.trans ev188; subst qv188
              refine lv_iconst (v := 1) hx hb dX12_readStep_109 rfl ?_
              refine lv_iadd hx hb dX12_readStep_110 (lv_topi (fun v189 ev189 => ?_))
              have ev189i : v189.toInt = (v176.toInt + 1) := i_add ev189 rfl (by decide) (by omega) (by omega)
              refine q_put E hC0 hS21 g0 fp_RX12_283 (tv_I ev189i (by omega) (by omega)) rfl rfl dX12_readStep_111 (fun H190 locs190 hC190 hS190 U190 => ?_)
              have hKp190 := Kp.upO E g0 fp_RX12_283 rfl U190 hKp0
              have e191 := up_I U190
              have m192 : (sI H190 h0 (X.1.2 11 25)).toInt = (v176.toInt + 1) := (congrArg Int32.toInt e191).trans ev189i
              have kb : KB H0 H190 ca (2324 + 9 * (sI H0 h0 (X.1.2 11 25)).toInt) := KB.ne kb U190 (nek g0 gca (by decide))
              have m193 : (sI H190 h0 (X.1.2 11 12)).toInt = (sI H0 h0 (X.1.2 11 12)).toInt := congrArg Int32.toInt (up_nI U190 (ne_f E 11 12 25 rfl (by decide) (by decide) (by decide)))
              refine lv_aload_n hx hb dX12_readStep_114 rfl (lv_at hl 3 rfl) ?_
              refine q_goV (q_runV (As := []) (rest := []) E hC190 hS190 (m_X12_next l X Γ H190 hC190 h0 g0 ca gca uc) cw_X12_next cl_RX12_228 g0 ⟨rfl, rfl⟩ rfl hl.1 rfl (Nat.zero_le _) ⟨by omega, by omega⟩ dX12_readStep_115) hS190 (fun H194 locs194 hr194 hC194 hS194 => ?_)
              obtain ⟨hp194, hr194⟩ := hr194
              have hKp194 := hKp190.tr (hp194.mono rfl)
              have kb : KB H0 H194 ca (2324 + 9 * (sI H0 h0 (X.1.2 11 25)).toInt) := KB.kp kb hp194 gca rfl
              obtain ⟨f194_0, f194_1, f194_2⟩ := hr194
              refine lv_aload_n hx hb dX12_readStep_118 rfl (lv_at hl 3 rfl) ?_
              refine q_getC E hC194 g0 fa_RX12_35 uc dX12_readStep_119 ?_
              refine lv_iload hx hb dX12_readStep_122 (lv_at hl 0 rfl) ?_
              refine lv_iload_n hx hb dX12_readStep_124 rfl (lv_at hl 2 rfl) ?_
              refine q_cast E hC194 hS194 gca (a := (2324 + (9 * v176.toInt))) ev187i (by omega) (by omega) (cs_n244 (a := (2324 + (9 * v176.toInt))) (by omega) (by omega)) dX12_readStep_125 (fun H195 locs195 hC195 hS195 U195 => ?_)
              have hKp195 := Kp.upD gca rfl rfl (fun _ => ⟨fun _ => nd4 (by omega) (by omega), fun _ => by unfold dpu; omega, fun _ => by unfold dpn; omega⟩) U195 hKp194
              have kb : KB H0 H195 ca (2324 + 9 * (sI H0 h0 (X.1.2 11 25)).toInt) := KB.up kb U195 (by omega)
              have m196 : (sI H195 h0 (X.1.2 11 12)).toInt = (sI H194 h0 (X.1.2 11 12)).toInt := congrArg Int32.toInt (up_nI U195 (ne_k g0 gca (by decide)))
              have m197 : (sI H195 h0 (X.1.2 11 25)).toInt = (sI H194 h0 (X.1.2 11 25)).toInt := congrArg Int32.toInt (up_nI U195 (ne_k g0 gca (by decide)))
              have hck : (sI H195 ca ((2324 + (9 * v176.toInt))).toNat).toInt = v21.toInt := (congrArg Int32.toInt (up_I U195)).trans rfl
              have e198 := up_I U195
              refine lv_aload_n hx hb dX12_readStep_126 rfl (lv_at hl 3 rfl) ?_
              refine lv_iload hx hb dX12_readStep_127 (lv_at hl 0 rfl) ?_
              refine q_goV (q_runV (As := [.int v187]) (rest := []) E hC195 hS195 (m_X12_readRest l X Γ H195 hC195 h0 g0 v187 (a1 := (2324 + (9 * v176.toInt))) ev187i ca gca uc (by omega) (by omega)) cw_X12_readRest cl_RX12_286 g0 ⟨rfl, rfl⟩ rfl hl.1 rfl (Nat.zero_le _) ⟨by omega, by omega⟩ dX12_readStep_129) hS195 (fun H199 locs199 hr199 hC199 hS199 => ?_)
              obtain ⟨hp199, hr199⟩ := hr199
              have hKp199 := hKp195.tr (hp199.mono rfl)
              obtain ⟨f199_0, f199_1, f199_2, f199_3, f199_4⟩ := hr199
              have kb : KB H0 H199 ca (2324 + 9 * (sI H0 h0 (X.1.2 11 25)).toInt) := KB.tr kb f199_3 (by omega)
              obtain ⟨zz, hzz⟩ : ∃ z, (sI H199 h0 (X.1.2 11 12)).toInt = z := ⟨_, rfl⟩
              have okp : okP H199 ca (2324 + (9 * v176.toInt)) v21.toInt zz := by have h := f199_4; rw [hck, hzz] at h; exact h
              refine lv_aload_n hx hb dX12_readStep_132 rfl (lv_at hl 3 rfl) ?_
              refine lv_aload_n hx hb dX12_readStep_133 rfl (lv_at hl 3 rfl) ?_
              refine lv_bipush (v := 59) hx hb dX12_readStep_134 rfl ?_
              refine q_goIp (q_runV (As := [.int 59]) (rest := [.ref h0]) E hC199 hS199 (m_X12_isSign l X Γ H199 hC199 h0 g0 59 (a1 := 59) (by decide) ca gca uc) cw_X12_isSign cl_RX12_255 g0 ⟨rfl, rfl⟩ rfl hl.1 rfl (show _ ≤ _ from by simp [Value.category]) ⟨by omega, by omega⟩ dX12_readStep_136) hS199 (fun v200 locs200 hr200 hS200 => ?_)
              have b200 : (v200.toInt = 1 ∧ _) ∨ (v200.toInt = 0 ∧ _) := hr200.imp (fun h => ⟨by rw [h.1]; decide, h.2⟩) (fun h => ⟨by rw [h.1]; decide, h.2⟩)
              refine q_goV (q_runV (As := [.int v200]) (rest := []) E hC199 hS200 (m_X12_must l X Γ H199 hC199 h0 g0 v200 (a1 := v200.toInt) rfl ca gca uc (by omega) (by omega)) cw_X12_must cl_RX12_244 g0 ⟨rfl, rfl⟩ rfl hl.1 rfl (Nat.zero_le _) ⟨by omega, by omega⟩ dX12_readStep_139) hS200 (fun H201 locs201 hr201 hC201 hS201 => ?_)
              obtain ⟨hp201, hr201⟩ := hr201
              have hKp201 := hKp199.tr (hp201.mono rfl)
              have kb : KB H0 H201 ca (2324 + 9 * (sI H0 h0 (X.1.2 11 25)).toInt) := KB.kp kb hp201 gca rfl
              have okp : okP H201 ca (2324 + (9 * v176.toInt)) v21.toInt zz := okP.kp okp hp201 gca rfl
              obtain ⟨f201_0, f201_1, f201_2, f201_3, f201_4⟩ := hr201
              have L142 : ∀ (n202 : Nat) (H202 : Heap) (locs202 : List Loc) (ls : Array Slot), 0 < n202 ∧ ((sI H202 h0 (X.1.2 11 12)).toInt ≠ 0 ∨ 32 - (sI H202 h0 (X.1.2 11 25)).toInt < n202) → (sI H0 h0 (X.1.2 11 25)).toInt + 1 ≤ (sI H202 h0 (X.1.2 11 25)).toInt → (sI H0 h0 (X.1.2 11 12)).toInt ≤ 7 * (sI H202 h0 (X.1.2 11 12)).toInt → 1 = 1 → (sI H202 h0 (X.1.2 11 12)).toInt = 0 → a1 ≤ 2 → zz ≤ 7 * (sI H202 h0 (X.1.2 11 12)).toInt → SWc (sI H202 h0 (X.1.2 11 12)).toInt H202 ca ((sI H0 h0 (X.1.2 11 25)).toInt + 1) (sI H202 h0 (X.1.2 11 25)).toInt → Conf X Γ H202 → va_S (AΓ Γ) H0 H202 locs202 → Kp X Γ [1, 6, 7, 8, 9, 10, 11, 12, 16, 17] H0 H202 → (KB H0 H202 ca (2324 + 9 * (sI H0 h0 (X.1.2 11 25)).toInt)) → (okP H202 ca (2324 + (9 * v176.toInt)) v21.toInt zz) → lv_has ls 5 [(4, .int v187), (3, .int 1), (2, .int v21), (0, .ref h0), (1, .int p1)] → W p l e (rmL (6 + d)) s m args below meth c H202 locs202 0 0 Qz (F0 m 142 ls []) := by
                intro n202
                induction n202 with
                | zero => intro H202 locs202 ls hm202 iv202_0 iv202_1 iv202_2 iv202_3 iv202_4 hC202 hS202 hKp202 kb okp hl; exact absurd hm202 (by omega)
                | succ n202 ih202 =>
                  intro H202 locs202 ls hm202 iv202_0 iv202_1 iv202_2 iv202_3 iv202_4 hC202 hS202 hKp202 kb okp hl
                  have hb1 := f_bd hC202 g0 (ci := 11) (k := 25) rfl rfl
                  have hb2 := f_bd hC202 g0 (ci := 11) (k := 12) rfl rfl
                  have swi := iv202_4
                  obtain ⟨nL, hnL⟩ : ∃ z, (sI H202 h0 (X.1.2 11 25)).toInt = z := ⟨_, rfl⟩
                  obtain ⟨bL, hbL⟩ : ∃ z, (sI H202 h0 (X.1.2 11 12)).toInt = z := ⟨_, rfl⟩
                  have sw : SWc bL H202 ca ((sI H0 h0 (X.1.2 11 25)).toInt + 1) nL := by have h := iv202_4; rw [hnL, hbL] at h; exact h
                  refine lv_iload_n hx hb dX12_readStep_142 rfl (lv_at hl 1 rfl) ?_
                  refine q_if_eq hx hb (a := 1) (by decide) (tgt := 170) dX12_readStep_143 rfl (fun c203 => absurd c203 (by omega)) (fun c203 => ?_)
                  refine lv_aload_n hx hb dX12_readStep_146 rfl (lv_at hl 3 rfl) ?_
                  refine q_getI E hC202 g0 fa_RX12_218 dX12_readStep_147 (fun v204 ev204 lv204 uv204 => ?_)
                  have m205 : (sI H202 h0 (X.1.2 11 12)).toInt = v204.toInt := (congrArg Int32.toInt ev204).trans rfl
                  refine q_if_ne hx hb (a := v204.toInt) rfl (tgt := 170) dX12_readStep_150 rfl (fun c206 => ?_) (fun c206 => ?_)
                  · refine lv_iload_n hx hb dX12_readStep_170 rfl (lv_at hl 1 rfl) ?_
                    refine q_if_eq hx hb (a := 1) (by decide) (tgt := 192) dX12_readStep_171 rfl (fun c207 => absurd c207 (by omega)) (fun c207 => ?_)
                    refine lv_aload_n hx hb dX12_readStep_174 rfl (lv_at hl 3 rfl) ?_
                    refine lv_aload_n hx hb dX12_readStep_175 rfl (lv_at hl 3 rfl) ?_
                    refine q_goIp (q_runV (As := []) (rest := [.ref h0]) E hC202 hS202 (m_X12_isEnd l X Γ H202 hC202 h0 g0 ca gca uc) cw_X12_isEnd cl_RX12_215 g0 ⟨rfl, rfl⟩ rfl hl.1 rfl (show _ ≤ _ from by simp [Value.category]) ⟨by omega, by omega⟩ dX12_readStep_176) hS202 (fun v208 locs208 hr208 hS208 => ?_)
                    have b208 : v208.toInt = 0 ∨ v208.toInt = 1 := hr208.imp (fun h => by rw [h]; decide) (fun h => by rw [h]; decide)
                    refine q_goV (q_runV (As := [.int v208]) (rest := []) E hC202 hS208 (m_X12_must l X Γ H202 hC202 h0 g0 v208 (a1 := v208.toInt) rfl ca gca uc (by omega) (by omega)) cw_X12_must cl_RX12_244 g0 ⟨rfl, rfl⟩ rfl hl.1 rfl (Nat.zero_le _) ⟨by omega, by omega⟩ dX12_readStep_179) hS208 (fun H209 locs209 hr209 hC209 hS209 => ?_)
                    obtain ⟨hp209, hr209⟩ := hr209
                    have hKp209 := hKp202.tr (hp209.mono rfl)
                    have kb : KB H0 H209 ca (2324 + 9 * (sI H0 h0 (X.1.2 11 25)).toInt) := KB.kp kb hp209 gca rfl
                    have okp : okP H209 ca (2324 + (9 * v176.toInt)) v21.toInt zz := okP.kp okp hp209 gca rfl
                    have sw : SWc bL H209 ca ((sI H0 h0 (X.1.2 11 25)).toInt + 1) nL := SWc.kp sw hp209 gca rfl (by omega)
                    obtain ⟨f209_0, f209_1, f209_2, f209_3, f209_4⟩ := hr209
                    refine lv_aload_n hx hb dX12_readStep_182 rfl (lv_at hl 3 rfl) ?_
                    refine lv_aload_n hx hb dX12_readStep_183 rfl (lv_at hl 3 rfl) ?_
                    refine lv_bipush (v := 59) hx hb dX12_readStep_184 rfl ?_
                    refine q_goIp (q_runV (As := [.int 59]) (rest := [.ref h0]) E hC209 hS209 (m_X12_isSign l X Γ H209 hC209 h0 g0 59 (a1 := 59) (by decide) ca gca uc) cw_X12_isSign cl_RX12_255 g0 ⟨rfl, rfl⟩ rfl hl.1 rfl (show _ ≤ _ from by simp [Value.category]) ⟨by omega, by omega⟩ dX12_readStep_186) hS209 (fun v210 locs210 hr210 hS210 => ?_)
                    have b210 : (v210.toInt = 1 ∧ _) ∨ (v210.toInt = 0 ∧ _) := hr210.imp (fun h => ⟨by rw [h.1]; decide, h.2⟩) (fun h => ⟨by rw [h.1]; decide, h.2⟩)
                    refine q_goV (q_runV (As := [.int v210]) (rest := []) E hC209 hS210 (m_X12_must l X Γ H209 hC209 h0 g0 v210 (a1 := v210.toInt) rfl ca gca uc (by omega) (by omega)) cw_X12_must cl_RX12_244 g0 ⟨rfl, rfl⟩ rfl hl.1 rfl (Nat.zero_le _) ⟨by omega, by omega⟩ dX12_readStep_189) hS210 (fun H211 locs211 hr211 hC211 hS211 => ?_)
                    obtain ⟨hp211, hr211⟩ := hr211
                    have hKp211 := hKp209.tr (hp211.mono rfl)
                    have kb : KB H0 H211 ca (2324 + 9 * (sI H0 h0 (X.1.2 11 25)).toInt) := KB.kp kb hp211 gca rfl
                    have okp : okP H211 ca (2324 + (9 * v176.toInt)) v21.toInt zz := okP.kp okp hp211 gca rfl
                    have sw : SWc bL H211 ca ((sI H0 h0 (X.1.2 11 25)).toInt + 1) nL := SWc.kp sw hp211 gca rfl (by omega)
                    obtain ⟨f211_0, f211_1, f211_2, f211_3, f211_4⟩ := hr211
                    refine lv_aload_n hx hb dX12_readStep_192 rfl (lv_at hl 3 rfl) ?_
                    refine q_getC E hC211 g0 fa_RX12_35 uc dX12_readStep_193 ?_
                    refine lv_iload hx hb dX12_readStep_196 (lv_at hl 0 rfl) ?_
                    refine lv_bipush (v := 8) hx hb dX12_readStep_198 rfl ?_
                    refine lv_iadd hx hb dX12_readStep_200 (lv_topi (fun v212 ev212 => ?_))
                    have ev212i : v212.toInt = ((2324 + (9 * v176.toInt)) + 8) := i_add ev212 ev187i (by decide) (by omega) (by omega)
                    refine lv_aload_n hx hb dX12_readStep_201 rfl (lv_at hl 3 rfl) ?_
                    refine q_getI E hC211 g0 fa_RX12_283 dX12_readStep_202 (fun v213 ev213 lv213 uv213 => ?_)
                    have m214 : (sI H211 h0 (X.1.2 11 25)).toInt = v213.toInt := (congrArg Int32.toInt ev213).trans rfl
                    refine q_cast E hC211 hS211 gca (a := ((2324 + (9 * v176.toInt)) + 8)) ev212i (by omega) (by omega) (cs_n244 (a := ((2324 + (9 * v176.toInt)) + 8)) (by omega) (by omega)) dX12_readStep_205 (fun H215 locs215 hC215 hS215 U215 => ?_)
                    have hKp215 := Kp.upD gca rfl rfl (fun _ => ⟨fun _ => nd4 (by omega) (by omega), fun _ => by unfold dpu; omega, fun _ => by unfold dpn; omega⟩) U215 hKp211
                    have kb : KB H0 H215 ca (2324 + 9 * (sI H0 h0 (X.1.2 11 25)).toInt) := KB.up kb U215 (by omega)
                    have okp : okP H215 ca (2324 + (9 * v176.toInt)) v21.toInt zz := okP.up okp U215 (by omega) (by omega)
                    have sw : SWc bL H215 ca ((sI H0 h0 (X.1.2 11 25)).toInt + 1) nL := SWc.up sw U215 (by omega) (by omega)
                    have m216 : (sI H215 h0 (X.1.2 11 12)).toInt = (sI H211 h0 (X.1.2 11 12)).toInt := congrArg Int32.toInt (up_nI U215 (ne_k g0 gca (by decide)))
                    have m217 : (sI H215 h0 (X.1.2 11 25)).toInt = (sI H211 h0 (X.1.2 11 25)).toInt := congrArg Int32.toInt (up_nI U215 (ne_k g0 gca (by decide)))
                    have hce : (sI H215 ca ((2324 + (9 * v176.toInt)) + 8).toNat).toInt = v213.toInt := (congrArg Int32.toInt (up_I U215)).trans rfl
                    have e218 := up_I U215
                    have swf : SWc (sI H215 h0 (X.1.2 11 12)).toInt H215 ca (sI H0 h0 (X.1.2 11 25)).toInt (sI H215 h0 (X.1.2 11 25)).toInt := fun hz => SWn.one (k := v21.toInt) (w := (2324 + (9 * v176.toInt))) (by have h0 : zz = 0 := (by omega); rw [h0] at okp; exact okp) (by omega) ⟨by omega, by omega⟩ hce (by omega) (by omega) (by have h := sw (by omega); rw [show nL = (sI H215 h0 (X.1.2 11 25)).toInt from (by omega)] at h; exact h)
                    exact ret H215 locs215 _ _ dX12_readStep_206 ⟨hKp215, ⟨by omega, by omega, by omega, by omega, by omega, kb, swf⟩⟩ hC215 hS215
                  · refine lv_aload_n hx hb dX12_readStep_153 rfl (lv_at hl 3 rfl) ?_
                    refine q_goIp (q_runV (As := []) (rest := []) E hC202 hS202 (m_X12_isEnd l X Γ H202 hC202 h0 g0 ca gca uc) cw_X12_isEnd cl_RX12_215 g0 ⟨rfl, rfl⟩ rfl hl.1 rfl (Nat.zero_le _) ⟨by omega, by omega⟩ dX12_readStep_154) hS202 (fun v219 locs219 hr219 hS219 => ?_)
                    rcases hr219 with rfl | rfl
                    · refine q_if_ne hx hb (a := 0) (by decide) (tgt := 170) dX12_readStep_157 rfl (fun c220 => absurd c220 (by omega)) (fun c220 => ?_)
                      refine lv_aload_n hx hb dX12_readStep_160 rfl (lv_at hl 3 rfl) ?_
                      refine lv_iload_n hx hb dX12_readStep_161 rfl (lv_at hl 4 rfl) ?_
                      refine lv_iconst (v := 1) hx hb dX12_readStep_162 rfl ?_
                      refine lv_iadd hx hb dX12_readStep_163 (lv_topi (fun v221 ev221 => ?_))
                      have ev221i : v221.toInt = (a1 + 1) := i_add ev221 e1 (by decide) (by omega) (by omega)
                      refine q_goV (q_runV (As := [.int v221]) (rest := []) E hC202 hS219 (IH (d - 1) (by omega) H202 hC202 h0 g0 v221 (a1 := (a1 + 1)) ev221i ca gca uc (by omega) (by omega) (by omega)) cw_X12_readStep cl_RX12_289 g0 ⟨rfl, rfl⟩ rfl hl.1 rfl (Nat.zero_le _) ⟨by omega, by omega⟩ dX12_readStep_164) hS219 (fun H222 locs222 hr222 hC222 hS222 => ?_)
                      obtain ⟨hp222, hr222⟩ := hr222
                      have hKp222 := hKp202.tr (hp222.mono rfl)
                      obtain ⟨f222_0, f222_1, f222_2, f222_3, f222_4, f222_5, f222_6⟩ := hr222
                      have kb : KB H0 H222 ca (2324 + 9 * (sI H0 h0 (X.1.2 11 25)).toInt) := KB.tr kb f222_5 (by omega)
                      have okp : okP H222 ca (2324 + (9 * v176.toInt)) v21.toInt zz := okP.kb okp f222_5 (by omega) (by omega)
                      have swi : SWc (sI H222 h0 (X.1.2 11 12)).toInt H222 ca ((sI H0 h0 (X.1.2 11 25)).toInt + 1) (sI H222 h0 (X.1.2 11 25)).toInt := SWc.step swi f222_5 f222_6 (by omega) (by omega) (by omega) (by omega)
                      refine lv_goto (tgt := 142) hx hb dX12_readStep_167 rfl ?_
                      exact ih202 H222 locs222 ls (by omega) (by omega) (by omega) (by omega) (by omega) (swi) hC222 hS222 hKp222 kb okp hl
                    · refine q_if_ne hx hb (a := 1) (by decide) (tgt := 170) dX12_readStep_157 rfl (fun c223 => ?_) (fun c223 => absurd c223 (by omega))
                      refine lv_iload_n hx hb dX12_readStep_170 rfl (lv_at hl 1 rfl) ?_
                      refine q_if_eq hx hb (a := 1) (by decide) (tgt := 192) dX12_readStep_171 rfl (fun c224 => absurd c224 (by omega)) (fun c224 => ?_)
                      refine lv_aload_n hx hb dX12_readStep_174 rfl (lv_at hl 3 rfl) ?_
                      refine lv_aload_n hx hb dX12_readStep_175 rfl (lv_at hl 3 rfl) ?_
                      refine q_goIp (q_runV (As := []) (rest := [.ref h0]) E hC202 hS219 (m_X12_isEnd l X Γ H202 hC202 h0 g0 ca gca uc) cw_X12_isEnd cl_RX12_215 g0 ⟨rfl, rfl⟩ rfl hl.1 rfl (show _ ≤ _ from by simp [Value.category]) ⟨by omega, by omega⟩ dX12_readStep_176) hS219 (fun v225 locs225 hr225 hS225 => ?_)
                      have b225 : v225.toInt = 0 ∨ v225.toInt = 1 := hr225.imp (fun h => by rw [h]; decide) (fun h => by rw [h]; decide)
                      refine q_goV (q_runV (As := [.int v225]) (rest := []) E hC202 hS225 (m_X12_must l X Γ H202 hC202 h0 g0 v225 (a1 := v225.toInt) rfl ca gca uc (by omega) (by omega)) cw_X12_must cl_RX12_244 g0 ⟨rfl, rfl⟩ rfl hl.1 rfl (Nat.zero_le _) ⟨by omega, by omega⟩ dX12_readStep_179) hS225 (fun H226 locs226 hr226 hC226 hS226 => ?_)
                      obtain ⟨hp226, hr226⟩ := hr226
                      have hKp226 := hKp202.tr (hp226.mono rfl)
                      have kb : KB H0 H226 ca (2324 + 9 * (sI H0 h0 (X.1.2 11 25)).toInt) := KB.kp kb hp226 gca rfl
                      have okp : okP H226 ca (2324 + (9 * v176.toInt)) v21.toInt zz := okP.kp okp hp226 gca rfl
                      have sw : SWc bL H226 ca ((sI H0 h0 (X.1.2 11 25)).toInt + 1) nL := SWc.kp sw hp226 gca rfl (by omega)
                      obtain ⟨f226_0, f226_1, f226_2, f226_3, f226_4⟩ := hr226
                      refine lv_aload_n hx hb dX12_readStep_182 rfl (lv_at hl 3 rfl) ?_
                      refine lv_aload_n hx hb dX12_readStep_183 rfl (lv_at hl 3 rfl) ?_
                      refine lv_bipush (v := 59) hx hb dX12_readStep_184 rfl ?_
                      refine q_goIp (q_runV (As := [.int 59]) (rest := [.ref h0]) E hC226 hS226 (m_X12_isSign l X Γ H226 hC226 h0 g0 59 (a1 := 59) (by decide) ca gca uc) cw_X12_isSign cl_RX12_255 g0 ⟨rfl, rfl⟩ rfl hl.1 rfl (show _ ≤ _ from by simp [Value.category]) ⟨by omega, by omega⟩ dX12_readStep_186) hS226 (fun v227 locs227 hr227 hS227 => ?_)
                      have b227 : (v227.toInt = 1 ∧ _) ∨ (v227.toInt = 0 ∧ _) := hr227.imp (fun h => ⟨by rw [h.1]; decide, h.2⟩) (fun h => ⟨by rw [h.1]; decide, h.2⟩)
                      refine q_goV (q_runV (As := [.int v227]) (rest := []) E hC226 hS227 (m_X12_must l X Γ H226 hC226 h0 g0 v227 (a1 := v227.toInt) rfl ca gca uc (by omega) (by omega)) cw_X12_must cl_RX12_244 g0 ⟨rfl, rfl⟩ rfl hl.1 rfl (Nat.zero_le _) ⟨by omega, by omega⟩ dX12_readStep_189) hS227 (fun H228 locs228 hr228 hC228 hS228 => ?_)
                      obtain ⟨hp228, hr228⟩ := hr228
                      have hKp228 := hKp226.tr (hp228.mono rfl)
                      have kb : KB H0 H228 ca (2324 + 9 * (sI H0 h0 (X.1.2 11 25)).toInt) := KB.kp kb hp228 gca rfl
                      have okp : okP H228 ca (2324 + (9 * v176.toInt)) v21.toInt zz := okP.kp okp hp228 gca rfl
                      have sw : SWc bL H228 ca ((sI H0 h0 (X.1.2 11 25)).toInt + 1) nL := SWc.kp sw hp228 gca rfl (by omega)
                      obtain ⟨f228_0, f228_1, f228_2, f228_3, f228_4⟩ := hr228
                      refine lv_aload_n hx hb dX12_readStep_192 rfl (lv_at hl 3 rfl) ?_
                      refine q_getC E hC228 g0 fa_RX12_35 uc dX12_readStep_193 ?_
                      refine lv_iload hx hb dX12_readStep_196 (lv_at hl 0 rfl) ?_
                      refine lv_bipush (v := 8) hx hb dX12_readStep_198 rfl ?_
                      refine lv_iadd hx hb dX12_readStep_200 (lv_topi (fun v229 ev229 => ?_))
                      have ev229i : v229.toInt = ((2324 + (9 * v176.toInt)) + 8) := i_add ev229 ev187i (by decide) (by omega) (by omega)
                      refine lv_aload_n hx hb dX12_readStep_201 rfl (lv_at hl 3 rfl) ?_
                      refine q_getI E hC228 g0 fa_RX12_283 dX12_readStep_202 (fun v230 ev230 lv230 uv230 => ?_)
                      have m231 : (sI H228 h0 (X.1.2 11 25)).toInt = v230.toInt := (congrArg Int32.toInt ev230).trans rfl
                      refine q_cast E hC228 hS228 gca (a := ((2324 + (9 * v176.toInt)) + 8)) ev229i (by omega) (by omega) (cs_n244 (a := ((2324 + (9 * v176.toInt)) + 8)) (by omega) (by omega)) dX12_readStep_205 (fun H232 locs232 hC232 hS232 U232 => ?_)
                      have hKp232 := Kp.upD gca rfl rfl (fun _ => ⟨fun _ => nd4 (by omega) (by omega), fun _ => by unfold dpu; omega, fun _ => by unfold dpn; omega⟩) U232 hKp228
                      have kb : KB H0 H232 ca (2324 + 9 * (sI H0 h0 (X.1.2 11 25)).toInt) := KB.up kb U232 (by omega)
                      have okp : okP H232 ca (2324 + (9 * v176.toInt)) v21.toInt zz := okP.up okp U232 (by omega) (by omega)
                      have sw : SWc bL H232 ca ((sI H0 h0 (X.1.2 11 25)).toInt + 1) nL := SWc.up sw U232 (by omega) (by omega)
                      have m233 : (sI H232 h0 (X.1.2 11 12)).toInt = (sI H228 h0 (X.1.2 11 12)).toInt := congrArg Int32.toInt (up_nI U232 (ne_k g0 gca (by decide)))
                      have m234 : (sI H232 h0 (X.1.2 11 25)).toInt = (sI H228 h0 (X.1.2 11 25)).toInt := congrArg Int32.toInt (up_nI U232 (ne_k g0 gca (by decide)))
                      have hce : (sI H232 ca ((2324 + (9 * v176.toInt)) + 8).toNat).toInt = v230.toInt := (congrArg Int32.toInt (up_I U232)).trans rfl
                      have e235 := up_I U232
                      have swf : SWc (sI H232 h0 (X.1.2 11 12)).toInt H232 ca (sI H0 h0 (X.1.2 11 25)).toInt (sI H232 h0 (X.1.2 11 25)).toInt := fun hz => SWn.one (k := v21.toInt) (w := (2324 + (9 * v176.toInt))) (by have h0 : zz = 0 := (by omega); rw [h0] at okp; exact okp) (by omega) ⟨by omega, by omega⟩ hce (by omega) (by omega) (by have h := sw (by omega); rw [show nL = (sI H232 h0 (X.1.2 11 25)).toInt from (by omega)] at h; exact h)
                      exact ret H232 locs232 _ _ dX12_readStep_206 ⟨hKp232, ⟨by omega, by omega, by omega, by omega, by omega, kb, swf⟩⟩ hC232 hS232
              exact L142 33 H201 locs201 ls (by omega) (by omega) (by omega) (by omega) (by omega) (fun _ => SWn.nil (by omega)) hC201 hS201 hKp201 kb okp hl
            · refine lv_aload_n hx hb dX12_readStep_73 rfl (lv_at hl 2 rfl) ?_
              refine lv_bipush (v := 7) hx hb dX12_readStep_74 rfl ?_
              refine lv_aload_n hx hb dX12_readStep_76 rfl (lv_at hl 2 rfl) ?_
              refine q_getI E hC0 g0 fa_RX12_114 dX12_readStep_77 (fun v236 ev236 lv236 uv236 => ?_)
              refine q_goV (q_runV (As := [.int 7, .int v236]) (rest := []) E hC0 hS21 (m_X12_fail l X Γ H0 hC0 h0 g0 7 (a1 := 7) (by decide) v236 (a2 := v236.toInt) rfl ca gca uc (by omega) (by omega)) cw_X12_fail cl_RX12_224 g0 ⟨rfl, rfl⟩ rfl hl.1 rfl (Nat.zero_le _) ⟨by omega, by omega⟩ dX12_readStep_80) hS21 (fun H237 locs237 hr237 hC237 hS237 => ?_)
              obtain ⟨hp237, hr237⟩ := hr237
              have hKp237 := hKp0.tr (hp237.mono rfl)
              have kb : KB H0 H237 ca (2324 + 9 * (sI H0 h0 (X.1.2 11 25)).toInt) := KB.kp kb hp237 gca rfl
              obtain ⟨f237_0, f237_1, f237_2, f237_3⟩ := hr237
              refine lv_aload_n hx hb dX12_readStep_83 rfl (lv_at hl 2 rfl) ?_
              refine q_getI E hC237 g0 fa_RX12_218 dX12_readStep_84 (fun v238 ev238 lv238 uv238 => ?_)
              have m239 : (sI H237 h0 (X.1.2 11 12)).toInt = v238.toInt := (congrArg Int32.toInt ev238).trans rfl
              refine q_if_le hx hb (a := v238.toInt) rfl (tgt := 91) dX12_readStep_87 rfl (fun c240 => absurd c240 (by omega)) (fun c240 => ?_)
              have e241 := (kp_I hp237 g0 (k := 25) rfl (by decide) rfl).trans ev176
              have m242 : (sI H237 h0 (X.1.2 11 25)).toInt = v176.toInt := (congrArg Int32.toInt e241).trans rfl
              have swf : SWc (sI H237 h0 (X.1.2 11 12)).toInt H237 ca (sI H0 h0 (X.1.2 11 25)).toInt (sI H237 h0 (X.1.2 11 25)).toInt := fun h => absurd h (by omega)
              exact ret H237 locs237 _ _ dX12_readStep_90 ⟨hKp237, ⟨by omega, by omega, by omega, by omega, by omega, kb, swf⟩⟩ hC237 hS237
          · refine lv_aload_n hx hb dX12_readStep_47 rfl (lv_at hl 2 rfl) ?_
            refine lv_bipush (v := 6) hx hb dX12_readStep_48 rfl ?_
            refine lv_aload_n hx hb dX12_readStep_50 rfl (lv_at hl 2 rfl) ?_
            refine q_getI E hC0 g0 fa_RX12_114 dX12_readStep_51 (fun v243 ev243 lv243 uv243 => ?_)
            refine q_goV (q_runV (As := [.int 6, .int v243]) (rest := []) E hC0 hS21 (m_X12_fail l X Γ H0 hC0 h0 g0 6 (a1 := 6) (by decide) v243 (a2 := v243.toInt) rfl ca gca uc (by omega) (by omega)) cw_X12_fail cl_RX12_224 g0 ⟨rfl, rfl⟩ rfl hl.1 rfl (Nat.zero_le _) ⟨by omega, by omega⟩ dX12_readStep_54) hS21 (fun H244 locs244 hr244 hC244 hS244 => ?_)
            obtain ⟨hp244, hr244⟩ := hr244
            have hKp244 := hKp0.tr (hp244.mono rfl)
            have kb : KB H0 H244 ca (2324 + 9 * (sI H0 h0 (X.1.2 11 25)).toInt) := KB.kp kb hp244 gca rfl
            obtain ⟨f244_0, f244_1, f244_2, f244_3⟩ := hr244
            refine lv_aload_n hx hb dX12_readStep_57 rfl (lv_at hl 2 rfl) ?_
            refine q_getI E hC244 g0 fa_RX12_218 dX12_readStep_58 (fun v245 ev245 lv245 uv245 => ?_)
            have m246 : (sI H244 h0 (X.1.2 11 12)).toInt = v245.toInt := (congrArg Int32.toInt ev245).trans rfl
            refine q_if_ne hx hb (a := v245.toInt) rfl (tgt := 83) dX12_readStep_61 rfl (fun c247 => ?_) (fun c247 => absurd c247 (by omega))
            refine lv_aload_n hx hb dX12_readStep_83 rfl (lv_at hl 2 rfl) ?_
            refine q_getI E hC244 g0 fa_RX12_218 dX12_readStep_84 (fun v248 ev248 lv248 uv248 => ?_)
            have qv248 := ev245.symm.trans ev248; subst qv248
            refine q_if_le hx hb (a := v245.toInt) rfl (tgt := 91) dX12_readStep_87 rfl (fun c249 => absurd c249 (by omega)) (fun c249 => ?_)
            have e250 := (kp_I hp244 g0 (k := 25) rfl (by decide) rfl).trans ev176
            have m251 : (sI H244 h0 (X.1.2 11 25)).toInt = v176.toInt := (congrArg Int32.toInt e250).trans rfl
            have swf : SWc (sI H244 h0 (X.1.2 11 12)).toInt H244 ca (sI H0 h0 (X.1.2 11 25)).toInt (sI H244 h0 (X.1.2 11 25)).toInt := fun h => absurd h (by omega)
            exact ret H244 locs244 _ _ dX12_readStep_90 ⟨hKp244, ⟨by omega, by omega, by omega, by omega, by omega, kb, swf⟩⟩ hC244 hS244
