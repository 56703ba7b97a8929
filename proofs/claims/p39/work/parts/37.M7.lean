set_option maxRecDepth 100000 in
set_option maxHeartbeats 4000000 in
theorem m_X12_readRest (l : Launch) (X : xW) (Γ : Nat → Option Nat) (H0 : Heap) (hC0 : Conf X Γ H0) (h0 : Nat) (g0 : Γ h0 = some 11) (p1 : Int32) {a1 : Int} (e1 : p1.toInt = a1) (ca : Nat) (gca : Γ ca = some 64) (uc : ∀ a, Γ a = some 64 → a = ca) (r0 : 2324 ≤ a1) (r1 : a1 ≤ 2585) : Ctr l X Γ yX12_readRest cX12_readRest 3 none 5 [.ref h0, .int p1] H0 (QV X Γ (fun H1 => Kp X Γ [1, 6, 7, 8, 9, 10, 11, 12, 14, 16, 17, 19, 22, 24, 26, 28] H0 H1 ∧ (((sI H0 h0 (X.1.2 11 16)).toInt ≤ (sI H1 h0 (X.1.2 11 16)).toInt) ∧ ((sI H0 h0 (X.1.2 11 12)).toInt ≤ 7 * (sI H1 h0 (X.1.2 11 12)).toInt) ∧ (0 ≤ (sI H1 h0 (X.1.2 11 12)).toInt) ∧ (KB H0 H1 ca (a1 + 1)) ∧ (okP H1 ca a1 (sI H0 ca (a1).toNat).toInt (sI H1 h0 (X.1.2 11 12)).toInt)))) := by
  refine q_enterV (own := "SnowFortsModel") (by decide) rfl (Nat.le_of_ble_eq_true rfl) ?_
  intro p e s m args below meth c ls Qz E hl ret hS0
  have hx := E.1; have hb := E.2.1
  have hKp0 : Kp X Γ [1, 6, 7, 8, 9, 10, 11, 12, 14, 16, 17, 19, 22, 24, 26, 28] H0 H0 := Kp.rf
  have hl : lv_has ls 3 [(0, .ref h0), (1, .int p1)] := hl
  have hz1 := f_bd hC0 g0 (ci := 11) (k := 16) rfl rfl
  have hz2 := f_bd hC0 g0 (ci := 11) (k := 12) rfl rfl
  have kb : KB H0 H0 ca (a1 + 1) := KB.rf
  refine lv_aload_n hx hb dX12_readRest_0 rfl (lv_at hl 0 rfl) ?_
  refine q_getC E hC0 g0 fa_RX12_35 uc dX12_readRest_1 ?_
  refine lv_iload_n hx hb dX12_readRest_4 rfl (lv_at hl 1 rfl) ?_
  refine q_cald E hC0 (lo := -2147483648) (hi := 2147483647) gca (a := a1) e1 (by omega) (by omega) (cr_n244 (by omega) (by omega)) dX12_readRest_5 (fun v21 ev21 _ _ => ?_)
  have m22 : (sI H0 ca (a1 : Int).toNat).toInt = v21.toInt := congrArg Int32.toInt ev21
  refine lv_istore_n hx hb dX12_readRest_6 rfl hl (by decide) rfl (fun ls hl => ?_)
  replace hl : lv_has ls 3 [(2, .int v21), (0, .ref h0), (1, .int p1)] := hl
  refine lv_iload_n hx hb dX12_readRest_7 rfl (lv_at hl 0 rfl) ?_
  refine lv_iconst (v := 2) hx hb dX12_readRest_8 rfl ?_
  refine q_icmp_ge hx hb (a := v21.toInt) (b := 2) rfl (by decide) (tgt := 30) dX12_readRest_9 rfl (fun c23 => ?_) (fun c23 => ?_)
  · refine lv_iload_n hx hb dX12_readRest_30 rfl (lv_at hl 0 rfl) ?_
    refine lv_iconst (v := 2) hx hb dX12_readRest_31 rfl ?_
    refine q_icmp_ne hx hb (a := v21.toInt) (b := 2) rfl (by decide) (tgt := 83) dX12_readRest_32 rfl (fun c24 => ?_) (fun c24 => ?_)
    · refine lv_iload_n hx hb dX12_readRest_83 rfl (lv_at hl 0 rfl) ?_
      refine lv_iconst (v := 3) hx hb dX12_readRest_84 rfl ?_
      refine q_icmp_ne hx hb (a := v21.toInt) (b := 3) rfl (by decide) (tgt := 127) dX12_readRest_85 rfl (fun c25 => ?_) (fun c25 => ?_)
      · refine lv_iload_n hx hb dX12_readRest_127 rfl (lv_at hl 0 rfl) ?_
        refine lv_iconst (v := 4) hx hb dX12_readRest_128 rfl ?_
        refine q_icmp_ne hx hb (a := v21.toInt) (b := 4) rfl (by decide) (tgt := 148) dX12_readRest_129 rfl (fun c26 => ?_) (fun c26 => ?_)
        · refine lv_iload_n hx hb dX12_readRest_148 rfl (lv_at hl 0 rfl) ?_
          refine lv_iconst (v := 5) hx hb dX12_readRest_149 rfl ?_
          refine q_icmp_ne hx hb (a := v21.toInt) (b := 5) rfl (by decide) (tgt := 161) dX12_readRest_150 rfl (fun c27 => ?_) (fun c27 => ?_)
          · refine lv_iload_n hx hb dX12_readRest_161 rfl (lv_at hl 0 rfl) ?_
            refine lv_bipush (v := 7) hx hb dX12_readRest_162 rfl ?_
            refine q_icmp_ne hx hb (a := v21.toInt) (b := 7) rfl (by decide) (tgt := 175) dX12_readRest_164 rfl (fun c28 => ?_) (fun c28 => ?_)
            · refine lv_iload_n hx hb dX12_readRest_175 rfl (lv_at hl 0 rfl) ?_
              refine lv_bipush (v := 8) hx hb dX12_readRest_176 rfl ?_
              refine q_icmp_ne hx hb (a := v21.toInt) (b := 8) rfl (by decide) (tgt := 196) dX12_readRest_178 rfl (fun c29 => ?_) (fun c29 => ?_)
              · have hz8 := tk_nn (sI H0 h0 (X.1.2 11 14)).toInt
                have okp : okP H0 ca a1 (sI H0 ca a1.toNat).toInt (sI H0 h0 (X.1.2 11 12)).toInt := ⟨congrArg Int32.toInt (KB.at kb (by omega) (by omega)), by omega, by omega, by omega, by omega, by omega⟩
                exact ret H0 [] _ _ dX12_readRest_196 ⟨hKp0, ⟨by omega, by omega, by omega, kb, okp⟩⟩ hC0 hS0
              · refine lv_aload_n hx hb dX12_readRest_181 rfl (lv_at hl 1 rfl) ?_
                refine q_getC E hC0 g0 fa_RX12_35 uc dX12_readRest_182 ?_
                refine lv_iload_n hx hb dX12_readRest_185 rfl (lv_at hl 2 rfl) ?_
                refine lv_iconst (v := 1) hx hb dX12_readRest_186 rfl ?_
                refine lv_iadd hx hb dX12_readRest_187 (lv_topi (fun v30 ev30 => ?_))
                have ev30i : v30.toInt = (a1 + 1) := i_add ev30 e1 (by decide) (by omega) (by omega)
                refine lv_aload_n hx hb dX12_readRest_188 rfl (lv_at hl 1 rfl) ?_
                refine lv_iconst (v := 1) hx hb dX12_readRest_189 rfl ?_
                refine lv_bipush (v := 99) hx hb dX12_readRest_190 rfl ?_
                refine q_goI (q_runV (As := [.int 1, .int 99]) (rest := [.int v30, .ref ca]) E hC0 hS0 (m_X12_count l X Γ H0 hC0 h0 g0 1 (a1 := 1) (by decide) 99 (a2 := 99) (by decide) ca gca uc (by omega) (by omega) (by omega) (by omega)) cw_X12_count cl_RX12_248 g0 ⟨rfl, rfl⟩ rfl hl.1 rfl (show _ ≤ _ from by simp [Value.category]) (by decide) dX12_readRest_192) hS0 (fun v31 H31 locs31 hr31 hC31 hS31 => ?_)
                obtain ⟨hp31, hr31⟩ := hr31
                have hKp31 := hKp0.tr (hp31.mono rfl)
                replace kb : KB H0 H31 ca (a1 + 1) := KB.kp kb hp31 gca rfl
                obtain ⟨f31_0, f31_1, f31_2, f31_3, f31_4, f31_5, f31_6, f31_7⟩ := hr31
                refine q_cast E hC31 hS31 gca (a := (a1 + 1)) ev30i (by omega) (by omega) (cs_n244 (a := (a1 + 1)) (by omega) (by omega)) dX12_readRest_195 (fun H32 locs32 hC32 hS32 U32 => ?_)
                have hKp32 := Kp.upD gca rfl rfl (fun _ => ⟨fun _ => nd4 (by omega) (by omega), fun _ => by unfold dpu; omega, fun _ => by unfold dpn; omega⟩) U32 hKp31
                replace kb : KB H0 H32 ca (a1 + 1) := KB.up kb U32 (by omega)
                have m33 : (sI H32 h0 (X.1.2 11 12)).toInt = (sI H31 h0 (X.1.2 11 12)).toInt := congrArg Int32.toInt (up_nI U32 (ne_k g0 gca (by decide)))
                have m34 : (sI H32 h0 (X.1.2 11 14)).toInt = (sI H31 h0 (X.1.2 11 14)).toInt := congrArg Int32.toInt (up_nI U32 (ne_k g0 gca (by decide)))
                have m35 := congrArg tk m34
                have m36 : (sI H32 h0 (X.1.2 11 16)).toInt = (sI H31 h0 (X.1.2 11 16)).toInt := congrArg Int32.toInt (up_nI U32 (ne_k g0 gca (by decide)))
                have e37 := up_I U32
                have m38 : (sI H32 ca ((a1 + 1)).toNat).toInt = v31.toInt := (congrArg Int32.toInt e37).trans rfl
                have hz8 := tk_nn (sI H32 h0 (X.1.2 11 14)).toInt
                have okp : okP H32 ca a1 (sI H0 ca a1.toNat).toInt (sI H32 h0 (X.1.2 11 12)).toInt := ⟨congrArg Int32.toInt (KB.at kb (by omega) (by omega)), by omega, by omega, by omega, by omega, by omega⟩
                exact ret H32 locs32 _ _ dX12_readRest_196 ⟨hKp32, ⟨by omega, by omega, by omega, kb, okp⟩⟩ hC32 hS32
            · refine lv_aload_n hx hb dX12_readRest_167 rfl (lv_at hl 1 rfl) ?_
              refine lv_iload_n hx hb dX12_readRest_168 rfl (lv_at hl 2 rfl) ?_
              refine q_goV (q_runV (As := [.int p1]) (rest := []) E hC0 hS0 (m_X12_readTest l X Γ H0 hC0 h0 g0 p1 (a1 := a1) e1 ca gca uc (by omega) (by omega)) cw_X12_readTest cl_RX12_280 g0 ⟨rfl, rfl⟩ rfl hl.1 rfl (Nat.zero_le _) (by decide) dX12_readRest_169) hS0 (fun H39 locs39 hr39 hC39 hS39 => ?_)
              obtain ⟨hp39, hr39⟩ := hr39
              have hKp39 := hKp0.tr (hp39.mono rfl)
              obtain ⟨f39_0, f39_1, f39_2, f39_3, f39_4, f39_5⟩ := hr39
              have kb : KB H0 H39 ca (a1 + 1) := KB.tr kb f39_4 (by omega)
              refine lv_goto (tgt := 196) hx hb dX12_readRest_172 rfl ?_
              have hz8 := tk_nn (sI H39 h0 (X.1.2 11 14)).toInt
              have okp : okP H39 ca a1 (sI H0 ca a1.toNat).toInt (sI H39 h0 (X.1.2 11 12)).toInt := ⟨congrArg Int32.toInt (KB.at kb (by omega) (by omega)), by omega, by omega, by omega, by omega, by omega⟩
              exact ret H39 locs39 _ _ dX12_readRest_196 ⟨hKp39, ⟨by omega, by omega, by omega, kb, okp⟩⟩ hC39 hS39
          · refine lv_aload_n hx hb dX12_readRest_153 rfl (lv_at hl 1 rfl) ?_
            refine lv_iload_n hx hb dX12_readRest_154 rfl (lv_at hl 2 rfl) ?_
            refine q_goV (q_runV (As := [.int p1]) (rest := []) E hC0 hS0 (m_X12_readSteal l X Γ H0 hC0 h0 g0 p1 (a1 := a1) e1 ca gca uc (by omega) (by omega)) cw_X12_readSteal cl_RX12_277 g0 ⟨rfl, rfl⟩ rfl hl.1 rfl (Nat.zero_le _) (by decide) dX12_readRest_155) hS0 (fun H40 locs40 hr40 hC40 hS40 => ?_)
            obtain ⟨hp40, hr40⟩ := hr40
            have hKp40 := hKp0.tr (hp40.mono rfl)
            obtain ⟨f40_0, f40_1, f40_2, f40_3, f40_4, f40_5, f40_6, f40_7, f40_8, f40_9⟩ := hr40
            have kb : KB H0 H40 ca (a1 + 1) := KB.tr kb f40_4 (by omega)
            refine lv_goto (tgt := 196) hx hb dX12_readRest_158 rfl ?_
            have hz8 := tk_nn (sI H40 h0 (X.1.2 11 14)).toInt
            have okp : okP H40 ca a1 (sI H0 ca a1.toNat).toInt (sI H40 h0 (X.1.2 11 12)).toInt := ⟨congrArg Int32.toInt (KB.at kb (by omega) (by omega)), by omega, by omega, by omega, by omega, by omega⟩
            exact ret H40 locs40 _ _ dX12_readRest_196 ⟨hKp40, ⟨by omega, by omega, by omega, kb, okp⟩⟩ hC40 hS40
        · refine lv_aload_n hx hb dX12_readRest_132 rfl (lv_at hl 1 rfl) ?_
          refine q_getC E hC0 g0 fa_RX12_35 uc dX12_readRest_133 ?_
          refine lv_iload_n hx hb dX12_readRest_136 rfl (lv_at hl 2 rfl) ?_
          refine lv_iconst (v := 1) hx hb dX12_readRest_137 rfl ?_
          refine lv_iadd hx hb dX12_readRest_138 (lv_topi (fun v41 ev41 => ?_))
          have ev41i : v41.toInt = (a1 + 1) := i_add ev41 e1 (by decide) (by omega) (by omega)
          refine lv_aload_n hx hb dX12_readRest_139 rfl (lv_at hl 1 rfl) ?_
          refine lv_iconst (v := 1) hx hb dX12_readRest_140 rfl ?_
          refine q_goI (q_runV (As := [.int 1]) (rest := [.int v41, .ref ca]) E hC0 hS0 (m_X12_readPlace l X Γ H0 hC0 h0 g0 1 (a1 := 1) (by decide) ca gca uc) cw_X12_readPlace cl_RX12_273 g0 ⟨rfl, rfl⟩ rfl hl.1 rfl (show _ ≤ _ from by simp [Value.category]) (by decide) dX12_readRest_141) hS0 (fun v42 H42 locs42 hr42 hC42 hS42 => ?_)
          obtain ⟨hp42, hr42⟩ := hr42
          have hKp42 := hKp0.tr (hp42.mono rfl)
          replace kb : KB H0 H42 ca (a1 + 1) := KB.kp kb hp42 gca rfl
          obtain ⟨f42_0, f42_1, f42_2, f42_3, f42_4, f42_5⟩ := hr42
          refine q_cast E hC42 hS42 gca (a := (a1 + 1)) ev41i (by omega) (by omega) (cs_n244 (a := (a1 + 1)) (by omega) (by omega)) dX12_readRest_144 (fun H43 locs43 hC43 hS43 U43 => ?_)
          have hKp43 := Kp.upD gca rfl rfl (fun _ => ⟨fun _ => nd4 (by omega) (by omega), fun _ => by unfold dpu; omega, fun _ => by unfold dpn; omega⟩) U43 hKp42
          replace kb : KB H0 H43 ca (a1 + 1) := KB.up kb U43 (by omega)
          have m44 : (sI H43 h0 (X.1.2 11 12)).toInt = (sI H42 h0 (X.1.2 11 12)).toInt := congrArg Int32.toInt (up_nI U43 (ne_k g0 gca (by decide)))
          have m45 : (sI H43 h0 (X.1.2 11 14)).toInt = (sI H42 h0 (X.1.2 11 14)).toInt := congrArg Int32.toInt (up_nI U43 (ne_k g0 gca (by decide)))
          have m46 := congrArg tk m45
          have m47 : (sI H43 h0 (X.1.2 11 16)).toInt = (sI H42 h0 (X.1.2 11 16)).toInt := congrArg Int32.toInt (up_nI U43 (ne_k g0 gca (by decide)))
          have e48 := up_I U43
          refine lv_goto (tgt := 196) hx hb dX12_readRest_145 rfl ?_
          have m49 : (sI H43 ca ((a1 + 1)).toNat).toInt = v42.toInt := (congrArg Int32.toInt e48).trans rfl
          have hz8 := tk_nn (sI H43 h0 (X.1.2 11 14)).toInt
          have okp : okP H43 ca a1 (sI H0 ca a1.toNat).toInt (sI H43 h0 (X.1.2 11 12)).toInt := ⟨congrArg Int32.toInt (KB.at kb (by omega) (by omega)), by omega, by omega, by omega, by omega, by omega⟩
          exact ret H43 locs43 _ _ dX12_readRest_196 ⟨hKp43, ⟨by omega, by omega, by omega, kb, okp⟩⟩ hC43 hS43
      · refine lv_aload_n hx hb dX12_readRest_88 rfl (lv_at hl 1 rfl) ?_
        refine q_getC E hC0 g0 fa_RX12_35 uc dX12_readRest_89 ?_
        refine lv_iload_n hx hb dX12_readRest_92 rfl (lv_at hl 2 rfl) ?_
        refine lv_iconst (v := 1) hx hb dX12_readRest_93 rfl ?_
        refine lv_iadd hx hb dX12_readRest_94 (lv_topi (fun v50 ev50 => ?_))
        have ev50i : v50.toInt = (a1 + 1) := i_add ev50 e1 (by decide) (by omega) (by omega)
        refine lv_aload_n hx hb dX12_readRest_95 rfl (lv_at hl 1 rfl) ?_
        refine lv_iconst (v := 1) hx hb dX12_readRest_96 rfl ?_
        refine q_goI (q_runV (As := [.int 1]) (rest := [.int v50, .ref ca]) E hC0 hS0 (m_X12_readPlace l X Γ H0 hC0 h0 g0 1 (a1 := 1) (by decide) ca gca uc) cw_X12_readPlace cl_RX12_273 g0 ⟨rfl, rfl⟩ rfl hl.1 rfl (show _ ≤ _ from by simp [Value.category]) (by decide) dX12_readRest_97) hS0 (fun v51 H51 locs51 hr51 hC51 hS51 => ?_)
        obtain ⟨hp51, hr51⟩ := hr51
        have hKp51 := hKp0.tr (hp51.mono rfl)
        replace kb : KB H0 H51 ca (a1 + 1) := KB.kp kb hp51 gca rfl
        obtain ⟨f51_0, f51_1, f51_2, f51_3, f51_4, f51_5⟩ := hr51
        refine q_cast E hC51 hS51 gca (a := (a1 + 1)) ev50i (by omega) (by omega) (cs_n244 (a := (a1 + 1)) (by omega) (by omega)) dX12_readRest_100 (fun H52 locs52 hC52 hS52 U52 => ?_)
        have hKp52 := Kp.upD gca rfl rfl (fun _ => ⟨fun _ => nd4 (by omega) (by omega), fun _ => by unfold dpu; omega, fun _ => by unfold dpn; omega⟩) U52 hKp51
        replace kb : KB H0 H52 ca (a1 + 1) := KB.up kb U52 (by omega)
        have m53 : (sI H52 h0 (X.1.2 11 12)).toInt = (sI H51 h0 (X.1.2 11 12)).toInt := congrArg Int32.toInt (up_nI U52 (ne_k g0 gca (by decide)))
        have m54 : (sI H52 h0 (X.1.2 11 14)).toInt = (sI H51 h0 (X.1.2 11 14)).toInt := congrArg Int32.toInt (up_nI U52 (ne_k g0 gca (by decide)))
        have m55 := congrArg tk m54
        have m56 : (sI H52 h0 (X.1.2 11 16)).toInt = (sI H51 h0 (X.1.2 11 16)).toInt := congrArg Int32.toInt (up_nI U52 (ne_k g0 gca (by decide)))
        have e57 := up_I U52
        refine lv_aload_n hx hb dX12_readRest_101 rfl (lv_at hl 1 rfl) ?_
        refine lv_aload_n hx hb dX12_readRest_102 rfl (lv_at hl 1 rfl) ?_
        refine q_goIp (q_runV (As := []) (rest := [.ref h0]) E hC52 hS52 (m_X12_isBy l X Γ H52 hC52 h0 g0 ca gca uc) cw_X12_isBy cl_RX12_190 g0 ⟨rfl, rfl⟩ rfl hl.1 rfl (show _ ≤ _ from by simp [Value.category]) (by decide) dX12_readRest_103) hS52 (fun v58 locs58 hr58 hS58 => ?_)
        have b58 : v58.toInt = 0 ∨ v58.toInt = 1 := hr58.imp (fun h => by rw [h]; decide) (fun h => by rw [h]; decide)
        refine q_goV (q_runV (As := [.int v58]) (rest := []) E hC52 hS58 (m_X12_must l X Γ H52 hC52 h0 g0 v58 (a1 := v58.toInt) rfl ca gca uc (by omega) (by omega)) cw_X12_must cl_RX12_244 g0 ⟨rfl, rfl⟩ rfl hl.1 rfl (Nat.zero_le _) (by decide) dX12_readRest_106) hS58 (fun H59 locs59 hr59 hC59 hS59 => ?_)
        obtain ⟨hp59, hr59⟩ := hr59
        have hKp59 := hKp52.tr (hp59.mono rfl)
        replace kb : KB H0 H59 ca (a1 + 1) := KB.kp kb hp59 gca rfl
        obtain ⟨f59_0, f59_1, f59_2, f59_3, f59_4⟩ := hr59
        refine lv_aload_n hx hb dX12_readRest_109 rfl (lv_at hl 1 rfl) ?_
        refine q_getC E hC59 g0 fa_RX12_35 uc dX12_readRest_110 ?_
        refine lv_iload_n hx hb dX12_readRest_113 rfl (lv_at hl 2 rfl) ?_
        refine lv_iconst (v := 2) hx hb dX12_readRest_114 rfl ?_
        refine lv_iadd hx hb dX12_readRest_115 (lv_topi (fun v60 ev60 => ?_))
        have ev60i : v60.toInt = (a1 + 2) := i_add ev60 e1 (by decide) (by omega) (by omega)
        refine lv_aload_n hx hb dX12_readRest_116 rfl (lv_at hl 1 rfl) ?_
        refine lv_iconst (v := 1) hx hb dX12_readRest_117 rfl ?_
        refine lv_bipush (v := 40) hx hb dX12_readRest_118 rfl ?_
        refine q_goI (q_runV (As := [.int 1, .int 40]) (rest := [.int v60, .ref ca]) E hC59 hS59 (m_X12_count l X Γ H59 hC59 h0 g0 1 (a1 := 1) (by decide) 40 (a2 := 40) (by decide) ca gca uc (by omega) (by omega) (by omega) (by omega)) cw_X12_count cl_RX12_248 g0 ⟨rfl, rfl⟩ rfl hl.1 rfl (show _ ≤ _ from by simp [Value.category]) (by decide) dX12_readRest_120) hS59 (fun v61 H61 locs61 hr61 hC61 hS61 => ?_)
        obtain ⟨hp61, hr61⟩ := hr61
        have hKp61 := hKp59.tr (hp61.mono rfl)
        replace kb : KB H0 H61 ca (a1 + 1) := KB.kp kb hp61 gca rfl
        obtain ⟨f61_0, f61_1, f61_2, f61_3, f61_4, f61_5, f61_6, f61_7⟩ := hr61
        refine q_cast E hC61 hS61 gca (a := (a1 + 2)) ev60i (by omega) (by omega) (cs_n244 (a := (a1 + 2)) (by omega) (by omega)) dX12_readRest_123 (fun H62 locs62 hC62 hS62 U62 => ?_)
        have hKp62 := Kp.upD gca rfl rfl (fun _ => ⟨fun _ => nd4 (by omega) (by omega), fun _ => by unfold dpu; omega, fun _ => by unfold dpn; omega⟩) U62 hKp61
        replace kb : KB H0 H62 ca (a1 + 1) := KB.up kb U62 (by omega)
        have m63 : (sI H62 h0 (X.1.2 11 12)).toInt = (sI H61 h0 (X.1.2 11 12)).toInt := congrArg Int32.toInt (up_nI U62 (ne_k g0 gca (by decide)))
        have m64 : (sI H62 h0 (X.1.2 11 14)).toInt = (sI H61 h0 (X.1.2 11 14)).toInt := congrArg Int32.toInt (up_nI U62 (ne_k g0 gca (by decide)))
        have m65 := congrArg tk m64
        have m66 : (sI H62 h0 (X.1.2 11 16)).toInt = (sI H61 h0 (X.1.2 11 16)).toInt := congrArg Int32.toInt (up_nI U62 (ne_k g0 gca (by decide)))
        have e67 := up_I U62
        refine lv_goto (tgt := 196) hx hb dX12_readRest_124 rfl ?_
        have e68 := (kp_c (j := ((a1 + 1) : Int).toNat) hp59 gca rfl).trans e57
        have e69 := (kp_c (j := ((a1 + 1) : Int).toNat) hp61 gca rfl).trans e68
        have e70 := (up_nI (a' := ca) (j' := ((a1 + 1) : Int).toNat) U62 (fun h => by have h2 := h.2; omega)).trans e69
        have m71 : (sI H62 ca ((a1 + 1)).toNat).toInt = v51.toInt := (congrArg Int32.toInt e70).trans rfl
        have m72 : (sI H62 ca ((a1 + 2)).toNat).toInt = v61.toInt := (congrArg Int32.toInt e67).trans rfl
        have hz8 := tk_nn (sI H62 h0 (X.1.2 11 14)).toInt
        have okp : okP H62 ca a1 (sI H0 ca a1.toNat).toInt (sI H62 h0 (X.1.2 11 12)).toInt := ⟨congrArg Int32.toInt (KB.at kb (by omega) (by omega)), by omega, by omega, by omega, by omega, by omega⟩
        exact ret H62 locs62 _ _ dX12_readRest_196 ⟨hKp62, ⟨by omega, by omega, by omega, kb, okp⟩⟩ hC62 hS62
    · refine lv_aload_n hx hb dX12_readRest_35 rfl (lv_at hl 1 rfl) ?_
      refine q_getC E hC0 g0 fa_RX12_35 uc dX12_readRest_36 ?_
      refine lv_iload_n hx hb dX12_readRest_39 rfl (lv_at hl 2 rfl) ?_
      refine lv_iconst (v := 1) hx hb dX12_readRest_40 rfl ?_
      refine lv_iadd hx hb dX12_readRest_41 (lv_topi (fun v73 ev73 => ?_))
      have ev73i : v73.toInt = (a1 + 1) := i_add ev73 e1 (by decide) (by omega) (by omega)
      refine lv_aload_n hx hb dX12_readRest_42 rfl (lv_at hl 1 rfl) ?_
      refine lv_iconst (v := 0) hx hb dX12_readRest_43 rfl ?_
      refine lv_bipush (v := 40) hx hb dX12_readRest_44 rfl ?_
      refine q_goI (q_runV (As := [.int 0, .int 40]) (rest := [.int v73, .ref ca]) E hC0 hS0 (m_X12_count l X Γ H0 hC0 h0 g0 0 (a1 := 0) (by decide) 40 (a2 := 40) (by decide) ca gca uc (by omega) (by omega) (by omega) (by omega)) cw_X12_count cl_RX12_248 g0 ⟨rfl, rfl⟩ rfl hl.1 rfl (show _ ≤ _ from by simp [Value.category]) (by decide) dX12_readRest_46) hS0 (fun v74 H74 locs74 hr74 hC74 hS74 => ?_)
      obtain ⟨hp74, hr74⟩ := hr74
      have hKp74 := hKp0.tr (hp74.mono rfl)
      replace kb : KB H0 H74 ca (a1 + 1) := KB.kp kb hp74 gca rfl
      obtain ⟨f74_0, f74_1, f74_2, f74_3, f74_4, f74_5, f74_6, f74_7⟩ := hr74
      refine q_cast E hC74 hS74 gca (a := (a1 + 1)) ev73i (by omega) (by omega) (cs_n244 (a := (a1 + 1)) (by omega) (by omega)) dX12_readRest_49 (fun H75 locs75 hC75 hS75 U75 => ?_)
      have hKp75 := Kp.upD gca rfl rfl (fun _ => ⟨fun _ => nd4 (by omega) (by omega), fun _ => by unfold dpu; omega, fun _ => by unfold dpn; omega⟩) U75 hKp74
      replace kb : KB H0 H75 ca (a1 + 1) := KB.up kb U75 (by omega)
      have m76 : (sI H75 h0 (X.1.2 11 12)).toInt = (sI H74 h0 (X.1.2 11 12)).toInt := congrArg Int32.toInt (up_nI U75 (ne_k g0 gca (by decide)))
      have m77 : (sI H75 h0 (X.1.2 11 14)).toInt = (sI H74 h0 (X.1.2 11 14)).toInt := congrArg Int32.toInt (up_nI U75 (ne_k g0 gca (by decide)))
      have m78 := congrArg tk m77
      have m79 : (sI H75 h0 (X.1.2 11 16)).toInt = (sI H74 h0 (X.1.2 11 16)).toInt := congrArg Int32.toInt (up_nI U75 (ne_k g0 gca (by decide)))
      have e80 := up_I U75
      refine lv_aload_n hx hb dX12_readRest_50 rfl (lv_at hl 1 rfl) ?_
      refine lv_aload_n hx hb dX12_readRest_51 rfl (lv_at hl 1 rfl) ?_
      refine q_goIp (q_runV (As := []) (rest := [.ref h0]) E hC75 hS75 (m_X12_isTo l X Γ H75 hC75 h0 g0 ca gca uc) cw_X12_isTo cl_RX12_202 g0 ⟨rfl, rfl⟩ rfl hl.1 rfl (show _ ≤ _ from by simp [Value.category]) (by decide) dX12_readRest_52) hS75 (fun v81 locs81 hr81 hS81 => ?_)
      have b81 : v81.toInt = 0 ∨ v81.toInt = 1 := hr81.imp (fun h => by rw [h]; decide) (fun h => by rw [h]; decide)
      refine q_goV (q_runV (As := [.int v81]) (rest := []) E hC75 hS81 (m_X12_must l X Γ H75 hC75 h0 g0 v81 (a1 := v81.toInt) rfl ca gca uc (by omega) (by omega)) cw_X12_must cl_RX12_244 g0 ⟨rfl, rfl⟩ rfl hl.1 rfl (Nat.zero_le _) (by decide) dX12_readRest_55) hS81 (fun H82 locs82 hr82 hC82 hS82 => ?_)
      obtain ⟨hp82, hr82⟩ := hr82
      have hKp82 := hKp75.tr (hp82.mono rfl)
      replace kb : KB H0 H82 ca (a1 + 1) := KB.kp kb hp82 gca rfl
      obtain ⟨f82_0, f82_1, f82_2, f82_3, f82_4⟩ := hr82
      refine lv_aload_n hx hb dX12_readRest_58 rfl (lv_at hl 1 rfl) ?_
      refine q_getC E hC82 g0 fa_RX12_35 uc dX12_readRest_59 ?_
      refine lv_iload_n hx hb dX12_readRest_62 rfl (lv_at hl 2 rfl) ?_
      refine lv_iconst (v := 2) hx hb dX12_readRest_63 rfl ?_
      refine lv_iadd hx hb dX12_readRest_64 (lv_topi (fun v83 ev83 => ?_))
      have ev83i : v83.toInt = (a1 + 2) := i_add ev83 e1 (by decide) (by omega) (by omega)
      refine lv_aload_n hx hb dX12_readRest_65 rfl (lv_at hl 1 rfl) ?_
      refine lv_aload_n hx hb dX12_readRest_66 rfl (lv_at hl 1 rfl) ?_
      refine q_getC E hC82 g0 fa_RX12_35 uc dX12_readRest_67 ?_
      refine lv_iload_n hx hb dX12_readRest_70 rfl (lv_at hl 2 rfl) ?_
      refine lv_iconst (v := 1) hx hb dX12_readRest_71 rfl ?_
      refine lv_iadd hx hb dX12_readRest_72 (lv_topi (fun v84 ev84 => ?_))
      have ev84i : v84.toInt = (a1 + 1) := i_add ev84 e1 (by decide) (by omega) (by omega)
      have e86 := (kp_c (j := ((a1 + 1) : Int).toNat) hp82 gca rfl).trans e80
      refine q_cald E hC82 (lo := -2147483648) (hi := 2147483647) gca (a := (a1 + 1)) ev84i (by omega) (by omega) (cr_n244 (by omega) (by omega)) dX12_readRest_73 (fun v85 ev85 _ _ => ?_)
      have qv85 := e86.symm.trans ev85; subst qv85
      refine lv_bipush (v := 40) hx hb dX12_readRest_74 rfl ?_
      refine q_goI (q_runV (As := [.int v74, .int 40]) (rest := [.int v83, .ref ca]) E hC82 hS82 (m_X12_count l X Γ H82 hC82 h0 g0 v74 (a1 := v74.toInt) rfl 40 (a2 := 40) (by decide) ca gca uc (by omega) (by omega) (by omega) (by omega)) cw_X12_count cl_RX12_248 g0 ⟨rfl, rfl⟩ rfl hl.1 rfl (show _ ≤ _ from by simp [Value.category]) (by decide) dX12_readRest_76) hS82 (fun v87 H87 locs87 hr87 hC87 hS87 => ?_)
      obtain ⟨hp87, hr87⟩ := hr87
      have hKp87 := hKp82.tr (hp87.mono rfl)
      replace kb : KB H0 H87 ca (a1 + 1) := KB.kp kb hp87 gca rfl
      obtain ⟨f87_0, f87_1, f87_2, f87_3, f87_4, f87_5, f87_6, f87_7⟩ := hr87
      refine q_cast E hC87 hS87 gca (a := (a1 + 2)) ev83i (by omega) (by omega) (cs_n244 (a := (a1 + 2)) (by omega) (by omega)) dX12_readRest_79 (fun H88 locs88 hC88 hS88 U88 => ?_)
      have hKp88 := Kp.upD gca rfl rfl (fun _ => ⟨fun _ => nd4 (by omega) (by omega), fun _ => by unfold dpu; omega, fun _ => by unfold dpn; omega⟩) U88 hKp87
      replace kb : KB H0 H88 ca (a1 + 1) := KB.up kb U88 (by omega)
      have m89 : (sI H88 h0 (X.1.2 11 12)).toInt = (sI H87 h0 (X.1.2 11 12)).toInt := congrArg Int32.toInt (up_nI U88 (ne_k g0 gca (by decide)))
      have m90 : (sI H88 h0 (X.1.2 11 14)).toInt = (sI H87 h0 (X.1.2 11 14)).toInt := congrArg Int32.toInt (up_nI U88 (ne_k g0 gca (by decide)))
      have m91 := congrArg tk m90
      have m92 : (sI H88 h0 (X.1.2 11 16)).toInt = (sI H87 h0 (X.1.2 11 16)).toInt := congrArg Int32.toInt (up_nI U88 (ne_k g0 gca (by decide)))
      have e93 := up_I U88
      refine lv_goto (tgt := 196) hx hb dX12_readRest_80 rfl ?_
      have e94 := (kp_c (j := ((a1 + 1) : Int).toNat) hp87 gca rfl).trans e86
      have e95 := (up_nI (a' := ca) (j' := ((a1 + 1) : Int).toNat) U88 (fun h => by have h2 := h.2; omega)).trans e94
      have m96 : (sI H88 ca ((a1 + 1)).toNat).toInt = v74.toInt := (congrArg Int32.toInt e95).trans rfl
      have m97 : (sI H88 ca ((a1 + 2)).toNat).toInt = v87.toInt := (congrArg Int32.toInt e93).trans rfl
      have hz8 := tk_nn (sI H88 h0 (X.1.2 11 14)).toInt
      have okp : okP H88 ca a1 (sI H0 ca a1.toNat).toInt (sI H88 h0 (X.1.2 11 12)).toInt := ⟨congrArg Int32.toInt (KB.at kb (by omega) (by omega)), by omega, by omega, by omega, by omega, by omega⟩
      exact ret H88 locs88 _ _ dX12_readRest_196 ⟨hKp88, ⟨by omega, by omega, by omega, kb, okp⟩⟩ hC88 hS88
  · refine lv_aload_n hx hb dX12_readRest_12 rfl (lv_at hl 1 rfl) ?_
    refine q_getC E hC0 g0 fa_RX12_35 uc dX12_readRest_13 ?_
    refine lv_iload_n hx hb dX12_readRest_16 rfl (lv_at hl 2 rfl) ?_
    refine lv_iconst (v := 1) hx hb dX12_readRest_17 rfl ?_
    refine lv_iadd hx hb dX12_readRest_18 (lv_topi (fun v98 ev98 => ?_))
    have ev98i : v98.toInt = (a1 + 1) := i_add ev98 e1 (by decide) (by omega) (by omega)
    refine lv_aload_n hx hb dX12_readRest_19 rfl (lv_at hl 1 rfl) ?_
    refine lv_iconst (v := 0) hx hb dX12_readRest_20 rfl ?_
    refine lv_bipush (v := 40) hx hb dX12_readRest_21 rfl ?_
    refine q_goI (q_runV (As := [.int 0, .int 40]) (rest := [.int v98, .ref ca]) E hC0 hS0 (m_X12_count l X Γ H0 hC0 h0 g0 0 (a1 := 0) (by decide) 40 (a2 := 40) (by decide) ca gca uc (by omega) (by omega) (by omega) (by omega)) cw_X12_count cl_RX12_248 g0 ⟨rfl, rfl⟩ rfl hl.1 rfl (show _ ≤ _ from by simp [Value.category]) (by decide) dX12_readRest_23) hS0 (fun v99 H99 locs99 hr99 hC99 hS99 => ?_)
    obtain ⟨hp99, hr99⟩ := hr99
    have hKp99 := hKp0.tr (hp99.mono rfl)
    replace kb : KB H0 H99 ca (a1 + 1) := KB.kp kb hp99 gca rfl
    obtain ⟨f99_0, f99_1, f99_2, f99_3, f99_4, f99_5, f99_6, f99_7⟩ := hr99
    refine q_cast E hC99 hS99 gca (a := (a1 + 1)) ev98i (by omega) (by omega) (cs_n244 (a := (a1 + 1)) (by omega) (by omega)) dX12_readRest_26 (fun H100 locs100 hC100 hS100 U100 => ?_)
    have hKp100 := Kp.upD gca rfl rfl (fun _ => ⟨fun _ => nd4 (by omega) (by omega), fun _ => by unfold dpu; omega, fun _ => by unfold dpn; omega⟩) U100 hKp99
    replace kb : KB H0 H100 ca (a1 + 1) := KB.up kb U100 (by omega)
    have m101 : (sI H100 h0 (X.1.2 11 12)).toInt = (sI H99 h0 (X.1.2 11 12)).toInt := congrArg Int32.toInt (up_nI U100 (ne_k g0 gca (by decide)))
    have m102 : (sI H100 h0 (X.1.2 11 14)).toInt = (sI H99 h0 (X.1.2 11 14)).toInt := congrArg Int32.toInt (up_nI U100 (ne_k g0 gca (by decide)))
    have m103 := congrArg tk m102
    have m104 : (sI H100 h0 (X.1.2 11 16)).toInt = (sI H99 h0 (X.1.2 11 16)).toInt := congrArg Int32.toInt (up_nI U100 (ne_k g0 gca (by decide)))
    have e105 := up_I U100
    refine lv_goto (tgt := 196) hx hb dX12_readRest_27 rfl ?_
    have m106 : (sI H100 ca ((a1 + 1)).toNat).toInt = v99.toInt := (congrArg Int32.toInt e105).trans rfl
    have hz8 := tk_nn (sI H100 h0 (X.1.2 11 14)).toInt
    have okp : okP H100 ca a1 (sI H0 ca a1.toNat).toInt (sI H100 h0 (X.1.2 11 12)).toInt := ⟨congrArg Int32.toInt (KB.at kb (by omega) (by omega)), by omega, by omega, by omega, by omega, by omega⟩
    exact ret H100 locs100 _ _ dX12_readRest_196 ⟨hKp100, ⟨by omega, by omega, by omega, kb, okp⟩⟩ hC100 hS100
set_option maxRecDepth 100000 in
set_option maxHeartbeats 4000000 in
theorem m_X12_readStep (l : Launch) (X : xW) (Γ : Nat → Option Nat) : ∀ (d : Nat) (H0 : Heap) (hC0 : Conf X Γ H0) (h0 : Nat) (g0 : Γ h0 = some 11) (p1 : Int32) {a1 : Int} (e1 : p1.toInt = a1) (ca : Nat) (gca : Γ ca = some 64) (uc : ∀ a, Γ a = some 64 → a = ca) (r0 : a1 = 3 - (d : Int)) (r1 : 0 ≤ a1) (r2 : a1 ≤ 3), Ctr l X Γ yX12_readStep cX12_readStep 5 none (6 + d) [.ref h0, .int p1] H0 (QV X Γ (fun H1 => Kp X Γ [1, 6, 7, 8, 9, 10, 11, 12, 16, 17, 19, 22, 24, 26, 28] H0 H1 ∧ (((sI H0 h0 (X.1.2 11 25)).toInt + 1 ≤ (sI H1 h0 (X.1.2 11 25)).toInt + 100 * (sI H1 h0 (X.1.2 11 12)).toInt) ∧ ((sI H0 h0 (X.1.2 11 25)).toInt ≤ (sI H1 h0 (X.1.2 11 25)).toInt) ∧ ((sI H1 h0 (X.1.2 11 25)).toInt ≤ 30) ∧ ((sI H0 h0 (X.1.2 11 12)).toInt ≤ 7 * (sI H1 h0 (X.1.2 11 12)).toInt) ∧ (0 ≤ (sI H1 h0 (X.1.2 11 12)).toInt) ∧ (KB H0 H1 ca (2324 + 9 * (sI H0 h0 (X.1.2 11 25)).toInt)) ∧ (SWc (sI H1 h0 (X.1.2 11 12)).toInt H1 ca (sI H0 h0 (X.1.2 11 25)).toInt (sI H1 h0 (X.1.2 11 25)).toInt)))) := by
  intro d
  induction d using Nat.strongRecOn with
  | _ d IH =>
    intro H0 hC0 h0 g0 p1 a1 e1 ca gca uc r0 r1 r2
    refine q_enterV (own := "SnowFortsModel") (by decide) rfl (Nat.le_of_ble_eq_true rfl) ?_
    intro p e s m args below meth c ls Qz E hl ret hS0
    have hx := E.1; have hb := E.2.1
    have hKp0 : Kp X Γ [1, 6, 7, 8, 9, 10, 11, 12, 16, 17, 19, 22, 24, 26, 28] H0 H0 := Kp.rf
    have hl : lv_has ls 5 [(0, .ref h0), (1, .int p1)] := hl
    have hz2 := f_bd hC0 g0 (ci := 11) (k := 12) rfl rfl
    have hz3 := f_bd hC0 g0 (ci := 11) (k := 25) rfl rfl
    have kb : KB H0 H0 ca (2324 + 9 * (sI H0 h0 (X.1.2 11 25)).toInt) := KB.rf
    refine lv_aload_n hx hb dX12_readStep_0 rfl (lv_at hl 0 rfl) ?_
    refine q_goIp (q_runV (As := []) (rest := []) E hC0 hS0 (m_X12_stepWord l X Γ H0 hC0 h0 g0 ca gca uc) cw_X12_stepWord cl_RX12_208 g0 ⟨rfl, rfl⟩ rfl hl.1 rfl (Nat.zero_le _) ⟨by omega, by omega⟩ dX12_readStep_1) hS0 (fun v21 locs21 hr21 hS21 => ?_)
    obtain ⟨f21_0, f21_1⟩ := hr21
    refine lv_istore_n hx hb dX12_readStep_4 rfl hl (by decide) rfl (fun ls hl => ?_)
    replace hl : lv_has ls 5 [(2, .int v21), (0, .ref h0), (1, .int p1)] := hl
    refine lv_iload_n hx hb dX12_readStep_5 rfl (lv_at hl 0 rfl) ?_
    refine lv_bipush (v := 7) hx hb dX12_readStep_6 rfl ?_
    refine q_icmp_eq hx hb (a := v21.toInt) (b := 7) rfl (by decide) (tgt := 17) dX12_readStep_8 rfl (fun c22 => ?_) (fun c22 => ?_)
    · refine lv_iconst (v := 1) hx hb dX12_readStep_17 rfl ?_
      refine lv_goto (tgt := 22) hx hb dX12_readStep_18 rfl ?_
      refine lv_istore_n hx hb dX12_readStep_22 rfl hl (by decide) rfl (fun ls hl => ?_)
      replace hl : lv_has ls 5 [(3, .int 1), (2, .int v21), (0, .ref h0), (1, .int p1)] := hl
      refine lv_iload_n hx hb dX12_readStep_23 rfl (lv_at hl 1 rfl) ?_
      refine q_if_ge hx hb (a := v21.toInt) rfl (tgt := 31) dX12_readStep_24 rfl (fun c23 => ?_) (fun c23 => absurd c23 (by omega))
      refine lv_aload_n hx hb dX12_readStep_31 rfl (lv_at hl 2 rfl) ?_
      refine q_getI E hC0 g0 fa_RX12_218 dX12_readStep_32 (fun v24 ev24 lv24 uv24 => ?_)
      have m25 : (sI H0 h0 (X.1.2 11 12)).toInt = v24.toInt := (congrArg Int32.toInt ev24).trans rfl
      refine q_if_ne hx hb (a := v24.toInt) rfl (tgt := 57) dX12_readStep_35 rfl (fun c26 => ?_) (fun c26 => ?_)
      · refine lv_aload_n hx hb dX12_readStep_57 rfl (lv_at hl 2 rfl) ?_
        refine q_getI E hC0 g0 fa_RX12_218 dX12_readStep_58 (fun v27 ev27 lv27 uv27 => ?_)
        have qv27 := ev24.symm.trans ev27; subst qv27
        refine q_if_ne hx hb (a := v24.toInt) rfl (tgt := 83) dX12_readStep_61 rfl (fun c28 => ?_) (fun c28 => absurd c28 (by omega))
        refine lv_aload_n hx hb dX12_readStep_83 rfl (lv_at hl 2 rfl) ?_
        refine q_getI E hC0 g0 fa_RX12_218 dX12_readStep_84 (fun v29 ev29 lv29 uv29 => ?_)
        have qv29 := ev24.symm.trans ev29; subst qv29
        refine q_if_le hx hb (a := v24.toInt) rfl (tgt := 91) dX12_readStep_87 rfl (fun c30 => absurd c30 (by omega)) (fun c30 => ?_)
        have swf : SWc (sI H0 h0 (X.1.2 11 12)).toInt H0 ca (sI H0 h0 (X.1.2 11 25)).toInt (sI H0 h0 (X.1.2 11 25)).toInt := fun h => absurd h (by omega)
        exact ret H0 locs21 _ _ dX12_readStep_90 ⟨hKp0, ⟨by omega, by omega, by omega, by omega, by omega, kb, swf⟩⟩ hC0 hS21
      · refine lv_aload_n hx hb dX12_readStep_38 rfl (lv_at hl 2 rfl) ?_
        refine q_getI E hC0 g0 fa_RX12_283 dX12_readStep_39 (fun v31 ev31 lv31 uv31 => ?_)
        have m32 : (sI H0 h0 (X.1.2 11 25)).toInt = v31.toInt := (congrArg Int32.toInt ev31).trans rfl
        refine lv_bipush (v := 30) hx hb dX12_readStep_42 rfl ?_
        refine q_icmp_ne hx hb (a := v31.toInt) (b := 30) rfl (by decide) (tgt := 57) dX12_readStep_44 rfl (fun c33 => ?_) (fun c33 => ?_)
        · refine lv_aload_n hx hb dX12_readStep_57 rfl (lv_at hl 2 rfl) ?_
          refine q_getI E hC0 g0 fa_RX12_218 dX12_readStep_58 (fun v34 ev34 lv34 uv34 => ?_)
          have qv34 := ev24.symm.trans ev34; subst qv34
          refine q_if_ne hx hb (a := v24.toInt) rfl (tgt := 83) dX12_readStep_61 rfl (fun c35 => absurd c35 (by omega)) (fun c35 => ?_)
          refine lv_iload_n hx hb dX12_readStep_64 rfl (lv_at hl 0 rfl) ?_
          refine q_if_eq hx hb (a := 1) (by decide) (tgt := 83) dX12_readStep_65 rfl (fun c36 => absurd c36 (by omega)) (fun c36 => ?_)
          refine lv_iload_n hx hb dX12_readStep_68 rfl (lv_at hl 3 rfl) ?_
          refine lv_iconst (v := 3) hx hb dX12_readStep_69 rfl ?_
          refine q_icmp_ne hx hb (a := a1) (b := 3) e1 (by decide) (tgt := 83) dX12_readStep_70 rfl (fun c37 => ?_) (fun c37 => ?_)
          · refine lv_aload_n hx hb dX12_readStep_83 rfl (lv_at hl 2 rfl) ?_
            refine q_getI E hC0 g0 fa_RX12_218 dX12_readStep_84 (fun v38 ev38 lv38 uv38 => ?_)
            have qv38 := ev24.symm.trans ev38; subst qv38
            refine q_if_le hx hb (a := v24.toInt) rfl (tgt := 91) dX12_readStep_87 rfl (fun c39 => ?_) (fun c39 => absurd c39 (by omega))
            refine lv_sipush (v := 2324) hx hb dX12_readStep_91 rfl ?_
            refine lv_bipush (v := 9) hx hb dX12_readStep_94 rfl ?_
            refine lv_aload_n hx hb dX12_readStep_96 rfl (lv_at hl 2 rfl) ?_
            refine q_getI E hC0 g0 fa_RX12_283 dX12_readStep_97 (fun v40 ev40 lv40 uv40 => ?_)
            have qv40 := ev31.symm.trans ev40; subst qv40
            refine lv_imul hx hb dX12_readStep_100 (lv_topi (fun v41 ev41 => ?_))
            have ev41i : v41.toInt = (9 * v31.toInt) := i_mul ev41 (by decide) rfl (by omega) (by omega)
            refine lv_iadd hx hb dX12_readStep_101 (lv_topi (fun v42 ev42 => ?_))
            have ev42i : v42.toInt = (2324 + (9 * v31.toInt)) := i_add ev42 (by decide) ev41i (by omega) (by omega)
            refine lv_istore hx hb dX12_readStep_102 hl (by decide) rfl (fun ls hl => ?_)
            replace hl : lv_has ls 5 [(4, .int v42), (3, .int 1), (2, .int v21), (0, .ref h0), (1, .int p1)] := hl
            refine lv_aload_n hx hb dX12_readStep_104 rfl (lv_at hl 3 rfl) ?_
            refine lv_dup hx hb dX12_readStep_105 rfl ?_
            refine q_getI E hC0 g0 fa_RX12_283 dX12_readStep_106 (fun v43 ev43 lv43 uv43 => ?_)
            have qv43 := ev31.symm.trans ev43; subst qv43
            refine lv_iconst (v := 1) hx hb dX12_readStep_109 rfl ?_
            refine lv_iadd hx hb dX12_readStep_110 (lv_topi (fun v44 ev44 => ?_))
            have ev44i : v44.toInt = (v31.toInt + 1) := i_add ev44 rfl (by decide) (by omega) (by omega)
            refine q_put E hC0 hS21 g0 fp_RX12_283 (tv_I ev44i (by omega) (by omega)) rfl rfl dX12_readStep_111 (fun H45 locs45 hC45 hS45 U45 => ?_)
            have hKp45 := Kp.upO E g0 fp_RX12_283 rfl U45 hKp0
            have e46 := up_I U45
            have m47 : (sI H45 h0 (X.1.2 11 25)).toInt = (v31.toInt + 1) := (congrArg Int32.toInt e46).trans ev44i
            replace kb : KB H0 H45 ca (2324 + 9 * (sI H0 h0 (X.1.2 11 25)).toInt) := KB.ne kb U45 (nek g0 gca (by decide))
            have m48 : (sI H45 h0 (X.1.2 11 12)).toInt = (sI H0 h0 (X.1.2 11 12)).toInt := congrArg Int32.toInt (up_nI U45 (ne_f E 11 12 25 rfl (by decide) (by decide) (by decide)))
            refine lv_aload_n hx hb dX12_readStep_114 rfl (lv_at hl 3 rfl) ?_
            refine q_goV (q_runV (As := []) (rest := []) E hC45 hS45 (m_X12_next l X Γ H45 hC45 h0 g0 ca gca uc) cw_X12_next cl_RX12_228 g0 ⟨rfl, rfl⟩ rfl hl.1 rfl (Nat.zero_le _) ⟨by omega, by omega⟩ dX12_readStep_115) hS45 (fun H49 locs49 hr49 hC49 hS49 => ?_)
            obtain ⟨hp49, hr49⟩ := hr49
            have hKp49 := hKp45.tr (hp49.mono rfl)
            replace kb : KB H0 H49 ca (2324 + 9 * (sI H0 h0 (X.1.2 11 25)).toInt) := KB.kp kb hp49 gca rfl
            have m50 : (sI H49 h0 (X.1.2 11 25)).toInt = (sI H45 h0 (X.1.2 11 25)).toInt := congrArg Int32.toInt (kp_I hp49 g0 (k := 25) rfl (by decide) rfl)
            obtain ⟨f49_0, f49_1, f49_2⟩ := hr49
            refine lv_aload_n hx hb dX12_readStep_118 rfl (lv_at hl 3 rfl) ?_
            refine q_getC E hC49 g0 fa_RX12_35 uc dX12_readStep_119 ?_
            refine lv_iload hx hb dX12_readStep_122 (lv_at hl 0 rfl) ?_
            refine lv_iload_n hx hb dX12_readStep_124 rfl (lv_at hl 2 rfl) ?_
            refine q_cast E hC49 hS49 gca (a := (2324 + (9 * v31.toInt))) ev42i (by omega) (by omega) (cs_n244 (a := (2324 + (9 * v31.toInt))) (by omega) (by omega)) dX12_readStep_125 (fun H51 locs51 hC51 hS51 U51 => ?_)
            have hKp51 := Kp.upD gca rfl rfl (fun _ => ⟨fun _ => nd4 (by omega) (by omega), fun _ => by unfold dpu; omega, fun _ => by unfold dpn; omega⟩) U51 hKp49
            replace kb : KB H0 H51 ca (2324 + 9 * (sI H0 h0 (X.1.2 11 25)).toInt) := KB.up kb U51 (by omega)
            have m52 : (sI H51 h0 (X.1.2 11 12)).toInt = (sI H49 h0 (X.1.2 11 12)).toInt := congrArg Int32.toInt (up_nI U51 (ne_k g0 gca (by decide)))
            have m53 : (sI H51 h0 (X.1.2 11 25)).toInt = (sI H49 h0 (X.1.2 11 25)).toInt := congrArg Int32.toInt (up_nI U51 (ne_k g0 gca (by decide)))
            have hck : (sI H51 ca ((2324 + (9 * v31.toInt))).toNat).toInt = v21.toInt := (congrArg Int32.toInt (up_I U51)).trans rfl
            have e54 := up_I U51
            refine lv_aload_n hx hb dX12_readStep_126 rfl (lv_at hl 3 rfl) ?_
            refine lv_iload hx hb dX12_readStep_127 (lv_at hl 0 rfl) ?_
            refine q_goV (q_runV (As := [.int v42]) (rest := []) E hC51 hS51 (m_X12_readRest l X Γ H51 hC51 h0 g0 v42 (a1 := (2324 + (9 * v31.toInt))) ev42i ca gca uc (by omega) (by omega)) cw_X12_readRest cl_RX12_286 g0 ⟨rfl, rfl⟩ rfl hl.1 rfl (Nat.zero_le _) ⟨by omega, by omega⟩ dX12_readStep_129) hS51 (fun H55 locs55 hr55 hC55 hS55 => ?_)
            obtain ⟨hp55, hr55⟩ := hr55
            have hKp55 := hKp51.tr (hp55.mono rfl)
            have m56 : (sI H55 h0 (X.1.2 11 25)).toInt = (sI H51 h0 (X.1.2 11 25)).toInt := congrArg Int32.toInt (kp_I hp55 g0 (k := 25) rfl (by decide) rfl)
            obtain ⟨f55_0, f55_1, f55_2, f55_3, f55_4⟩ := hr55
            have kb : KB H0 H55 ca (2324 + 9 * (sI H0 h0 (X.1.2 11 25)).toInt) := KB.tr kb f55_3 (by omega)
            obtain ⟨zz, hzz⟩ : ∃ z, (sI H55 h0 (X.1.2 11 12)).toInt = z := ⟨_, rfl⟩
            have okp : okP H55 ca (2324 + (9 * v31.toInt)) v21.toInt zz := by have h := f55_4; rw [hck, hzz] at h; exact h
            refine lv_aload_n hx hb dX12_readStep_132 rfl (lv_at hl 3 rfl) ?_
            refine lv_aload_n hx hb dX12_readStep_133 rfl (lv_at hl 3 rfl) ?_
            refine lv_bipush (v := 59) hx hb dX12_readStep_134 rfl ?_
            refine q_goIp (q_runV (As := [.int 59]) (rest := [.ref h0]) E hC55 hS55 (m_X12_isSign l X Γ H55 hC55 h0 g0 59 (a1 := 59) (by decide) ca gca uc) cw_X12_isSign cl_RX12_255 g0 ⟨rfl, rfl⟩ rfl hl.1 rfl (show _ ≤ _ from by simp [Value.category]) ⟨by omega, by omega⟩ dX12_readStep_136) hS55 (fun v57 locs57 hr57 hS57 => ?_)
            have b57 : (v57.toInt = 1 ∧ _) ∨ (v57.toInt = 0 ∧ _) := hr57.imp (fun h => ⟨by rw [h.1]; decide, h.2⟩) (fun h => ⟨by rw [h.1]; decide, h.2⟩)
            refine q_goV (q_runV (As := [.int v57]) (rest := []) E hC55 hS57 (m_X12_must l X Γ H55 hC55 h0 g0 v57 (a1 := v57.toInt) rfl ca gca uc (by omega) (by omega)) cw_X12_must cl_RX12_244 g0 ⟨rfl, rfl⟩ rfl hl.1 rfl (Nat.zero_le _) ⟨by omega, by omega⟩ dX12_readStep_139) hS57 (fun H58 locs58 hr58 hC58 hS58 => ?_)
            obtain ⟨hp58, hr58⟩ := hr58
            have hKp58 := hKp55.tr (hp58.mono rfl)
            replace kb : KB H0 H58 ca (2324 + 9 * (sI H0 h0 (X.1.2 11 25)).toInt) := KB.kp kb hp58 gca rfl
            replace okp : okP H58 ca (2324 + (9 * v31.toInt)) v21.toInt zz := okP.kp okp hp58 gca rfl
            have m59 : (sI H58 h0 (X.1.2 11 25)).toInt = (sI H55 h0 (X.1.2 11 25)).toInt := congrArg Int32.toInt (kp_I hp58 g0 (k := 25) rfl (by decide) rfl)
            obtain ⟨f58_0, f58_1, f58_2, f58_3, f58_4⟩ := hr58
            have L142 : ∀ (n60 : Nat) (H60 : Heap) (locs60 : List Loc) (ls : Array Slot), 0 < n60 ∧ ((sI H60 h0 (X.1.2 11 12)).toInt ≠ 0 ∨ 32 - (sI H60 h0 (X.1.2 11 25)).toInt < n60) → (sI H0 h0 (X.1.2 11 25)).toInt + 1 ≤ (sI H60 h0 (X.1.2 11 25)).toInt → (sI H0 h0 (X.1.2 11 12)).toInt ≤ 7 * (sI H60 h0 (X.1.2 11 12)).toInt → (1 = 1 → (sI H60 h0 (X.1.2 11 12)).toInt = 0 → a1 ≤ 2) → zz ≤ 7 * (sI H60 h0 (X.1.2 11 12)).toInt → SWc (sI H60 h0 (X.1.2 11 12)).toInt H60 ca ((sI H0 h0 (X.1.2 11 25)).toInt + 1) (sI H60 h0 (X.1.2 11 25)).toInt → Conf X Γ H60 → va_S (AΓ Γ) H0 H60 locs60 → Kp X Γ [1, 6, 7, 8, 9, 10, 11, 12, 16, 17, 19, 22, 24, 26, 28] H0 H60 → (KB H0 H60 ca (2324 + 9 * (sI H0 h0 (X.1.2 11 25)).toInt)) → (okP H60 ca (2324 + (9 * v31.toInt)) v21.toInt zz) → lv_has ls 5 [(4, .int v42), (3, .int 1), (2, .int v21), (0, .ref h0), (1, .int p1)] → W p l e (rmL (6 + d)) s m args below meth c H60 locs60 0 0 Qz (F0 m 142 ls []) := by
              intro n60
              induction n60 with
              | zero => intro H60 locs60 ls hm60 iv60_0 iv60_1 iv60_2 iv60_3 iv60_4 hC60 hS60 hKp60 kb okp hl; exact absurd hm60 (by omega)
              | succ n60 ih60 =>
                intro H60 locs60 ls hm60 iv60_0 iv60_1 iv60_2 iv60_3 iv60_4 hC60 hS60 hKp60 kb okp hl
                have hb1 := f_bd hC60 g0 (ci := 11) (k := 25) rfl rfl
                have hb2 := f_bd hC60 g0 (ci := 11) (k := 12) rfl rfl
                have swi := iv60_4
                obtain ⟨nL, hnL⟩ : ∃ z, (sI H60 h0 (X.1.2 11 25)).toInt = z := ⟨_, rfl⟩
                obtain ⟨bL, hbL⟩ : ∃ z, (sI H60 h0 (X.1.2 11 12)).toInt = z := ⟨_, rfl⟩
                have sw : SWc bL H60 ca ((sI H0 h0 (X.1.2 11 25)).toInt + 1) nL := by have h := iv60_4; rw [hnL, hbL] at h; exact h
                refine lv_iload_n hx hb dX12_readStep_142 rfl (lv_at hl 1 rfl) ?_
                refine q_if_eq hx hb (a := 1) (by decide) (tgt := 170) dX12_readStep_143 rfl (fun c61 => absurd c61 (by omega)) (fun c61 => ?_)
                refine lv_aload_n hx hb dX12_readStep_146 rfl (lv_at hl 3 rfl) ?_
                refine q_getI E hC60 g0 fa_RX12_218 dX12_readStep_147 (fun v62 ev62 lv62 uv62 => ?_)
                have m63 : (sI H60 h0 (X.1.2 11 12)).toInt = v62.toInt := (congrArg Int32.toInt ev62).trans rfl
                refine q_if_ne hx hb (a := v62.toInt) rfl (tgt := 170) dX12_readStep_150 rfl (fun c64 => ?_) (fun c64 => ?_)
                · refine lv_iload_n hx hb dX12_readStep_170 rfl (lv_at hl 1 rfl) ?_
                  refine q_if_eq hx hb (a := 1) (by decide) (tgt := 192) dX12_readStep_171 rfl (fun c65 => absurd c65 (by omega)) (fun c65 => ?_)
                  refine lv_aload_n hx hb dX12_readStep_174 rfl (lv_at hl 3 rfl) ?_
                  refine lv_aload_n hx hb dX12_readStep_175 rfl (lv_at hl 3 rfl) ?_
                  refine q_goIp (q_runV (As := []) (rest := [.ref h0]) E hC60 hS60 (m_X12_isEnd l X Γ H60 hC60 h0 g0 ca gca uc) cw_X12_isEnd cl_RX12_215 g0 ⟨rfl, rfl⟩ rfl hl.1 rfl (show _ ≤ _ from by simp [Value.category]) ⟨by omega, by omega⟩ dX12_readStep_176) hS60 (fun v66 locs66 hr66 hS66 => ?_)
                  have b66 : v66.toInt = 0 ∨ v66.toInt = 1 := hr66.imp (fun h => by rw [h]; decide) (fun h => by rw [h]; decide)
                  refine q_goV (q_runV (As := [.int v66]) (rest := []) E hC60 hS66 (m_X12_must l X Γ H60 hC60 h0 g0 v66 (a1 := v66.toInt) rfl ca gca uc (by omega) (by omega)) cw_X12_must cl_RX12_244 g0 ⟨rfl, rfl⟩ rfl hl.1 rfl (Nat.zero_le _) ⟨by omega, by omega⟩ dX12_readStep_179) hS66 (fun H67 locs67 hr67 hC67 hS67 => ?_)
                  obtain ⟨hp67, hr67⟩ := hr67
                  have hKp67 := hKp60.tr (hp67.mono rfl)
                  replace kb : KB H0 H67 ca (2324 + 9 * (sI H0 h0 (X.1.2 11 25)).toInt) := KB.kp kb hp67 gca rfl
                  replace okp : okP H67 ca (2324 + (9 * v31.toInt)) v21.toInt zz := okP.kp okp hp67 gca rfl
                  replace sw : SWc bL H67 ca ((sI H0 h0 (X.1.2 11 25)).toInt + 1) nL := SWc.kp sw hp67 gca rfl (by omega)
                  have m68 : (sI H67 h0 (X.1.2 11 25)).toInt = (sI H60 h0 (X.1.2 11 25)).toInt := congrArg Int32.toInt (kp_I hp67 g0 (k := 25) rfl (by decide) rfl)
                  obtain ⟨f67_0, f67_1, f67_2, f67_3, f67_4⟩ := hr67
                  refine lv_aload_n hx hb dX12_readStep_182 rfl (lv_at hl 3 rfl) ?_
                  refine lv_aload_n hx hb dX12_readStep_183 rfl (lv_at hl 3 rfl) ?_
                  refine lv_bipush (v := 59) hx hb dX12_readStep_184 rfl ?_
                  refine q_goIp (q_runV (As := [.int 59]) (rest := [.ref h0]) E hC67 hS67 (m_X12_isSign l X Γ H67 hC67 h0 g0 59 (a1 := 59) (by decide) ca gca uc) cw_X12_isSign cl_RX12_255 g0 ⟨rfl, rfl⟩ rfl hl.1 rfl (show _ ≤ _ from by simp [Value.category]) ⟨by omega, by omega⟩ dX12_readStep_186) hS67 (fun v69 locs69 hr69 hS69 => ?_)
                  have b69 : (v69.toInt = 1 ∧ _) ∨ (v69.toInt = 0 ∧ _) := hr69.imp (fun h => ⟨by rw [h.1]; decide, h.2⟩) (fun h => ⟨by rw [h.1]; decide, h.2⟩)
                  refine q_goV (q_runV (As := [.int v69]) (rest := []) E hC67 hS69 (m_X12_must l X Γ H67 hC67 h0 g0 v69 (a1 := v69.toInt) rfl ca gca uc (by omega) (by omega)) cw_X12_must cl_RX12_244 g0 ⟨rfl, rfl⟩ rfl hl.1 rfl (Nat.zero_le _) ⟨by omega, by omega⟩ dX12_readStep_189) hS69 (fun H70 locs70 hr70 hC70 hS70 => ?_)
                  obtain ⟨hp70, hr70⟩ := hr70
                  have hKp70 := hKp67.tr (hp70.mono rfl)
                  replace kb : KB H0 H70 ca (2324 + 9 * (sI H0 h0 (X.1.2 11 25)).toInt) := KB.kp kb hp70 gca rfl
                  replace okp : okP H70 ca (2324 + (9 * v31.toInt)) v21.toInt zz := okP.kp okp hp70 gca rfl
                  replace sw : SWc bL H70 ca ((sI H0 h0 (X.1.2 11 25)).toInt + 1) nL := SWc.kp sw hp70 gca rfl (by omega)
                  have m71 : (sI H70 h0 (X.1.2 11 25)).toInt = (sI H67 h0 (X.1.2 11 25)).toInt := congrArg Int32.toInt (kp_I hp70 g0 (k := 25) rfl (by decide) rfl)
                  obtain ⟨f70_0, f70_1, f70_2, f70_3, f70_4⟩ := hr70
                  refine lv_aload_n hx hb dX12_readStep_192 rfl (lv_at hl 3 rfl) ?_
                  refine q_getC E hC70 g0 fa_RX12_35 uc dX12_readStep_193 ?_
                  refine lv_iload hx hb dX12_readStep_196 (lv_at hl 0 rfl) ?_
                  refine lv_bipush (v := 8) hx hb dX12_readStep_198 rfl ?_
                  refine lv_iadd hx hb dX12_readStep_200 (lv_topi (fun v72 ev72 => ?_))
                  have ev72i : v72.toInt = ((2324 + (9 * v31.toInt)) + 8) := i_add ev72 ev42i (by decide) (by omega) (by omega)
                  refine lv_aload_n hx hb dX12_readStep_201 rfl (lv_at hl 3 rfl) ?_
                  refine q_getI E hC70 g0 fa_RX12_283 dX12_readStep_202 (fun v73 ev73 lv73 uv73 => ?_)
                  have m74 : (sI H70 h0 (X.1.2 11 25)).toInt = v73.toInt := (congrArg Int32.toInt ev73).trans rfl
                  refine q_cast E hC70 hS70 gca (a := ((2324 + (9 * v31.toInt)) + 8)) ev72i (by omega) (by omega) (cs_n244 (a := ((2324 + (9 * v31.toInt)) + 8)) (by omega) (by omega)) dX12_readStep_205 (fun H75 locs75 hC75 hS75 U75 => ?_)
                  have hKp75 := Kp.upD gca rfl rfl (fun _ => ⟨fun _ => nd4 (by omega) (by omega), fun _ => by unfold dpu; omega, fun _ => by unfold dpn; omega⟩) U75 hKp70
                  replace kb : KB H0 H75 ca (2324 + 9 * (sI H0 h0 (X.1.2 11 25)).toInt) := KB.up kb U75 (by omega)
                  replace okp : okP H75 ca (2324 + (9 * v31.toInt)) v21.toInt zz := okP.up okp U75 (by omega) (by omega)
                  replace sw : SWc bL H75 ca ((sI H0 h0 (X.1.2 11 25)).toInt + 1) nL := SWc.up sw U75 (by omega) (by omega)
                  have m76 : (sI H75 h0 (X.1.2 11 12)).toInt = (sI H70 h0 (X.1.2 11 12)).toInt := congrArg Int32.toInt (up_nI U75 (ne_k g0 gca (by decide)))
                  have m77 : (sI H75 h0 (X.1.2 11 25)).toInt = (sI H70 h0 (X.1.2 11 25)).toInt := congrArg Int32.toInt (up_nI U75 (ne_k g0 gca (by decide)))
                  have hce : (sI H75 ca ((2324 + (9 * v31.toInt)) + 8).toNat).toInt = v73.toInt := (congrArg Int32.toInt (up_I U75)).trans rfl
                  have e78 := up_I U75
                  have swf : SWc (sI H75 h0 (X.1.2 11 12)).toInt H75 ca (sI H0 h0 (X.1.2 11 25)).toInt (sI H75 h0 (X.1.2 11 25)).toInt := fun hz => SWn.one (k := v21.toInt) (w := (2324 + (9 * v31.toInt))) (by have h0 : zz = 0 := (by omega); rw [h0] at okp; exact okp) (by omega) ⟨by omega, by omega⟩ hce (by omega) (by omega) (by have h := sw (by omega); rw [show nL = (sI H75 h0 (X.1.2 11 25)).toInt from (by omega)] at h; exact h)
                  exact ret H75 locs75 _ _ dX12_readStep_206 ⟨hKp75, ⟨by omega, by omega, by omega, by omega, by omega, kb, swf⟩⟩ hC75 hS75
                · refine lv_aload_n hx hb dX12_readStep_153 rfl (lv_at hl 3 rfl) ?_
                  refine q_goIp (q_runV (As := []) (rest := []) E hC60 hS60 (m_X12_isEnd l X Γ H60 hC60 h0 g0 ca gca uc) cw_X12_isEnd cl_RX12_215 g0 ⟨rfl, rfl⟩ rfl hl.1 rfl (Nat.zero_le _) ⟨by omega, by omega⟩ dX12_readStep_154) hS60 (fun v79 locs79 hr79 hS79 => ?_)
                  rcases hr79 with rfl | rfl
                  · refine q_if_ne hx hb (a := 0) (by decide) (tgt := 170) dX12_readStep_157 rfl (fun c80 => absurd c80 (by omega)) (fun c80 => ?_)
                    refine lv_aload_n hx hb dX12_readStep_160 rfl (lv_at hl 3 rfl) ?_
                    refine lv_iload_n hx hb dX12_readStep_161 rfl (lv_at hl 4 rfl) ?_
                    refine lv_iconst (v := 1) hx hb dX12_readStep_162 rfl ?_
                    refine lv_iadd hx hb dX12_readStep_163 (lv_topi (fun v81 ev81 => ?_))
                    have ev81i : v81.toInt = (a1 + 1) := i_add ev81 e1 (by decide) (by omega) (by omega)
                    refine q_goV (q_runV (As := [.int v81]) (rest := []) E hC60 hS79 (IH (d - 1) (by omega) H60 hC60 h0 g0 v81 (a1 := (a1 + 1)) ev81i ca gca uc (by omega) (by omega) (by omega)) cw_X12_readStep cl_RX12_289 g0 ⟨rfl, rfl⟩ rfl hl.1 rfl (Nat.zero_le _) ⟨by omega, by omega⟩ dX12_readStep_164) hS79 (fun H82 locs82 hr82 hC82 hS82 => ?_)
                    obtain ⟨hp82, hr82⟩ := hr82
                    have hKp82 := hKp60.tr (hp82.mono rfl)
                    obtain ⟨f82_0, f82_1, f82_2, f82_3, f82_4, f82_5, f82_6⟩ := hr82
                    have kb : KB H0 H82 ca (2324 + 9 * (sI H0 h0 (X.1.2 11 25)).toInt) := KB.tr kb f82_5 (by omega)
                    have okp : okP H82 ca (2324 + (9 * v31.toInt)) v21.toInt zz := okP.kb okp f82_5 (by omega) (by omega)
                    have swi : SWc (sI H82 h0 (X.1.2 11 12)).toInt H82 ca ((sI H0 h0 (X.1.2 11 25)).toInt + 1) (sI H82 h0 (X.1.2 11 25)).toInt := SWc.step swi f82_5 f82_6 (by omega) (by omega) (by omega) (by omega)
                    refine lv_goto (tgt := 142) hx hb dX12_readStep_167 rfl ?_
                    exact ih60 H82 locs82 ls (by omega) (by omega) (by omega) (by omega) (by omega) (swi) hC82 hS82 hKp82 kb okp hl
                  · refine q_if_ne hx hb (a := 1) (by decide) (tgt := 170) dX12_readStep_157 rfl (fun c83 => ?_) (fun c83 => absurd c83 (by omega))
                    refine lv_iload_n hx hb dX12_readStep_170 rfl (lv_at hl 1 rfl) ?_
                    refine q_if_eq hx hb (a := 1) (by decide) (tgt := 192) dX12_readStep_171 rfl (fun c84 => absurd c84 (by omega)) (fun c84 => ?_)
                    refine lv_aload_n hx hb dX12_readStep_174 rfl (lv_at hl 3 rfl) ?_
                    refine lv_aload_n hx hb dX12_readStep_175 rfl (lv_at hl 3 rfl) ?_
                    refine q_goIp (q_runV (As := []) (rest := [.ref h0]) E hC60 hS79 (m_X12_isEnd l X Γ H60 hC60 h0 g0 ca gca uc) cw_X12_isEnd cl_RX12_215 g0 ⟨rfl, rfl⟩ rfl hl.1 rfl (show _ ≤ _ from by simp [Value.category]) ⟨by omega, by omega⟩ dX12_readStep_176) hS79 (fun v85 locs85 hr85 hS85 => ?_)
                    have b85 : v85.toInt = 0 ∨ v85.toInt = 1 := hr85.imp (fun h => by rw [h]; decide) (fun h => by rw [h]; decide)
                    refine q_goV (q_runV (As := [.int v85]) (rest := []) E hC60 hS85 (m_X12_must l X Γ H60 hC60 h0 g0 v85 (a1 := v85.toInt) rfl ca gca uc (by omega) (by omega)) cw_X12_must cl_RX12_244 g0 ⟨rfl, rfl⟩ rfl hl.1 rfl (Nat.zero_le _) ⟨by omega, by omega⟩ dX12_readStep_179) hS85 (fun H86 locs86 hr86 hC86 hS86 => ?_)
                    obtain ⟨hp86, hr86⟩ := hr86
                    have hKp86 := hKp60.tr (hp86.mono rfl)
                    replace kb : KB H0 H86 ca (2324 + 9 * (sI H0 h0 (X.1.2 11 25)).toInt) := KB.kp kb hp86 gca rfl
                    replace okp : okP H86 ca (2324 + (9 * v31.toInt)) v21.toInt zz := okP.kp okp hp86 gca rfl
                    replace sw : SWc bL H86 ca ((sI H0 h0 (X.1.2 11 25)).toInt + 1) nL := SWc.kp sw hp86 gca rfl (by omega)
                    have m87 : (sI H86 h0 (X.1.2 11 25)).toInt = (sI H60 h0 (X.1.2 11 25)).toInt := congrArg Int32.toInt (kp_I hp86 g0 (k := 25) rfl (by decide) rfl)
                    obtain ⟨f86_0, f86_1, f86_2, f86_3, f86_4⟩ := hr86
                    refine lv_aload_n hx hb dX12_readStep_182 rfl (lv_at hl 3 rfl) ?_
                    refine lv_aload_n hx hb dX12_readStep_183 rfl (lv_at hl 3 rfl) ?_
                    refine lv_bipush (v := 59) hx hb dX12_readStep_184 rfl ?_
                    refine q_goIp (q_runV (As := [.int 59]) (rest := [.ref h0]) E hC86 hS86 (m_X12_isSign l X Γ H86 hC86 h0 g0 59 (a1 := 59) (by decide) ca gca uc) cw_X12_isSign cl_RX12_255 g0 ⟨rfl, rfl⟩ rfl hl.1 rfl (show _ ≤ _ from by simp [Value.category]) ⟨by omega, by omega⟩ dX12_readStep_186) hS86 (fun v88 locs88 hr88 hS88 => ?_)
                    have b88 : (v88.toInt = 1 ∧ _) ∨ (v88.toInt = 0 ∧ _) := hr88.imp (fun h => ⟨by rw [h.1]; decide, h.2⟩) (fun h => ⟨by rw [h.1]; decide, h.2⟩)
                    refine q_goV (q_runV (As := [.int v88]) (rest := []) E hC86 hS88 (m_X12_must l X Γ H86 hC86 h0 g0 v88 (a1 := v88.toInt) rfl ca gca uc (by omega) (by omega)) cw_X12_must cl_RX12_244 g0 ⟨rfl, rfl⟩ rfl hl.1 rfl (Nat.zero_le _) ⟨by omega, by omega⟩ dX12_readStep_189) hS88 (fun H89 locs89 hr89 hC89 hS89 => ?_)
                    obtain ⟨hp89, hr89⟩ := hr89
                    have hKp89 := hKp86.tr (hp89.mono rfl)
                    replace kb : KB H0 H89 ca (2324 + 9 * (sI H0 h0 (X.1.2 11 25)).toInt) := KB.kp kb hp89 gca rfl
                    replace okp : okP H89 ca (2324 + (9 * v31.toInt)) v21.toInt zz := okP.kp okp hp89 gca rfl
                    replace sw : SWc bL H89 ca ((sI H0 h0 (X.1.2 11 25)).toInt + 1) nL := SWc.kp sw hp89 gca rfl (by omega)
                    have m90 : (sI H89 h0 (X.1.2 11 25)).toInt = (sI H86 h0 (X.1.2 11 25)).toInt := congrArg Int32.toInt (kp_I hp89 g0 (k := 25) rfl (by decide) rfl)
                    obtain ⟨f89_0, f89_1, f89_2, f89_3, f89_4⟩ := hr89
                    refine lv_aload_n hx hb dX12_readStep_192 rfl (lv_at hl 3 rfl) ?_
                    refine q_getC E hC89 g0 fa_RX12_35 uc dX12_readStep_193 ?_
                    refine lv_iload hx hb dX12_readStep_196 (lv_at hl 0 rfl) ?_
                    refine lv_bipush (v := 8) hx hb dX12_readStep_198 rfl ?_
                    refine lv_iadd hx hb dX12_readStep_200 (lv_topi (fun v91 ev91 => ?_))
                    have ev91i : v91.toInt = ((2324 + (9 * v31.toInt)) + 8) := i_add ev91 ev42i (by decide) (by omega) (by omega)
                    refine lv_aload_n hx hb dX12_readStep_201 rfl (lv_at hl 3 rfl) ?_
                    refine q_getI E hC89 g0 fa_RX12_283 dX12_readStep_202 (fun v92 ev92 lv92 uv92 => ?_)
                    have m93 : (sI H89 h0 (X.1.2 11 25)).toInt = v92.toInt := (congrArg Int32.toInt ev92).trans rfl
                    refine q_cast E hC89 hS89 gca (a := ((2324 + (9 * v31.toInt)) + 8)) ev91i (by omega) (by omega) (cs_n244 (a := ((2324 + (9 * v31.toInt)) + 8)) (by omega) (by omega)) dX12_readStep_205 (fun H94 locs94 hC94 hS94 U94 => ?_)
                    have hKp94 := Kp.upD gca rfl rfl (fun _ => ⟨fun _ => nd4 (by omega) (by omega), fun _ => by unfold dpu; omega, fun _ => by unfold dpn; omega⟩) U94 hKp89
                    replace kb : KB H0 H94 ca (2324 + 9 * (sI H0 h0 (X.1.2 11 25)).toInt) := KB.up kb U94 (by omega)
                    replace okp : okP H94 ca (2324 + (9 * v31.toInt)) v21.toInt zz := okP.up okp U94 (by omega) (by omega)
                    replace sw : SWc bL H94 ca ((sI H0 h0 (X.1.2 11 25)).toInt + 1) nL := SWc.up sw U94 (by omega) (by omega)
                    have m95 : (sI H94 h0 (X.1.2 11 12)).toInt = (sI H89 h0 (X.1.2 11 12)).toInt := congrArg Int32.toInt (up_nI U94 (ne_k g0 gca (by decide)))
                    have m96 : (sI H94 h0 (X.1.2 11 25)).toInt = (sI H89 h0 (X.1.2 11 25)).toInt := congrArg Int32.toInt (up_nI U94 (ne_k g0 gca (by decide)))
                    have hce : (sI H94 ca ((2324 + (9 * v31.toInt)) + 8).toNat).toInt = v92.toInt := (congrArg Int32.toInt (up_I U94)).trans rfl
                    have e97 := up_I U94
                    have swf : SWc (sI H94 h0 (X.1.2 11 12)).toInt H94 ca (sI H0 h0 (X.1.2 11 25)).toInt (sI H94 h0 (X.1.2 11 25)).toInt := fun hz => SWn.one (k := v21.toInt) (w := (2324 + (9 * v31.toInt))) (by have h0 : zz = 0 := (by omega); rw [h0] at okp; exact okp) (by omega) ⟨by omega, by omega⟩ hce (by omega) (by omega) (by have h := sw (by omega); rw [show nL = (sI H94 h0 (X.1.2 11 25)).toInt from (by omega)] at h; exact h)
                    exact ret H94 locs94 _ _ dX12_readStep_206 ⟨hKp94, ⟨by omega, by omega, by omega, by omega, by omega, kb, swf⟩⟩ hC94 hS94
            exact L142 33 H58 locs58 ls (by omega) (by omega) (by omega) (by omega) (by omega) (fun _ => SWn.nil (by omega)) hC58 hS58 hKp58 kb okp hl
          · refine lv_aload_n hx hb dX12_readStep_73 rfl (lv_at hl 2 rfl) ?_
            refine lv_bipush (v := 7) hx hb dX12_readStep_74 rfl ?_
            refine lv_aload_n hx hb dX12_readStep_76 rfl (lv_at hl 2 rfl) ?_
            refine q_getI E hC0 g0 fa_RX12_114 dX12_readStep_77 (fun v98 ev98 lv98 uv98 => ?_)
            refine q_goV (q_runV (As := [.int 7, .int v98]) (rest := []) E hC0 hS21 (m_X12_fail l X Γ H0 hC0 h0 g0 7 (a1 := 7) (by decide) v98 (a2 := v98.toInt) rfl ca gca uc (by omega) (by omega)) cw_X12_fail cl_RX12_224 g0 ⟨rfl, rfl⟩ rfl hl.1 rfl (Nat.zero_le _) ⟨by omega, by omega⟩ dX12_readStep_80) hS21 (fun H99 locs99 hr99 hC99 hS99 => ?_)
            obtain ⟨hp99, hr99⟩ := hr99
            have hKp99 := hKp0.tr (hp99.mono rfl)
            replace kb : KB H0 H99 ca (2324 + 9 * (sI H0 h0 (X.1.2 11 25)).toInt) := KB.kp kb hp99 gca rfl
            have m100 : (sI H99 h0 (X.1.2 11 25)).toInt = (sI H0 h0 (X.1.2 11 25)).toInt := congrArg Int32.toInt (kp_I hp99 g0 (k := 25) rfl (by decide) rfl)
            obtain ⟨f99_0, f99_1, f99_2, f99_3⟩ := hr99
            refine lv_aload_n hx hb dX12_readStep_83 rfl (lv_at hl 2 rfl) ?_
            refine q_getI E hC99 g0 fa_RX12_218 dX12_readStep_84 (fun v101 ev101 lv101 uv101 => ?_)
            have m102 : (sI H99 h0 (X.1.2 11 12)).toInt = v101.toInt := (congrArg Int32.toInt ev101).trans rfl
            refine q_if_le hx hb (a := v101.toInt) rfl (tgt := 91) dX12_readStep_87 rfl (fun c103 => absurd c103 (by omega)) (fun c103 => ?_)
            have e104 := (kp_I hp99 g0 (k := 25) rfl (by decide) rfl).trans ev31
            have m105 : (sI H99 h0 (X.1.2 11 25)).toInt = v31.toInt := (congrArg Int32.toInt e104).trans rfl
            have swf : SWc (sI H99 h0 (X.1.2 11 12)).toInt H99 ca (sI H0 h0 (X.1.2 11 25)).toInt (sI H99 h0 (X.1.2 11 25)).toInt := fun h => absurd h (by omega)
            exact ret H99 locs99 _ _ dX12_readStep_90 ⟨hKp99, ⟨by omega, by omega, by omega, by omega, by omega, kb, swf⟩⟩ hC99 hS99
        · refine lv_aload_n hx hb dX12_readStep_47 rfl (lv_at hl 2 rfl) ?_
          refine lv_bipush (v := 6) hx hb dX12_readStep_48 rfl ?_
          refine lv_aload_n hx hb dX12_readStep_50 rfl (lv_at hl 2 rfl) ?_
          refine q_getI E hC0 g0 fa_RX12_114 dX12_readStep_51 (fun v106 ev106 lv106 uv106 => ?_)
          refine q_goV (q_runV (As := [.int 6, .int v106]) (rest := []) E hC0 hS21 (m_X12_fail l X Γ H0 hC0 h0 g0 6 (a1 := 6) (by decide) v106 (a2 := v106.toInt) rfl ca gca uc (by omega) (by omega)) cw_X12_fail cl_RX12_224 g0 ⟨rfl, rfl⟩ rfl hl.1 rfl (Nat.zero_le _) ⟨by omega, by omega⟩ dX12_readStep_54) hS21 (fun H107 locs107 hr107 hC107 hS107 => ?_)
          obtain ⟨hp107, hr107⟩ := hr107
          have hKp107 := hKp0.tr (hp107.mono rfl)
          replace kb : KB H0 H107 ca (2324 + 9 * (sI H0 h0 (X.1.2 11 25)).toInt) := KB.kp kb hp107 gca rfl
          have m108 : (sI H107 h0 (X.1.2 11 25)).toInt = (sI H0 h0 (X.1.2 11 25)).toInt := congrArg Int32.toInt (kp_I hp107 g0 (k := 25) rfl (by decide) rfl)
          obtain ⟨f107_0, f107_1, f107_2, f107_3⟩ := hr107
          refine lv_aload_n hx hb dX12_readStep_57 rfl (lv_at hl 2 rfl) ?_
          refine q_getI E hC107 g0 fa_RX12_218 dX12_readStep_58 (fun v109 ev109 lv109 uv109 => ?_)
          have m110 : (sI H107 h0 (X.1.2 11 12)).toInt = v109.toInt := (congrArg Int32.toInt ev109).trans rfl
          refine q_if_ne hx hb (a := v109.toInt) rfl (tgt := 83) dX12_readStep_61 rfl (fun c111 => ?_) (fun c111 => absurd c111 (by omega))
          refine lv_aload_n hx hb dX12_readStep_83 rfl (lv_at hl 2 rfl) ?_
          refine q_getI E hC107 g0 fa_RX12_218 dX12_readStep_84 (fun v112 ev112 lv112 uv112 => ?_)
          have qv112 := ev109.symm.trans ev112; subst qv112
          refine q_if_le hx hb (a := v109.toInt) rfl (tgt := 91) dX12_readStep_87 rfl (fun c113 => absurd c113 (by omega)) (fun c113 => ?_)
          have e114 := (kp_I hp107 g0 (k := 25) rfl (by decide) rfl).trans ev31
          have m115 : (sI H107 h0 (X.1.2 11 25)).toInt = v31.toInt := (congrArg Int32.toInt e114).trans rfl
          have swf : SWc (sI H107 h0 (X.1.2 11 12)).toInt H107 ca (sI H0 h0 (X.1.2 11 25)).toInt (sI H107 h0 (X.1.2 11 25)).toInt := fun h => absurd h (by omega)
          exact ret H107 locs107 _ _ dX12_readStep_90 ⟨hKp107, ⟨by omega, by omega, by omega, by omega, by omega, kb, swf⟩⟩ hC107 hS107
    · refine lv_iload_n hx hb dX12_readStep_11 rfl (lv_at hl 0 rfl) ?_
      refine lv_bipush (v := 8) hx hb dX12_readStep_12 rfl ?_
      refine q_icmp_ne hx hb (a := v21.toInt) (b := 8) rfl (by decide) (tgt := 21) dX12_readStep_14 rfl (fun c116 => ?_) (fun c116 => ?_)
      · refine lv_iconst (v := 0) hx hb dX12_readStep_21 rfl ?_
        refine lv_istore_n hx hb dX12_readStep_22 rfl hl (by decide) rfl (fun ls hl => ?_)
        replace hl : lv_has ls 5 [(3, .int 0), (2, .int v21), (0, .ref h0), (1, .int p1)] := hl
        refine lv_iload_n hx hb dX12_readStep_23 rfl (lv_at hl 1 rfl) ?_
        refine q_if_ge hx hb (a := v21.toInt) rfl (tgt := 31) dX12_readStep_24 rfl (fun c117 => ?_) (fun c117 => ?_)
        · refine lv_aload_n hx hb dX12_readStep_31 rfl (lv_at hl 2 rfl) ?_
          refine q_getI E hC0 g0 fa_RX12_218 dX12_readStep_32 (fun v118 ev118 lv118 uv118 => ?_)
          have m119 : (sI H0 h0 (X.1.2 11 12)).toInt = v118.toInt := (congrArg Int32.toInt ev118).trans rfl
          refine q_if_ne hx hb (a := v118.toInt) rfl (tgt := 57) dX12_readStep_35 rfl (fun c120 => ?_) (fun c120 => ?_)
          · refine lv_aload_n hx hb dX12_readStep_57 rfl (lv_at hl 2 rfl) ?_
            refine q_getI E hC0 g0 fa_RX12_218 dX12_readStep_58 (fun v121 ev121 lv121 uv121 => ?_)
            have qv121 := ev118.symm.trans ev121; subst qv121
            refine q_if_ne hx hb (a := v118.toInt) rfl (tgt := 83) dX12_readStep_61 rfl (fun c122 => ?_) (fun c122 => absurd c122 (by omega))
            refine lv_aload_n hx hb dX12_readStep_83 rfl (lv_at hl 2 rfl) ?_
            refine q_getI E hC0 g0 fa_RX12_218 dX12_readStep_84 (fun v123 ev123 lv123 uv123 => ?_)
            have qv123 := ev118.symm.trans ev123; subst qv123
            refine q_if_le hx hb (a := v118.toInt) rfl (tgt := 91) dX12_readStep_87 rfl (fun c124 => absurd c124 (by omega)) (fun c124 => ?_)
            have swf : SWc (sI H0 h0 (X.1.2 11 12)).toInt H0 ca (sI H0 h0 (X.1.2 11 25)).toInt (sI H0 h0 (X.1.2 11 25)).toInt := fun h => absurd h (by omega)
            exact ret H0 locs21 _ _ dX12_readStep_90 ⟨hKp0, ⟨by omega, by omega, by omega, by omega, by omega, kb, swf⟩⟩ hC0 hS21
          · refine lv_aload_n hx hb dX12_readStep_38 rfl (lv_at hl 2 rfl) ?_
            refine q_getI E hC0 g0 fa_RX12_283 dX12_readStep_39 (fun v125 ev125 lv125 uv125 => ?_)
            have m126 : (sI H0 h0 (X.1.2 11 25)).toInt = v125.toInt := (congrArg Int32.toInt ev125).trans rfl
            refine lv_bipush (v := 30) hx hb dX12_readStep_42 rfl ?_
            refine q_icmp_ne hx hb (a := v125.toInt) (b := 30) rfl (by decide) (tgt := 57) dX12_readStep_44 rfl (fun c127 => ?_) (fun c127 => ?_)
            · refine lv_aload_n hx hb dX12_readStep_57 rfl (lv_at hl 2 rfl) ?_
              refine q_getI E hC0 g0 fa_RX12_218 dX12_readStep_58 (fun v128 ev128 lv128 uv128 => ?_)
              have qv128 := ev118.symm.trans ev128; subst qv128
              refine q_if_ne hx hb (a := v118.toInt) rfl (tgt := 83) dX12_readStep_61 rfl (fun c129 => absurd c129 (by omega)) (fun c129 => ?_)
              refine lv_iload_n hx hb dX12_readStep_64 rfl (lv_at hl 0 rfl) ?_
              refine q_if_eq hx hb (a := 0) (by decide) (tgt := 83) dX12_readStep_65 rfl (fun c130 => ?_) (fun c130 => absurd c130 (by omega))
              refine lv_aload_n hx hb dX12_readStep_83 rfl (lv_at hl 2 rfl) ?_
              refine q_getI E hC0 g0 fa_RX12_218 dX12_readStep_84 (fun v131 ev131 lv131 uv131 => ?_)
              have qv131 := ev118.symm.trans ev131; subst qv131
              refine q_if_le hx hb (a := v118.toInt) rfl (tgt := 91) dX12_readStep_87 rfl (fun c132 => ?_) (fun c132 => absurd c132 (by omega))
              refine lv_sipush (v := 2324) hx hb dX12_readStep_91 rfl ?_
              refine lv_bipush (v := 9) hx hb dX12_readStep_94 rfl ?_
              refine lv_aload_n hx hb dX12_readStep_96 rfl (lv_at hl 2 rfl) ?_
              refine q_getI E hC0 g0 fa_RX12_283 dX12_readStep_97 (fun v133 ev133 lv133 uv133 => ?_)
              have qv133 := ev125.symm.trans ev133; subst qv133
              refine lv_imul hx hb dX12_readStep_100 (lv_topi (fun v134 ev134 => ?_))
              have ev134i : v134.toInt = (9 * v125.toInt) := i_mul ev134 (by decide) rfl (by omega) (by omega)
              refine lv_iadd hx hb dX12_readStep_101 (lv_topi (fun v135 ev135 => ?_))
              have ev135i : v135.toInt = (2324 + (9 * v125.toInt)) := i_add ev135 (by decide) ev134i (by omega) (by omega)
              refine lv_istore hx hb dX12_readStep_102 hl (by decide) rfl (fun ls hl => ?_)
              replace hl : lv_has ls 5 [(4, .int v135), (3, .int 0), (2, .int v21), (0, .ref h0), (1, .int p1)] := hl
              refine lv_aload_n hx hb dX12_readStep_104 rfl (lv_at hl 3 rfl) ?_
              refine lv_dup hx hb dX12_readStep_105 rfl ?_
              refine q_getI E hC0 g0 fa_RX12_283 dX12_readStep_106 (fun v136 ev136 lv136 uv136 => ?_)
              have qv136 := ev125.symm.trans ev136; subst qv136
              refine lv_iconst (v := 1) hx hb dX12_readStep_109 rfl ?_
              refine lv_iadd hx hb dX12_readStep_110 (lv_topi (fun v137 ev137 => ?_))
              have ev137i : v137.toInt = (v125.toInt + 1) := i_add ev137 rfl (by decide) (by omega) (by omega)
              refine q_put E hC0 hS21 g0 fp_RX12_283 (tv_I ev137i (by omega) (by omega)) rfl rfl dX12_readStep_111 (fun H138 locs138 hC138 hS138 U138 => ?_)
              have hKp138 := Kp.upO E g0 fp_RX12_283 rfl U138 hKp0
              have e139 := up_I U138
              have m140 : (sI H138 h0 (X.1.2 11 25)).toInt = (v125.toInt + 1) := (congrArg Int32.toInt e139).trans ev137i
              replace kb : KB H0 H138 ca (2324 + 9 * (sI H0 h0 (X.1.2 11 25)).toInt) := KB.ne kb U138 (nek g0 gca (by decide))
              have m141 : (sI H138 h0 (X.1.2 11 12)).toInt = (sI H0 h0 (X.1.2 11 12)).toInt := congrArg Int32.toInt (up_nI U138 (ne_f E 11 12 25 rfl (by decide) (by decide) (by decide)))
              refine lv_aload_n hx hb dX12_readStep_114 rfl (lv_at hl 3 rfl) ?_
              refine q_goV (q_runV (As := []) (rest := []) E hC138 hS138 (m_X12_next l X Γ H138 hC138 h0 g0 ca gca uc) cw_X12_next cl_RX12_228 g0 ⟨rfl, rfl⟩ rfl hl.1 rfl (Nat.zero_le _) ⟨by omega, by omega⟩ dX12_readStep_115) hS138 (fun H142 locs142 hr142 hC142 hS142 => ?_)
              obtain ⟨hp142, hr142⟩ := hr142
              have hKp142 := hKp138.tr (hp142.mono rfl)
              replace kb : KB H0 H142 ca (2324 + 9 * (sI H0 h0 (X.1.2 11 25)).toInt) := KB.kp kb hp142 gca rfl
              have m143 : (sI H142 h0 (X.1.2 11 25)).toInt = (sI H138 h0 (X.1.2 11 25)).toInt := congrArg Int32.toInt (kp_I hp142 g0 (k := 25) rfl (by decide) rfl)
              obtain ⟨f142_0, f142_1, f142_2⟩ := hr142
              refine lv_aload_n hx hb dX12_readStep_118 rfl (lv_at hl 3 rfl) ?_
              refine q_getC E hC142 g0 fa_RX12_35 uc dX12_readStep_119 ?_
              refine lv_iload hx hb dX12_readStep_122 (lv_at hl 0 rfl) ?_
              refine lv_iload_n hx hb dX12_readStep_124 rfl (lv_at hl 2 rfl) ?_
              refine q_cast E hC142 hS142 gca (a := (2324 + (9 * v125.toInt))) ev135i (by omega) (by omega) (cs_n244 (a := (2324 + (9 * v125.toInt))) (by omega) (by omega)) dX12_readStep_125 (fun H144 locs144 hC144 hS144 U144 => ?_)
              have hKp144 := Kp.upD gca rfl rfl (fun _ => ⟨fun _ => nd4 (by omega) (by omega), fun _ => by unfold dpu; omega, fun _ => by unfold dpn; omega⟩) U144 hKp142
              replace kb : KB H0 H144 ca (2324 + 9 * (sI H0 h0 (X.1.2 11 25)).toInt) := KB.up kb U144 (by omega)
              have m145 : (sI H144 h0 (X.1.2 11 12)).toInt = (sI H142 h0 (X.1.2 11 12)).toInt := congrArg Int32.toInt (up_nI U144 (ne_k g0 gca (by decide)))
              have m146 : (sI H144 h0 (X.1.2 11 25)).toInt = (sI H142 h0 (X.1.2 11 25)).toInt := congrArg Int32.toInt (up_nI U144 (ne_k g0 gca (by decide)))
              have hck : (sI H144 ca ((2324 + (9 * v125.toInt))).toNat).toInt = v21.toInt := (congrArg Int32.toInt (up_I U144)).trans rfl
              have e147 := up_I U144
              refine lv_aload_n hx hb dX12_readStep_126 rfl (lv_at hl 3 rfl) ?_
              refine lv_iload hx hb dX12_readStep_127 (lv_at hl 0 rfl) ?_
              refine q_goV (q_runV (As := [.int v135]) (rest := []) E hC144 hS144 (m_X12_readRest l X Γ H144 hC144 h0 g0 v135 (a1 := (2324 + (9 * v125.toInt))) ev135i ca gca uc (by omega) (by omega)) cw_X12_readRest cl_RX12_286 g0 ⟨rfl, rfl⟩ rfl hl.1 rfl (Nat.zero_le _) ⟨by omega, by omega⟩ dX12_readStep_129) hS144 (fun H148 locs148 hr148 hC148 hS148 => ?_)
              obtain ⟨hp148, hr148⟩ := hr148
              have hKp148 := hKp144.tr (hp148.mono rfl)
              have m149 : (sI H148 h0 (X.1.2 11 25)).toInt = (sI H144 h0 (X.1.2 11 25)).toInt := congrArg Int32.toInt (kp_I hp148 g0 (k := 25) rfl (by decide) rfl)
              obtain ⟨f148_0, f148_1, f148_2, f148_3, f148_4⟩ := hr148
              have kb : KB H0 H148 ca (2324 + 9 * (sI H0 h0 (X.1.2 11 25)).toInt) := KB.tr kb f148_3 (by omega)
              obtain ⟨zz, hzz⟩ : ∃ z, (sI H148 h0 (X.1.2 11 12)).toInt = z := ⟨_, rfl⟩
              have okp : okP H148 ca (2324 + (9 * v125.toInt)) v21.toInt zz := by have h := f148_4; rw [hck, hzz] at h; exact h
              refine lv_aload_n hx hb dX12_readStep_132 rfl (lv_at hl 3 rfl) ?_
              refine lv_aload_n hx hb dX12_readStep_133 rfl (lv_at hl 3 rfl) ?_
              refine lv_bipush (v := 59) hx hb dX12_readStep_134 rfl ?_
              refine q_goIp (q_runV (As := [.int 59]) (rest := [.ref h0]) E hC148 hS148 (m_X12_isSign l X Γ H148 hC148 h0 g0 59 (a1 := 59) (by decide) ca gca uc) cw_X12_isSign cl_RX12_255 g0 ⟨rfl, rfl⟩ rfl hl.1 rfl (show _ ≤ _ from by simp [Value.category]) ⟨by omega, by omega⟩ dX12_readStep_136) hS148 (fun v150 locs150 hr150 hS150 => ?_)
              have b150 : (v150.toInt = 1 ∧ _) ∨ (v150.toInt = 0 ∧ _) := hr150.imp (fun h => ⟨by rw [h.1]; decide, h.2⟩) (fun h => ⟨by rw [h.1]; decide, h.2⟩)
              refine q_goV (q_runV (As := [.int v150]) (rest := []) E hC148 hS150 (m_X12_must l X Γ H148 hC148 h0 g0 v150 (a1 := v150.toInt) rfl ca gca uc (by omega) (by omega)) cw_X12_must cl_RX12_244 g0 ⟨rfl, rfl⟩ rfl hl.1 rfl (Nat.zero_le _) ⟨by omega, by omega⟩ dX12_readStep_139) hS150 (fun H151 locs151 hr151 hC151 hS151 => ?_)
              obtain ⟨hp151, hr151⟩ := hr151
              have hKp151 := hKp148.tr (hp151.mono rfl)
              replace kb : KB H0 H151 ca (2324 + 9 * (sI H0 h0 (X.1.2 11 25)).toInt) := KB.kp kb hp151 gca rfl
              replace okp : okP H151 ca (2324 + (9 * v125.toInt)) v21.toInt zz := okP.kp okp hp151 gca rfl
              have m152 : (sI H151 h0 (X.1.2 11 25)).toInt = (sI H148 h0 (X.1.2 11 25)).toInt := congrArg Int32.toInt (kp_I hp151 g0 (k := 25) rfl (by decide) rfl)
              obtain ⟨f151_0, f151_1, f151_2, f151_3, f151_4⟩ := hr151
              have L142 : ∀ (n153 : Nat) (H153 : Heap) (locs153 : List Loc) (ls : Array Slot), 0 < n153 ∧ ((sI H153 h0 (X.1.2 11 12)).toInt ≠ 0 ∨ 32 - (sI H153 h0 (X.1.2 11 25)).toInt < n153) → (sI H0 h0 (X.1.2 11 25)).toInt + 1 ≤ (sI H153 h0 (X.1.2 11 25)).toInt → (sI H0 h0 (X.1.2 11 12)).toInt ≤ 7 * (sI H153 h0 (X.1.2 11 12)).toInt → (0 = 1 → (sI H153 h0 (X.1.2 11 12)).toInt = 0 → a1 ≤ 2) → zz ≤ 7 * (sI H153 h0 (X.1.2 11 12)).toInt → SWc (sI H153 h0 (X.1.2 11 12)).toInt H153 ca ((sI H0 h0 (X.1.2 11 25)).toInt + 1) (sI H153 h0 (X.1.2 11 25)).toInt → Conf X Γ H153 → va_S (AΓ Γ) H0 H153 locs153 → Kp X Γ [1, 6, 7, 8, 9, 10, 11, 12, 16, 17, 19, 22, 24, 26, 28] H0 H153 → (KB H0 H153 ca (2324 + 9 * (sI H0 h0 (X.1.2 11 25)).toInt)) → (okP H153 ca (2324 + (9 * v125.toInt)) v21.toInt zz) → lv_has ls 5 [(4, .int v135), (3, .int 0), (2, .int v21), (0, .ref h0), (1, .int p1)] → W p l e (rmL (6 + d)) s m args below meth c H153 locs153 0 0 Qz (F0 m 142 ls []) := by
                intro n153
                induction n153 with
                | zero => intro H153 locs153 ls hm153 iv153_0 iv153_1 iv153_2 iv153_3 iv153_4 hC153 hS153 hKp153 kb okp hl; exact absurd hm153 (by omega)
                | succ n153 ih153 =>
                  intro H153 locs153 ls hm153 iv153_0 iv153_1 iv153_2 iv153_3 iv153_4 hC153 hS153 hKp153 kb okp hl
                  have hb1 := f_bd hC153 g0 (ci := 11) (k := 25) rfl rfl
                  have hb2 := f_bd hC153 g0 (ci := 11) (k := 12) rfl rfl
                  have swi := iv153_4
                  obtain ⟨nL, hnL⟩ : ∃ z, (sI H153 h0 (X.1.2 11 25)).toInt = z := ⟨_, rfl⟩
                  obtain ⟨bL, hbL⟩ : ∃ z, (sI H153 h0 (X.1.2 11 12)).toInt = z := ⟨_, rfl⟩
                  have sw : SWc bL H153 ca ((sI H0 h0 (X.1.2 11 25)).toInt + 1) nL := by have h := iv153_4; rw [hnL, hbL] at h; exact h
                  refine lv_iload_n hx hb dX12_readStep_142 rfl (lv_at hl 1 rfl) ?_
                  refine q_if_eq hx hb (a := 0) (by decide) (tgt := 170) dX12_readStep_143 rfl (fun c154 => ?_) (fun c154 => absurd c154 (by omega))
                  refine lv_iload_n hx hb dX12_readStep_170 rfl (lv_at hl 1 rfl) ?_
                  refine q_if_eq hx hb (a := 0) (by decide) (tgt := 192) dX12_readStep_171 rfl (fun c155 => ?_) (fun c155 => absurd c155 (by omega))
                  refine lv_aload_n hx hb dX12_readStep_192 rfl (lv_at hl 3 rfl) ?_
                  refine q_getC E hC153 g0 fa_RX12_35 uc dX12_readStep_193 ?_
                  refine lv_iload hx hb dX12_readStep_196 (lv_at hl 0 rfl) ?_
                  refine lv_bipush (v := 8) hx hb dX12_readStep_198 rfl ?_
                  refine lv_iadd hx hb dX12_readStep_200 (lv_topi (fun v156 ev156 => ?_))
                  have ev156i : v156.toInt = ((2324 + (9 * v125.toInt)) + 8) := i_add ev156 ev135i (by decide) (by omega) (by omega)
                  refine lv_aload_n hx hb dX12_readStep_201 rfl (lv_at hl 3 rfl) ?_
                  refine q_getI E hC153 g0 fa_RX12_283 dX12_readStep_202 (fun v157 ev157 lv157 uv157 => ?_)
                  have m158 : (sI H153 h0 (X.1.2 11 25)).toInt = v157.toInt := (congrArg Int32.toInt ev157).trans rfl
                  refine q_cast E hC153 hS153 gca (a := ((2324 + (9 * v125.toInt)) + 8)) ev156i (by omega) (by omega) (cs_n244 (a := ((2324 + (9 * v125.toInt)) + 8)) (by omega) (by omega)) dX12_readStep_205 (fun H159 locs159 hC159 hS159 U159 => ?_)
                  have hKp159 := Kp.upD gca rfl rfl (fun _ => ⟨fun _ => nd4 (by omega) (by omega), fun _ => by unfold dpu; omega, fun _ => by unfold dpn; omega⟩) U159 hKp153
                  replace kb : KB H0 H159 ca (2324 + 9 * (sI H0 h0 (X.1.2 11 25)).toInt) := KB.up kb U159 (by omega)
                  replace okp : okP H159 ca (2324 + (9 * v125.toInt)) v21.toInt zz := okP.up okp U159 (by omega) (by omega)
                  replace sw : SWc bL H159 ca ((sI H0 h0 (X.1.2 11 25)).toInt + 1) nL := SWc.up sw U159 (by omega) (by omega)
                  have m160 : (sI H159 h0 (X.1.2 11 12)).toInt = (sI H153 h0 (X.1.2 11 12)).toInt := congrArg Int32.toInt (up_nI U159 (ne_k g0 gca (by decide)))
                  have m161 : (sI H159 h0 (X.1.2 11 25)).toInt = (sI H153 h0 (X.1.2 11 25)).toInt := congrArg Int32.toInt (up_nI U159 (ne_k g0 gca (by decide)))
                  have hce : (sI H159 ca ((2324 + (9 * v125.toInt)) + 8).toNat).toInt = v157.toInt := (congrArg Int32.toInt (up_I U159)).trans rfl
                  have e162 := up_I U159
                  have swf : SWc (sI H159 h0 (X.1.2 11 12)).toInt H159 ca (sI H0 h0 (X.1.2 11 25)).toInt (sI H159 h0 (X.1.2 11 25)).toInt := fun hz => SWn.one (k := v21.toInt) (w := (2324 + (9 * v125.toInt))) (by have h0 : zz = 0 := (by omega); rw [h0] at okp; exact okp) (by omega) ⟨by omega, by omega⟩ hce (by omega) (by omega) (by have h := sw (by omega); rw [show nL = (sI H159 h0 (X.1.2 11 25)).toInt from (by omega)] at h; exact h)
                  exact ret H159 locs159 _ _ dX12_readStep_206 ⟨hKp159, ⟨by omega, by omega, by omega, by omega, by omega, kb, swf⟩⟩ hC159 hS159
              exact L142 33 H151 locs151 ls (by omega) (by omega) (by omega) (by omega) (by omega) (fun _ => SWn.nil (by omega)) hC151 hS151 hKp151 kb okp hl
            · refine lv_aload_n hx hb dX12_readStep_47 rfl (lv_at hl 2 rfl) ?_
              refine lv_bipush (v := 6) hx hb dX12_readStep_48 rfl ?_
              refine lv_aload_n hx hb dX12_readStep_50 rfl (lv_at hl 2 rfl) ?_
              refine q_getI E hC0 g0 fa_RX12_114 dX12_readStep_51 (fun v163 ev163 lv163 uv163 => ?_)
              refine q_goV (q_runV (As := [.int 6, .int v163]) (rest := []) E hC0 hS21 (m_X12_fail l X Γ H0 hC0 h0 g0 6 (a1 := 6) (by decide) v163 (a2 := v163.toInt) rfl ca gca uc (by omega) (by omega)) cw_X12_fail cl_RX12_224 g0 ⟨rfl, rfl⟩ rfl hl.1 rfl (Nat.zero_le _) ⟨by omega, by omega⟩ dX12_readStep_54) hS21 (fun H164 locs164 hr164 hC164 hS164 => ?_)
              obtain ⟨hp164, hr164⟩ := hr164
              have hKp164 := hKp0.tr (hp164.mono rfl)
              replace kb : KB H0 H164 ca (2324 + 9 * (sI H0 h0 (X.1.2 11 25)).toInt) := KB.kp kb hp164 gca rfl
              have m165 : (sI H164 h0 (X.1.2 11 25)).toInt = (sI H0 h0 (X.1.2 11 25)).toInt := congrArg Int32.toInt (kp_I hp164 g0 (k := 25) rfl (by decide) rfl)
              obtain ⟨f164_0, f164_1, f164_2, f164_3⟩ := hr164
              refine lv_aload_n hx hb dX12_readStep_57 rfl (lv_at hl 2 rfl) ?_
              refine q_getI E hC164 g0 fa_RX12_218 dX12_readStep_58 (fun v166 ev166 lv166 uv166 => ?_)
              have m167 : (sI H164 h0 (X.1.2 11 12)).toInt = v166.toInt := (congrArg Int32.toInt ev166).trans rfl
              refine q_if_ne hx hb (a := v166.toInt) rfl (tgt := 83) dX12_readStep_61 rfl (fun c168 => ?_) (fun c168 => absurd c168 (by omega))
              refine lv_aload_n hx hb dX12_readStep_83 rfl (lv_at hl 2 rfl) ?_
              refine q_getI E hC164 g0 fa_RX12_218 dX12_readStep_84 (fun v169 ev169 lv169 uv169 => ?_)
              have qv169 := ev166.symm.trans ev169; subst qv169
              refine q_if_le hx hb (a := v166.toInt) rfl (tgt := 91) dX12_readStep_87 rfl (fun c170 => absurd c170 (by omega)) (fun c170 => ?_)
              have e171 := (kp_I hp164 g0 (k := 25) rfl (by decide) rfl).trans ev125
              have m172 : (sI H164 h0 (X.1.2 11 25)).toInt = v125.toInt := (congrArg Int32.toInt e171).trans rfl
              have swf : SWc (sI H164 h0 (X.1.2 11 12)).toInt H164 ca (sI H0 h0 (X.1.2 11 25)).toInt (sI H164 h0 (X.1.2 11 25)).toInt := fun h => absurd h (by omega)
              exact ret H164 locs164 _ _ dX12_readStep_90 ⟨hKp164, ⟨by omega, by omega, by omega, by omega, by omega, kb, swf⟩⟩ hC164 hS164
        · refine lv_aload_n hx hb dX12_readStep_27 rfl (lv_at hl 2 rfl) ?_
          refine q_goV (q_runV (As := []) (rest := []) E hC0 hS21 (m_X12_wrong l X Γ H0 hC0 h0 g0 ca gca uc) cw_X12_wrong cl_RX12_231 g0 ⟨rfl, rfl⟩ rfl hl.1 rfl (Nat.zero_le _) ⟨by omega, by omega⟩ dX12_readStep_28) hS21 (fun H173 locs173 hr173 hC173 hS173 => ?_)
          obtain ⟨hp173, hr173⟩ := hr173
          have hKp173 := hKp0.tr (hp173.mono rfl)
          replace kb : KB H0 H173 ca (2324 + 9 * (sI H0 h0 (X.1.2 11 25)).toInt) := KB.kp kb hp173 gca rfl
          have m174 : (sI H173 h0 (X.1.2 11 25)).toInt = (sI H0 h0 (X.1.2 11 25)).toInt := congrArg Int32.toInt (kp_I hp173 g0 (k := 25) rfl (by decide) rfl)
          obtain ⟨f173_0, f173_1, f173_2, f173_3⟩ := hr173
          refine lv_aload_n hx hb dX12_readStep_31 rfl (lv_at hl 2 rfl) ?_
          refine q_getI E hC173 g0 fa_RX12_218 dX12_readStep_32 (fun v175 ev175 lv175 uv175 => ?_)
          have m176 : (sI H173 h0 (X.1.2 11 12)).toInt = v175.toInt := (congrArg Int32.toInt ev175).trans rfl
          refine q_if_ne hx hb (a := v175.toInt) rfl (tgt := 57) dX12_readStep_35 rfl (fun c177 => ?_) (fun c177 => absurd c177 (by omega))
          refine lv_aload_n hx hb dX12_readStep_57 rfl (lv_at hl 2 rfl) ?_
          refine q_getI E hC173 g0 fa_RX12_218 dX12_readStep_58 (fun v178 ev178 lv178 uv178 => ?_)
          have qv178 := ev175.symm.trans ev178; subst qv178
          refine q_if_ne hx hb (a := v175.toInt) rfl (tgt := 83) dX12_readStep_61 rfl (fun c179 => ?_) (fun c179 => absurd c179 (by omega))
          refine lv_aload_n hx hb dX12_readStep_83 rfl (lv_at hl 2 rfl) ?_
          refine q_getI E hC173 g0 fa_RX12_218 dX12_readStep_84 (fun v180 ev180 lv180 uv180 => ?_)
          have qv180 := ev175.symm.trans ev180; subst qv180
          refine q_if_le hx hb (a := v175.toInt) rfl (tgt := 91) dX12_readStep_87 rfl (fun c181 => absurd c181 (by omega)) (fun c181 => ?_)
          have swf : SWc (sI H173 h0 (X.1.2 11 12)).toInt H173 ca (sI H0 h0 (X.1.2 11 25)).toInt (sI H173 h0 (X.1.2 11 25)).toInt := fun h => absurd h (by omega)
          exact ret H173 locs173 _ _ dX12_readStep_90 ⟨hKp173, ⟨by omega, by omega, by omega, by omega, by omega, kb, swf⟩⟩ hC173 hS173
      · refine lv_iconst (v := 1) hx hb dX12_readStep_17 rfl ?_
        refine lv_goto (tgt := 22) hx hb dX12_readStep_18 rfl ?_
        refine lv_istore_n hx hb dX12_readStep_22 rfl hl (by decide) rfl (fun ls hl => ?_)
        replace hl : lv_has ls 5 [(3, .int 1), (2, .int v21), (0, .ref h0), (1, .int p1)] := hl
        refine lv_iload_n hx hb dX12_readStep_23 rfl (lv_at hl 1 rfl) ?_
        refine q_if_ge hx hb (a := v21.toInt) rfl (tgt := 31) dX12_readStep_24 rfl (fun c182 => ?_) (fun c182 => absurd c182 (by omega))
        refine lv_aload_n hx hb dX12_readStep_31 rfl (lv_at hl 2 rfl) ?_
        refine q_getI E hC0 g0 fa_RX12_218 dX12_readStep_32 (fun v183 ev183 lv183 uv183 => ?_)
        have m184 : (sI H0 h0 (X.1.2 11 12)).toInt = v183.toInt := (congrArg Int32.toInt ev183).trans rfl
        refine q_if_ne hx hb (a := v183.toInt) rfl (tgt := 57) dX12_readStep_35 rfl (fun c185 => ?_) (fun c185 => ?_)
        · refine lv_aload_n hx hb dX12_readStep_57 rfl (lv_at hl 2 rfl) ?_
          refine q_getI E hC0 g0 fa_RX12_218 dX12_readStep_58 (fun v186 ev186 lv186 uv186 => ?_)
          have qv186 := ev183.symm.trans ev186; subst qv186
          refine q_if_ne hx hb (a := v183.toInt) rfl (tgt := 83) dX12_readStep_61 rfl (fun c187 => ?_) (fun c187 => absurd c187 (by omega))
          refine lv_aload_n hx hb dX12_readStep_83 rfl (lv_at hl 2 rfl) ?_
          refine q_getI E hC0 g0 fa_RX12_218 dX12_readStep_84 (fun v188 ev188 lv188 uv188 => ?_)
          have qv188 := ev183.symm.trans ev188; subst qv188
          refine q_if_le hx hb (a := v183.toInt) rfl (tgt := 91) dX12_readStep_87 rfl (fun c189 => absurd c189 (by omega)) (fun c189 => ?_)
          have swf : SWc (sI H0 h0 (X.1.2 11 12)).toInt H0 ca (sI H0 h0 (X.1.2 11 25)).toInt (sI H0 h0 (X.1.2 11 25)).toInt := fun h => absurd h (by omega)
          exact ret H0 locs21 _ _ dX12_readStep_90 ⟨hKp0, ⟨by omega, by omega, by omega, by omega, by omega, kb, swf⟩⟩ hC0 hS21
        · refine lv_aload_n hx hb dX12_readStep_38 rfl (lv_at hl 2 rfl) ?_
          refine q_getI E hC0 g0 fa_RX12_283 dX12_readStep_39 (fun v190 ev190 lv190 uv190 => ?_)
          have m191 : (sI H0 h0 (X.1.2 11 25)).toInt = v190.toInt := (congrArg Int32.toInt ev190).trans rfl
          refine lv_bipush (v := 30) hx hb dX12_readStep_42 rfl ?_
          refine q_icmp_ne hx hb (a := v190.toInt) (b := 30) rfl (by decide) (tgt := 57) dX12_readStep_44 rfl (fun c192 => ?_) (fun c192 => ?_)
          · refine lv_aload_n hx hb dX12_readStep_57 rfl (lv_at hl 2 rfl) ?_
            refine q_getI E hC0 g0 fa_RX12_218 dX12_readStep_58 (fun v193 ev193 lv193 uv193 => ?_)
            have qv193 := ev183.symm.trans ev193; subst qv193
            refine q_if_ne hx hb (a := v183.toInt) rfl (tgt := 83) dX12_readStep_61 rfl (fun c194 => absurd c194 (by omega)) (fun c194 => ?_)
            refine lv_iload_n hx hb dX12_readStep_64 rfl (lv_at hl 0 rfl) ?_
            refine q_if_eq hx hb (a := 1) (by decide) (tgt := 83) dX12_readStep_65 rfl (fun c195 => absurd c195 (by omega)) (fun c195 => ?_)
            refine lv_iload_n hx hb dX12_readStep_68 rfl (lv_at hl 3 rfl) ?_
            refine lv_iconst (v := 3) hx hb dX12_readStep_69 rfl ?_
            refine q_icmp_ne hx hb (a := a1) (b := 3) e1 (by decide) (tgt := 83) dX12_readStep_70 rfl (fun c196 => ?_) (fun c196 => ?_)
            · refine lv_aload_n hx hb dX12_readStep_83 rfl (lv_at hl 2 rfl) ?_
              refine q_getI E hC0 g0 fa_RX12_218 dX12_readStep_84 (fun v197 ev197 lv197 uv197 => ?_)
              have qv197 := ev183.symm.trans ev197; subst qv197
              refine q_if_le hx hb (a := v183.toInt) rfl (tgt := 91) dX12_readStep_87 rfl (fun c198 => ?_) (fun c198 => absurd c198 (by omega))
              refine lv_sipush (v := 2324) hx hb dX12_readStep_91 rfl ?_
              refine lv_bipush (v := 9) hx hb dX12_readStep_94 rfl ?_
              refine lv_aload_n hx hb dX12_readStep_96 rfl (lv_at hl 2 rfl) ?_
              refine q_getI E hC0 g0 fa_RX12_283 dX12_readStep_97 (fun v199 ev199 lv199 uv199 => ?_)
              have qv199 := ev190.symm.trans ev199; subst qv199
              refine lv_imul hx hb dX12_readStep_100 (lv_topi (fun v200 ev200 => ?_))
              have ev200i : v200.toInt = (9 * v190.toInt) := i_mul ev200 (by decide) rfl (by omega) (by omega)
              refine lv_iadd hx hb dX12_readStep_101 (lv_topi (fun v201 ev201 => ?_))
              have ev201i : v201.toInt = (2324 + (9 * v190.toInt)) := i_add ev201 (by decide) ev200i (by omega) (by omega)
              refine lv_istore hx hb dX12_readStep_102 hl (by decide) rfl (fun ls hl => ?_)
              replace hl : lv_has ls 5 [(4, .int v201), (3, .int 1), (2, .int v21), (0, .ref h0), (1, .int p1)] := hl
              refine lv_aload_n hx hb dX12_readStep_104 rfl (lv_at hl 3 rfl) ?_
              refine lv_dup hx hb dX12_readStep_105 rfl ?_
              refine q_getI E hC0 g0 fa_RX12_283 dX12_readStep_106 (fun v202 ev202 lv202 uv202 => ?_)
              have qv202 := ev190.symm.trans ev202; subst qv202
              refine lv_iconst (v := 1) hx hb dX12_readStep_109 rfl ?_
              refine lv_iadd hx hb dX12_readStep_110 (lv_topi (fun v203 ev203 => ?_))
              have ev203i : v203.toInt = (v190.toInt + 1) := i_add ev203 rfl (by decide) (by omega) (by omega)
              refine q_put E hC0 hS21 g0 fp_RX12_283 (tv_I ev203i (by omega) (by omega)) rfl rfl dX12_readStep_111 (fun H204 locs204 hC204 hS204 U204 => ?_)
              have hKp204 := Kp.upO E g0 fp_RX12_283 rfl U204 hKp0
              have e205 := up_I U204
              have m206 : (sI H204 h0 (X.1.2 11 25)).toInt = (v190.toInt + 1) := (congrArg Int32.toInt e205).trans ev203i
              replace kb : KB H0 H204 ca (2324 + 9 * (sI H0 h0 (X.1.2 11 25)).toInt) := KB.ne kb U204 (nek g0 gca (by decide))
              have m207 : (sI H204 h0 (X.1.2 11 12)).toInt = (sI H0 h0 (X.1.2 11 12)).toInt := congrArg Int32.toInt (up_nI U204 (ne_f E 11 12 25 rfl (by decide) (by decide) (by decide)))
              refine lv_aload_n hx hb dX12_readStep_114 rfl (lv_at hl 3 rfl) ?_
              refine q_goV (q_runV (As := []) (rest := []) E hC204 hS204 (m_X12_next l X Γ H204 hC204 h0 g0 ca gca uc) cw_X12_next cl_RX12_228 g0 ⟨rfl, rfl⟩ rfl hl.1 rfl (Nat.zero_le _) ⟨by omega, by omega⟩ dX12_readStep_115) hS204 (fun H208 locs208 hr208 hC208 hS208 => ?_)
              obtain ⟨hp208, hr208⟩ := hr208
              have hKp208 := hKp204.tr (hp208.mono rfl)
              replace kb : KB H0 H208 ca (2324 + 9 * (sI H0 h0 (X.1.2 11 25)).toInt) := KB.kp kb hp208 gca rfl
              have m209 : (sI H208 h0 (X.1.2 11 25)).toInt = (sI H204 h0 (X.1.2 11 25)).toInt := congrArg Int32.toInt (kp_I hp208 g0 (k := 25) rfl (by decide) rfl)
              obtain ⟨f208_0, f208_1, f208_2⟩ := hr208
              refine lv_aload_n hx hb dX12_readStep_118 rfl (lv_at hl 3 rfl) ?_
              refine q_getC E hC208 g0 fa_RX12_35 uc dX12_readStep_119 ?_
              refine lv_iload hx hb dX12_readStep_122 (lv_at hl 0 rfl) ?_
              refine lv_iload_n hx hb dX12_readStep_124 rfl (lv_at hl 2 rfl) ?_
              refine q_cast E hC208 hS208 gca (a := (2324 + (9 * v190.toInt))) ev201i (by omega) (by omega) (cs_n244 (a := (2324 + (9 * v190.toInt))) (by omega) (by omega)) dX12_readStep_125 (fun H210 locs210 hC210 hS210 U210 => ?_)
              have hKp210 := Kp.upD gca rfl rfl (fun _ => ⟨fun _ => nd4 (by omega) (by omega), fun _ => by unfold dpu; omega, fun _ => by unfold dpn; omega⟩) U210 hKp208
              replace kb : KB H0 H210 ca (2324 + 9 * (sI H0 h0 (X.1.2 11 25)).toInt) := KB.up kb U210 (by omega)
              have m211 : (sI H210 h0 (X.1.2 11 12)).toInt = (sI H208 h0 (X.1.2 11 12)).toInt := congrArg Int32.toInt (up_nI U210 (ne_k g0 gca (by decide)))
              have m212 : (sI H210 h0 (X.1.2 11 25)).toInt = (sI H208 h0 (X.1.2 11 25)).toInt := congrArg Int32.toInt (up_nI U210 (ne_k g0 gca (by decide)))
              have hck : (sI H210 ca ((2324 + (9 * v190.toInt))).toNat).toInt = v21.toInt := (congrArg Int32.toInt (up_I U210)).trans rfl
              have e213 := up_I U210
              refine lv_aload_n hx hb dX12_readStep_126 rfl (lv_at hl 3 rfl) ?_
              refine lv_iload hx hb dX12_readStep_127 (lv_at hl 0 rfl) ?_
              refine q_goV (q_runV (As := [.int v201]) (rest := []) E hC210 hS210 (m_X12_readRest l X Γ H210 hC210 h0 g0 v201 (a1 := (2324 + (9 * v190.toInt))) ev201i ca gca uc (by omega) (by omega)) cw_X12_readRest cl_RX12_286 g0 ⟨rfl, rfl⟩ rfl hl.1 rfl (Nat.zero_le _) ⟨by omega, by omega⟩ dX12_readStep_129) hS210 (fun H214 locs214 hr214 hC214 hS214 => ?_)
              obtain ⟨hp214, hr214⟩ := hr214
              have hKp214 := hKp210.tr (hp214.mono rfl)
              have m215 : (sI H214 h0 (X.1.2 11 25)).toInt = (sI H210 h0 (X.1.2 11 25)).toInt := congrArg Int32.toInt (kp_I hp214 g0 (k := 25) rfl (by decide) rfl)
              obtain ⟨f214_0, f214_1, f214_2, f214_3, f214_4⟩ := hr214
              have kb : KB H0 H214 ca (2324 + 9 * (sI H0 h0 (X.1.2 11 25)).toInt) := KB.tr kb f214_3 (by omega)
              obtain ⟨zz, hzz⟩ : ∃ z, (sI H214 h0 (X.1.2 11 12)).toInt = z := ⟨_, rfl⟩
              have okp : okP H214 ca (2324 + (9 * v190.toInt)) v21.toInt zz := by have h := f214_4; rw [hck, hzz] at h; exact h
              refine lv_aload_n hx hb dX12_readStep_132 rfl (lv_at hl 3 rfl) ?_
              refine lv_aload_n hx hb dX12_readStep_133 rfl (lv_at hl 3 rfl) ?_
              refine lv_bipush (v := 59) hx hb dX12_readStep_134 rfl ?_
              refine q_goIp (q_runV (As := [.int 59]) (rest := [.ref h0]) E hC214 hS214 (m_X12_isSign l X Γ H214 hC214 h0 g0 59 (a1 := 59) (by decide) ca gca uc) cw_X12_isSign cl_RX12_255 g0 ⟨rfl, rfl⟩ rfl hl.1 rfl (show _ ≤ _ from by simp [Value.category]) ⟨by omega, by omega⟩ dX12_readStep_136) hS214 (fun v216 locs216 hr216 hS216 => ?_)
              have b216 : (v216.toInt = 1 ∧ _) ∨ (v216.toInt = 0 ∧ _) := hr216.imp (fun h => ⟨by rw [h.1]; decide, h.2⟩) (fun h => ⟨by rw [h.1]; decide, h.2⟩)
              refine q_goV (q_runV (As := [.int v216]) (rest := []) E hC214 hS216 (m_X12_must l X Γ H214 hC214 h0 g0 v216 (a1 := v216.toInt) rfl ca gca uc (by omega) (by omega)) cw_X12_must cl_RX12_244 g0 ⟨rfl, rfl⟩ rfl hl.1 rfl (Nat.zero_le _) ⟨by omega, by omega⟩ dX12_readStep_139) hS216 (fun H217 locs217 hr217 hC217 hS217 => ?_)
              obtain ⟨hp217, hr217⟩ := hr217
              have hKp217 := hKp214.tr (hp217.mono rfl)
              replace kb : KB H0 H217 ca (2324 + 9 * (sI H0 h0 (X.1.2 11 25)).toInt) := KB.kp kb hp217 gca rfl
              replace okp : okP H217 ca (2324 + (9 * v190.toInt)) v21.toInt zz := okP.kp okp hp217 gca rfl
              have m218 : (sI H217 h0 (X.1.2 11 25)).toInt = (sI H214 h0 (X.1.2 11 25)).toInt := congrArg Int32.toInt (kp_I hp217 g0 (k := 25) rfl (by decide) rfl)
              obtain ⟨f217_0, f217_1, f217_2, f217_3, f217_4⟩ := hr217
              have L142 : ∀ (n219 : Nat) (H219 : Heap) (locs219 : List Loc) (ls : Array Slot), 0 < n219 ∧ ((sI H219 h0 (X.1.2 11 12)).toInt ≠ 0 ∨ 32 - (sI H219 h0 (X.1.2 11 25)).toInt < n219) → (sI H0 h0 (X.1.2 11 25)).toInt + 1 ≤ (sI H219 h0 (X.1.2 11 25)).toInt → (sI H0 h0 (X.1.2 11 12)).toInt ≤ 7 * (sI H219 h0 (X.1.2 11 12)).toInt → (1 = 1 → (sI H219 h0 (X.1.2 11 12)).toInt = 0 → a1 ≤ 2) → zz ≤ 7 * (sI H219 h0 (X.1.2 11 12)).toInt → SWc (sI H219 h0 (X.1.2 11 12)).toInt H219 ca ((sI H0 h0 (X.1.2 11 25)).toInt + 1) (sI H219 h0 (X.1.2 11 25)).toInt → Conf X Γ H219 → va_S (AΓ Γ) H0 H219 locs219 → Kp X Γ [1, 6, 7, 8, 9, 10, 11, 12, 16, 17, 19, 22, 24, 26, 28] H0 H219 → (KB H0 H219 ca (2324 + 9 * (sI H0 h0 (X.1.2 11 25)).toInt)) → (okP H219 ca (2324 + (9 * v190.toInt)) v21.toInt zz) → lv_has ls 5 [(4, .int v201), (3, .int 1), (2, .int v21), (0, .ref h0), (1, .int p1)] → W p l e (rmL (6 + d)) s m args below meth c H219 locs219 0 0 Qz (F0 m 142 ls []) := by
                intro n219
                induction n219 with
                | zero => intro H219 locs219 ls hm219 iv219_0 iv219_1 iv219_2 iv219_3 iv219_4 hC219 hS219 hKp219 kb okp hl; exact absurd hm219 (by omega)
                | succ n219 ih219 =>
                  intro H219 locs219 ls hm219 iv219_0 iv219_1 iv219_2 iv219_3 iv219_4 hC219 hS219 hKp219 kb okp hl
                  have hb1 := f_bd hC219 g0 (ci := 11) (k := 25) rfl rfl
                  have hb2 := f_bd hC219 g0 (ci := 11) (k := 12) rfl rfl
                  have swi := iv219_4
                  obtain ⟨nL, hnL⟩ : ∃ z, (sI H219 h0 (X.1.2 11 25)).toInt = z := ⟨_, rfl⟩
                  obtain ⟨bL, hbL⟩ : ∃ z, (sI H219 h0 (X.1.2 11 12)).toInt = z := ⟨_, rfl⟩
                  have sw : SWc bL H219 ca ((sI H0 h0 (X.1.2 11 25)).toInt + 1) nL := by have h := iv219_4; rw [hnL, hbL] at h; exact h
                  refine lv_iload_n hx hb dX12_readStep_142 rfl (lv_at hl 1 rfl) ?_
                  refine q_if_eq hx hb (a := 1) (by decide) (tgt := 170) dX12_readStep_143 rfl (fun c220 => absurd c220 (by omega)) (fun c220 => ?_)
                  refine lv_aload_n hx hb dX12_readStep_146 rfl (lv_at hl 3 rfl) ?_
                  refine q_getI E hC219 g0 fa_RX12_218 dX12_readStep_147 (fun v221 ev221 lv221 uv221 => ?_)
                  have m222 : (sI H219 h0 (X.1.2 11 12)).toInt = v221.toInt := (congrArg Int32.toInt ev221).trans rfl
                  refine q_if_ne hx hb (a := v221.toInt) rfl (tgt := 170) dX12_readStep_150 rfl (fun c223 => ?_) (fun c223 => ?_)
                  · refine lv_iload_n hx hb dX12_readStep_170 rfl (lv_at hl 1 rfl) ?_
                    refine q_if_eq hx hb (a := 1) (by decide) (tgt := 192) dX12_readStep_171 rfl (fun c224 => absurd c224 (by omega)) (fun c224 => ?_)
                    refine lv_aload_n hx hb dX12_readStep_174 rfl (lv_at hl 3 rfl) ?_
                    refine lv_aload_n hx hb dX12_readStep_175 rfl (lv_at hl 3 rfl) ?_
                    refine q_goIp (q_runV (As := []) (rest := [.ref h0]) E hC219 hS219 (m_X12_isEnd l X Γ H219 hC219 h0 g0 ca gca uc) cw_X12_isEnd cl_RX12_215 g0 ⟨rfl, rfl⟩ rfl hl.1 rfl (show _ ≤ _ from by simp [Value.category]) ⟨by omega, by omega⟩ dX12_readStep_176) hS219 (fun v225 locs225 hr225 hS225 => ?_)
                    have b225 : v225.toInt = 0 ∨ v225.toInt = 1 := hr225.imp (fun h => by rw [h]; decide) (fun h => by rw [h]; decide)
                    refine q_goV (q_runV (As := [.int v225]) (rest := []) E hC219 hS225 (m_X12_must l X Γ H219 hC219 h0 g0 v225 (a1 := v225.toInt) rfl ca gca uc (by omega) (by omega)) cw_X12_must cl_RX12_244 g0 ⟨rfl, rfl⟩ rfl hl.1 rfl (Nat.zero_le _) ⟨by omega, by omega⟩ dX12_readStep_179) hS225 (fun H226 locs226 hr226 hC226 hS226 => ?_)
                    obtain ⟨hp226, hr226⟩ := hr226
                    have hKp226 := hKp219.tr (hp226.mono rfl)
                    replace kb : KB H0 H226 ca (2324 + 9 * (sI H0 h0 (X.1.2 11 25)).toInt) := KB.kp kb hp226 gca rfl
                    replace okp : okP H226 ca (2324 + (9 * v190.toInt)) v21.toInt zz := okP.kp okp hp226 gca rfl
                    replace sw : SWc bL H226 ca ((sI H0 h0 (X.1.2 11 25)).toInt + 1) nL := SWc.kp sw hp226 gca rfl (by omega)
                    have m227 : (sI H226 h0 (X.1.2 11 25)).toInt = (sI H219 h0 (X.1.2 11 25)).toInt := congrArg Int32.toInt (kp_I hp226 g0 (k := 25) rfl (by decide) rfl)
                    obtain ⟨f226_0, f226_1, f226_2, f226_3, f226_4⟩ := hr226
                    refine lv_aload_n hx hb dX12_readStep_182 rfl (lv_at hl 3 rfl) ?_
                    refine lv_aload_n hx hb dX12_readStep_183 rfl (lv_at hl 3 rfl) ?_
                    refine lv_bipush (v := 59) hx hb dX12_readStep_184 rfl ?_
                    refine q_goIp (q_runV (As := [.int 59]) (rest := [.ref h0]) E hC226 hS226 (m_X12_isSign l X Γ H226 hC226 h0 g0 59 (a1 := 59) (by decide) ca gca uc) cw_X12_isSign cl_RX12_255 g0 ⟨rfl, rfl⟩ rfl hl.1 rfl (show _ ≤ _ from by simp [Value.category]) ⟨by omega, by omega⟩ dX12_readStep_186) hS226 (fun v228 locs228 hr228 hS228 => ?_)
                    have b228 : (v228.toInt = 1 ∧ _) ∨ (v228.toInt = 0 ∧ _) := hr228.imp (fun h => ⟨by rw [h.1]; decide, h.2⟩) (fun h => ⟨by rw [h.1]; decide, h.2⟩)
                    refine q_goV (q_runV (As := [.int v228]) (rest := []) E hC226 hS228 (m_X12_must l X Γ H226 hC226 h0 g0 v228 (a1 := v228.toInt) rfl ca gca uc (by omega) (by omega)) cw_X12_must cl_RX12_244 g0 ⟨rfl, rfl⟩ rfl hl.1 rfl (Nat.zero_le _) ⟨by omega, by omega⟩ dX12_readStep_189) hS228 (fun H229 locs229 hr229 hC229 hS229 => ?_)
                    obtain ⟨hp229, hr229⟩ := hr229
                    have hKp229 := hKp226.tr (hp229.mono rfl)
                    replace kb : KB H0 H229 ca (2324 + 9 * (sI H0 h0 (X.1.2 11 25)).toInt) := KB.kp kb hp229 gca rfl
                    replace okp : okP H229 ca (2324 + (9 * v190.toInt)) v21.toInt zz := okP.kp okp hp229 gca rfl
                    replace sw : SWc bL H229 ca ((sI H0 h0 (X.1.2 11 25)).toInt + 1) nL := SWc.kp sw hp229 gca rfl (by omega)
                    have m230 : (sI H229 h0 (X.1.2 11 25)).toInt = (sI H226 h0 (X.1.2 11 25)).toInt := congrArg Int32.toInt (kp_I hp229 g0 (k := 25) rfl (by decide) rfl)
                    obtain ⟨f229_0, f229_1, f229_2, f229_3, f229_4⟩ := hr229
                    refine lv_aload_n hx hb dX12_readStep_192 rfl (lv_at hl 3 rfl) ?_
                    refine q_getC E hC229 g0 fa_RX12_35 uc dX12_readStep_193 ?_
                    refine lv_iload hx hb dX12_readStep_196 (lv_at hl 0 rfl) ?_
                    refine lv_bipush (v := 8) hx hb dX12_readStep_198 rfl ?_
                    refine lv_iadd hx hb dX12_readStep_200 (lv_topi (fun v231 ev231 => ?_))
                    have ev231i : v231.toInt = ((2324 + (9 * v190.toInt)) + 8) := i_add ev231 ev201i (by decide) (by omega) (by omega)
                    refine lv_aload_n hx hb dX12_readStep_201 rfl (lv_at hl 3 rfl) ?_
                    refine q_getI E hC229 g0 fa_RX12_283 dX12_readStep_202 (fun v232 ev232 lv232 uv232 => ?_)
                    have m233 : (sI H229 h0 (X.1.2 11 25)).toInt = v232.toInt := (congrArg Int32.toInt ev232).trans rfl
                    refine q_cast E hC229 hS229 gca (a := ((2324 + (9 * v190.toInt)) + 8)) ev231i (by omega) (by omega) (cs_n244 (a := ((2324 + (9 * v190.toInt)) + 8)) (by omega) (by omega)) dX12_readStep_205 (fun H234 locs234 hC234 hS234 U234 => ?_)
                    have hKp234 := Kp.upD gca rfl rfl (fun _ => ⟨fun _ => nd4 (by omega) (by omega), fun _ => by unfold dpu; omega, fun _ => by unfold dpn; omega⟩) U234 hKp229
                    replace kb : KB H0 H234 ca (2324 + 9 * (sI H0 h0 (X.1.2 11 25)).toInt) := KB.up kb U234 (by omega)
                    replace okp : okP H234 ca (2324 + (9 * v190.toInt)) v21.toInt zz := okP.up okp U234 (by omega) (by omega)
                    replace sw : SWc bL H234 ca ((sI H0 h0 (X.1.2 11 25)).toInt + 1) nL := SWc.up sw U234 (by omega) (by omega)
                    have m235 : (sI H234 h0 (X.1.2 11 12)).toInt = (sI H229 h0 (X.1.2 11 12)).toInt := congrArg Int32.toInt (up_nI U234 (ne_k g0 gca (by decide)))
                    have m236 : (sI H234 h0 (X.1.2 11 25)).toInt = (sI H229 h0 (X.1.2 11 25)).toInt := congrArg Int32.toInt (up_nI U234 (ne_k g0 gca (by decide)))
                    have hce : (sI H234 ca ((2324 + (9 * v190.toInt)) + 8).toNat).toInt = v232.toInt := (congrArg Int32.toInt (up_I U234)).trans rfl
                    have e237 := up_I U234
                    have swf : SWc (sI H234 h0 (X.1.2 11 12)).toInt H234 ca (sI H0 h0 (X.1.2 11 25)).toInt (sI H234 h0 (X.1.2 11 25)).toInt := fun hz => SWn.one (k := v21.toInt) (w := (2324 + (9 * v190.toInt))) (by have h0 : zz = 0 := (by omega); rw [h0] at okp; exact okp) (by omega) ⟨by omega, by omega⟩ hce (by omega) (by omega) (by have h := sw (by omega); rw [show nL = (sI H234 h0 (X.1.2 11 25)).toInt from (by omega)] at h; exact h)
                    exact ret H234 locs234 _ _ dX12_readStep_206 ⟨hKp234, ⟨by omega, by omega, by omega, by omega, by omega, kb, swf⟩⟩ hC234 hS234
                  · refine lv_aload_n hx hb dX12_readStep_153 rfl (lv_at hl 3 rfl) ?_
                    refine q_goIp (q_runV (As := []) (rest := []) E hC219 hS219 (m_X12_isEnd l X Γ H219 hC219 h0 g0 ca gca uc) cw_X12_isEnd cl_RX12_215 g0 ⟨rfl, rfl⟩ rfl hl.1 rfl (Nat.zero_le _) ⟨by omega, by omega⟩ dX12_readStep_154) hS219 (fun v238 locs238 hr238 hS238 => ?_)
                    rcases hr238 with rfl | rfl
                    · refine q_if_ne hx hb (a := 0) (by decide) (tgt := 170) dX12_readStep_157 rfl (fun c239 => absurd c239 (by omega)) (fun c239 => ?_)
                      refine lv_aload_n hx hb dX12_readStep_160 rfl (lv_at hl 3 rfl) ?_
                      refine lv_iload_n hx hb dX12_readStep_161 rfl (lv_at hl 4 rfl) ?_
                      refine lv_iconst (v := 1) hx hb dX12_readStep_162 rfl ?_
                      refine lv_iadd hx hb dX12_readStep_163 (lv_topi (fun v240 ev240 => ?_))
                      have ev240i : v240.toInt = (a1 + 1) := i_add ev240 e1 (by decide) (by omega) (by omega)
                      refine q_goV (q_runV (As := [.int v240]) (rest := []) E hC219 hS238 (IH (d - 1) (by omega) H219 hC219 h0 g0 v240 (a1 := (a1 + 1)) ev240i ca gca uc (by omega) (by omega) (by omega)) cw_X12_readStep cl_RX12_289 g0 ⟨rfl, rfl⟩ rfl hl.1 rfl (Nat.zero_le _) ⟨by omega, by omega⟩ dX12_readStep_164) hS238 (fun H241 locs241 hr241 hC241 hS241 => ?_)
                      obtain ⟨hp241, hr241⟩ := hr241
                      have hKp241 := hKp219.tr (hp241.mono rfl)
                      obtain ⟨f241_0, f241_1, f241_2, f241_3, f241_4, f241_5, f241_6⟩ := hr241
                      have kb : KB H0 H241 ca (2324 + 9 * (sI H0 h0 (X.1.2 11 25)).toInt) := KB.tr kb f241_5 (by omega)
                      have okp : okP H241 ca (2324 + (9 * v190.toInt)) v21.toInt zz := okP.kb okp f241_5 (by omega) (by omega)
                      have swi : SWc (sI H241 h0 (X.1.2 11 12)).toInt H241 ca ((sI H0 h0 (X.1.2 11 25)).toInt + 1) (sI H241 h0 (X.1.2 11 25)).toInt := SWc.step swi f241_5 f241_6 (by omega) (by omega) (by omega) (by omega)
                      refine lv_goto (tgt := 142) hx hb dX12_readStep_167 rfl ?_
                      exact ih219 H241 locs241 ls (by omega) (by omega) (by omega) (by omega) (by omega) (swi) hC241 hS241 hKp241 kb okp hl
                    · refine q_if_ne hx hb (a := 1) (by decide) (tgt := 170) dX12_readStep_157 rfl (fun c242 => ?_) (fun c242 => absurd c242 (by omega))
                      refine lv_iload_n hx hb dX12_readStep_170 rfl (lv_at hl 1 rfl) ?_
                      refine q_if_eq hx hb (a := 1) (by decide) (tgt := 192) dX12_readStep_171 rfl (fun c243 => absurd c243 (by omega)) (fun c243 => ?_)
                      refine lv_aload_n hx hb dX12_readStep_174 rfl (lv_at hl 3 rfl) ?_
                      refine lv_aload_n hx hb dX12_readStep_175 rfl (lv_at hl 3 rfl) ?_
                      refine q_goIp (q_runV (As := []) (rest := [.ref h0]) E hC219 hS238 (m_X12_isEnd l X Γ H219 hC219 h0 g0 ca gca uc) cw_X12_isEnd cl_RX12_215 g0 ⟨rfl, rfl⟩ rfl hl.1 rfl (show _ ≤ _ from by simp [Value.category]) ⟨by omega, by omega⟩ dX12_readStep_176) hS238 (fun v244 locs244 hr244 hS244 => ?_)
                      have b244 : v244.toInt = 0 ∨ v244.toInt = 1 := hr244.imp (fun h => by rw [h]; decide) (fun h => by rw [h]; decide)
                      refine q_goV (q_runV (As := [.int v244]) (rest := []) E hC219 hS244 (m_X12_must l X Γ H219 hC219 h0 g0 v244 (a1 := v244.toInt) rfl ca gca uc (by omega) (by omega)) cw_X12_must cl_RX12_244 g0 ⟨rfl, rfl⟩ rfl hl.1 rfl (Nat.zero_le _) ⟨by omega, by omega⟩ dX12_readStep_179) hS244 (fun H245 locs245 hr245 hC245 hS245 => ?_)
                      obtain ⟨hp245, hr245⟩ := hr245
                      have hKp245 := hKp219.tr (hp245.mono rfl)
                      replace kb : KB H0 H245 ca (2324 + 9 * (sI H0 h0 (X.1.2 11 25)).toInt) := KB.kp kb hp245 gca rfl
                      replace okp : okP H245 ca (2324 + (9 * v190.toInt)) v21.toInt zz := okP.kp okp hp245 gca rfl
                      replace sw : SWc bL H245 ca ((sI H0 h0 (X.1.2 11 25)).toInt + 1) nL := SWc.kp sw hp245 gca rfl (by omega)
                      have m246 : (sI H245 h0 (X.1.2 11 25)).toInt = (sI H219 h0 (X.1.2 11 25)).toInt := congrArg Int32.toInt (kp_I hp245 g0 (k := 25) rfl (by decide) rfl)
                      obtain ⟨f245_0, f245_1, f245_2, f245_3, f245_4⟩ := hr245
                      refine lv_aload_n hx hb dX12_readStep_182 rfl (lv_at hl 3 rfl) ?_
                      refine lv_aload_n hx hb dX12_readStep_183 rfl (lv_at hl 3 rfl) ?_
                      refine lv_bipush (v := 59) hx hb dX12_readStep_184 rfl ?_
                      refine q_goIp (q_runV (As := [.int 59]) (rest := [.ref h0]) E hC245 hS245 (m_X12_isSign l X Γ H245 hC245 h0 g0 59 (a1 := 59) (by decide) ca gca uc) cw_X12_isSign cl_RX12_255 g0 ⟨rfl, rfl⟩ rfl hl.1 rfl (show _ ≤ _ from by simp [Value.category]) ⟨by omega, by omega⟩ dX12_readStep_186) hS245 (fun v247 locs247 hr247 hS247 => ?_)
                      have b247 : (v247.toInt = 1 ∧ _) ∨ (v247.toInt = 0 ∧ _) := hr247.imp (fun h => ⟨by rw [h.1]; decide, h.2⟩) (fun h => ⟨by rw [h.1]; decide, h.2⟩)
                      refine q_goV (q_runV (As := [.int v247]) (rest := []) E hC245 hS247 (m_X12_must l X Γ H245 hC245 h0 g0 v247 (a1 := v247.toInt) rfl ca gca uc (by omega) (by omega)) cw_X12_must cl_RX12_244 g0 ⟨rfl, rfl⟩ rfl hl.1 rfl (Nat.zero_le _) ⟨by omega, by omega⟩ dX12_readStep_189) hS247 (fun H248 locs248 hr248 hC248 hS248 => ?_)
                      obtain ⟨hp248, hr248⟩ := hr248
                      have hKp248 := hKp245.tr (hp248.mono rfl)
                      replace kb : KB H0 H248 ca (2324 + 9 * (sI H0 h0 (X.1.2 11 25)).toInt) := KB.kp kb hp248 gca rfl
                      replace okp : okP H248 ca (2324 + (9 * v190.toInt)) v21.toInt zz := okP.kp okp hp248 gca rfl
                      replace sw : SWc bL H248 ca ((sI H0 h0 (X.1.2 11 25)).toInt + 1) nL := SWc.kp sw hp248 gca rfl (by omega)
                      have m249 : (sI H248 h0 (X.1.2 11 25)).toInt = (sI H245 h0 (X.1.2 11 25)).toInt := congrArg Int32.toInt (kp_I hp248 g0 (k := 25) rfl (by decide) rfl)
                      obtain ⟨f248_0, f248_1, f248_2, f248_3, f248_4⟩ := hr248
                      refine lv_aload_n hx hb dX12_readStep_192 rfl (lv_at hl 3 rfl) ?_
                      refine q_getC E hC248 g0 fa_RX12_35 uc dX12_readStep_193 ?_
                      refine lv_iload hx hb dX12_readStep_196 (lv_at hl 0 rfl) ?_
                      refine lv_bipush (v := 8) hx hb dX12_readStep_198 rfl ?_
                      refine lv_iadd hx hb dX12_readStep_200 (lv_topi (fun v250 ev250 => ?_))
                      have ev250i : v250.toInt = ((2324 + (9 * v190.toInt)) + 8) := i_add ev250 ev201i (by decide) (by omega) (by omega)
                      refine lv_aload_n hx hb dX12_readStep_201 rfl (lv_at hl 3 rfl) ?_
                      refine q_getI E hC248 g0 fa_RX12_283 dX12_readStep_202 (fun v251 ev251 lv251 uv251 => ?_)
                      have m252 : (sI H248 h0 (X.1.2 11 25)).toInt = v251.toInt := (congrArg Int32.toInt ev251).trans rfl
                      refine q_cast E hC248 hS248 gca (a := ((2324 + (9 * v190.toInt)) + 8)) ev250i (by omega) (by omega) (cs_n244 (a := ((2324 + (9 * v190.toInt)) + 8)) (by omega) (by omega)) dX12_readStep_205 (fun H253 locs253 hC253 hS253 U253 => ?_)
                      have hKp253 := Kp.upD gca rfl rfl (fun _ => ⟨fun _ => nd4 (by omega) (by omega), fun _ => by unfold dpu; omega, fun _ => by unfold dpn; omega⟩) U253 hKp248
                      replace kb : KB H0 H253 ca (2324 + 9 * (sI H0 h0 (X.1.2 11 25)).toInt) := KB.up kb U253 (by omega)
                      replace okp : okP H253 ca (2324 + (9 * v190.toInt)) v21.toInt zz := okP.up okp U253 (by omega) (by omega)
                      replace sw : SWc bL H253 ca ((sI H0 h0 (X.1.2 11 25)).toInt + 1) nL := SWc.up sw U253 (by omega) (by omega)
                      have m254 : (sI H253 h0 (X.1.2 11 12)).toInt = (sI H248 h0 (X.1.2 11 12)).toInt := congrArg Int32.toInt (up_nI U253 (ne_k g0 gca (by decide)))
                      have m255 : (sI H253 h0 (X.1.2 11 25)).toInt = (sI H248 h0 (X.1.2 11 25)).toInt := congrArg Int32.toInt (up_nI U253 (ne_k g0 gca (by decide)))
                      have hce : (sI H253 ca ((2324 + (9 * v190.toInt)) + 8).toNat).toInt = v251.toInt := (congrArg Int32.toInt (up_I U253)).trans rfl
                      have e256 := up_I U253
                      have swf : SWc (sI H253 h0 (X.1.2 11 12)).toInt H253 ca (sI H0 h0 (X.1.2 11 25)).toInt (sI H253 h0 (X.1.2 11 25)).toInt := fun hz => SWn.one (k := v21.toInt) (w := (2324 + (9 * v190.toInt))) (by have h0 : zz = 0 := (by omega); rw [h0] at okp; exact okp) (by omega) ⟨by omega, by omega⟩ hce (by omega) (by omega) (by have h := sw (by omega); rw [show nL = (sI H253 h0 (X.1.2 11 25)).toInt from (by omega)] at h; exact h)
                      exact ret H253 locs253 _ _ dX12_readStep_206 ⟨hKp253, ⟨by omega, by omega, by omega, by omega, by omega, kb, swf⟩⟩ hC253 hS253
              exact L142 33 H217 locs217 ls (by omega) (by omega) (by omega) (by omega) (by omega) (fun _ => SWn.nil (by omega)) hC217 hS217 hKp217 kb okp hl
            · refine lv_aload_n hx hb dX12_readStep_73 rfl (lv_at hl 2 rfl) ?_
              refine lv_bipush (v := 7) hx hb dX12_readStep_74 rfl ?_
              refine lv_aload_n hx hb dX12_readStep_76 rfl (lv_at hl 2 rfl) ?_
              refine q_getI E hC0 g0 fa_RX12_114 dX12_readStep_77 (fun v257 ev257 lv257 uv257 => ?_)
              refine q_goV (q_runV (As := [.int 7, .int v257]) (rest := []) E hC0 hS21 (m_X12_fail l X Γ H0 hC0 h0 g0 7 (a1 := 7) (by decide) v257 (a2 := v257.toInt) rfl ca gca uc (by omega) (by omega)) cw_X12_fail cl_RX12_224 g0 ⟨rfl, rfl⟩ rfl hl.1 rfl (Nat.zero_le _) ⟨by omega, by omega⟩ dX12_readStep_80) hS21 (fun H258 locs258 hr258 hC258 hS258 => ?_)
              obtain ⟨hp258, hr258⟩ := hr258
              have hKp258 := hKp0.tr (hp258.mono rfl)
              replace kb : KB H0 H258 ca (2324 + 9 * (sI H0 h0 (X.1.2 11 25)).toInt) := KB.kp kb hp258 gca rfl
              have m259 : (sI H258 h0 (X.1.2 11 25)).toInt = (sI H0 h0 (X.1.2 11 25)).toInt := congrArg Int32.toInt (kp_I hp258 g0 (k := 25) rfl (by decide) rfl)
              obtain ⟨f258_0, f258_1, f258_2, f258_3⟩ := hr258
              refine lv_aload_n hx hb dX12_readStep_83 rfl (lv_at hl 2 rfl) ?_
              refine q_getI E hC258 g0 fa_RX12_218 dX12_readStep_84 (fun v260 ev260 lv260 uv260 => ?_)
              have m261 : (sI H258 h0 (X.1.2 11 12)).toInt = v260.toInt := (congrArg Int32.toInt ev260).trans rfl
              refine q_if_le hx hb (a := v260.toInt) rfl (tgt := 91) dX12_readStep_87 rfl (fun c262 => absurd c262 (by omega)) (fun c262 => ?_)
              have e263 := (kp_I hp258 g0 (k := 25) rfl (by decide) rfl).trans ev190
              have m264 : (sI H258 h0 (X.1.2 11 25)).toInt = v190.toInt := (congrArg Int32.toInt e263).trans rfl
              have swf : SWc (sI H258 h0 (X.1.2 11 12)).toInt H258 ca (sI H0 h0 (X.1.2 11 25)).toInt (sI H258 h0 (X.1.2 11 25)).toInt := fun h => absurd h (by omega)
              exact ret H258 locs258 _ _ dX12_readStep_90 ⟨hKp258, ⟨by omega, by omega, by omega, by omega, by omega, kb, swf⟩⟩ hC258 hS258
          · refine lv_aload_n hx hb dX12_readStep_47 rfl (lv_at hl 2 rfl) ?_
            refine lv_bipush (v := 6) hx hb dX12_readStep_48 rfl ?_
            refine lv_aload_n hx hb dX12_readStep_50 rfl (lv_at hl 2 rfl) ?_
            refine q_getI E hC0 g0 fa_RX12_114 dX12_readStep_51 (fun v265 ev265 lv265 uv265 => ?_)
            refine q_goV (q_runV (As := [.int 6, .int v265]) (rest := []) E hC0 hS21 (m_X12_fail l X Γ H0 hC0 h0 g0 6 (a1 := 6) (by decide) v265 (a2 := v265.toInt) rfl ca gca uc (by omega) (by omega)) cw_X12_fail cl_RX12_224 g0 ⟨rfl, rfl⟩ rfl hl.1 rfl (Nat.zero_le _) ⟨by omega, by omega⟩ dX12_readStep_54) hS21 (fun H266 locs266 hr266 hC266 hS266 => ?_)
            obtain ⟨hp266, hr266⟩ := hr266
            have hKp266 := hKp0.tr (hp266.mono rfl)
            replace kb : KB H0 H266 ca (2324 + 9 * (sI H0 h0 (X.1.2 11 25)).toInt) := KB.kp kb hp266 gca rfl
            have m267 : (sI H266 h0 (X.1.2 11 25)).toInt = (sI H0 h0 (X.1.2 11 25)).toInt := congrArg Int32.toInt (kp_I hp266 g0 (k := 25) rfl (by decide) rfl)
            obtain ⟨f266_0, f266_1, f266_2, f266_3⟩ := hr266
            refine lv_aload_n hx hb dX12_readStep_57 rfl (lv_at hl 2 rfl) ?_
            refine q_getI E hC266 g0 fa_RX12_218 dX12_readStep_58 (fun v268 ev268 lv268 uv268 => ?_)
            have m269 : (sI H266 h0 (X.1.2 11 12)).toInt = v268.toInt := (congrArg Int32.toInt ev268).trans rfl
            refine q_if_ne hx hb (a := v268.toInt) rfl (tgt := 83) dX12_readStep_61 rfl (fun c270 => ?_) (fun c270 => absurd c270 (by omega))
            refine lv_aload_n hx hb dX12_readStep_83 rfl (lv_at hl 2 rfl) ?_
            refine q_getI E hC266 g0 fa_RX12_218 dX12_readStep_84 (fun v271 ev271 lv271 uv271 => ?_)
            have qv271 := ev268.symm.trans ev271; subst qv271
            refine q_if_le hx hb (a := v268.toInt) rfl (tgt := 91) dX12_readStep_87 rfl (fun c272 => absurd c272 (by omega)) (fun c272 => ?_)
            have e273 := (kp_I hp266 g0 (k := 25) rfl (by decide) rfl).trans ev190
            have m274 : (sI H266 h0 (X.1.2 11 25)).toInt = v190.toInt := (congrArg Int32.toInt e273).trans rfl
            have swf : SWc (sI H266 h0 (X.1.2 11 12)).toInt H266 ca (sI H0 h0 (X.1.2 11 25)).toInt (sI H266 h0 (X.1.2 11 25)).toInt := fun h => absurd h (by omega)
            exact ret H266 locs266 _ _ dX12_readStep_90 ⟨hKp266, ⟨by omega, by omega, by omega, by omega, by omega, kb, swf⟩⟩ hC266 hS266
