set_option maxRecDepth 100000 in
set_option maxHeartbeats 4000000 in
theorem m_X12_fall (l : Launch) (X : xW) (Γ : Nat → Option Nat) (H0 : Heap) (hC0 : Conf X Γ H0) (h0 : Nat) (g0 : Γ h0 = some 11) (p1 : Int32) {a1 : Int} (e1 : p1.toInt = a1) (ca : Nat) (gca : Γ ca = some 64) (uc : ∀ a, Γ a = some 64 → a = ca) : Ctr l X Γ yX12_fall cX12_fall 2 (some .int) 2 [.ref h0, .int p1] H0 (QI X Γ (fun v H1 => Kp X Γ [1, 6, 7, 8, 9, 10, 11, 12, 14, 16, 17, 19, 22, 24, 26, 28] H0 H1 ∧ (True))) := by
  refine q_enterI (own := "SnowFortsModel") (by decide) rfl (Nat.le_of_ble_eq_true rfl) ?_
  intro p e s m args below meth c ls Qz E hl ret hS0
  have hx := E.1; have hb := E.2.1
  have hKp0 : Kp X Γ [1, 6, 7, 8, 9, 10, 11, 12, 14, 16, 17, 19, 22, 24, 26, 28] H0 H0 := Kp.rf
  have hl : lv_has ls 2 [(0, .ref h0), (1, .int p1)] := hl
  refine lv_aload_n hx hb dX12_fall_0 rfl (lv_at hl 0 rfl) ?_
  refine lv_iconst (v := 0) hx hb dX12_fall_1 rfl ?_
  refine q_put E hC0 hS0 g0 fp_RX12_69 tv_F rfl rfl dX12_fall_2 (fun H21 locs21 hC21 hS21 U21 => ?_)
  have hKp21 := Kp.upO E g0 fp_RX12_69 rfl U21 hKp0
  have e22 := up_I U21
  refine lv_aload_n hx hb dX12_fall_5 rfl (lv_at hl 0 rfl) ?_
  refine lv_iconst (v := 0) hx hb dX12_fall_6 rfl ?_
  refine q_put E hC21 hS21 g0 fp_RX12_72 tv_F rfl rfl dX12_fall_7 (fun H23 locs23 hC23 hS23 U23 => ?_)
  have hKp23 := Kp.upO E g0 fp_RX12_72 rfl U23 hKp21
  have e24 := up_I U23
  refine lv_iload_n hx hb dX12_fall_10 rfl (lv_at hl 1 rfl) ?_
  refine lv_i2l (v := p1.toInt64) hx hb dX12_fall_11 rfl (lv_topl (fun v25 ev25 => ?_))
  have ev25i : v25.toInt = a1 := l_ofi ev25.symm e1
  refine lv_lconst (v := 0) hx hb dX12_fall_12 rfl ?_
  refine lv_ldc2 (v := 40) hx hb E.2.2.2.1 (E.2.2.2.2.1 _ w_1726) dX12_fall_13 ?_
  refine q_goIp (q_runS (As := [.long v25, .long 0, .long 40]) (rest := []) E hS23 (m_X12_isIn l X Γ H23 hC23 v25 (a0 := a1) ev25i 0 (a1 := 0) (show (0 : Int64).toInt = 0 from by decide) 40 (a2 := 40) (show (40 : Int64).toInt = 40 from by decide)) cw_X12_isIn cl_RX12_104 rfl hl.1 rfl (Nat.zero_le _) (by decide) dX12_fall_16) hS23 (fun v26 locs26 hr26 hS26 => ?_)
  rcases hr26 with ⟨rfl, f26a0, f26a1⟩ | ⟨rfl, f26b⟩
  · refine q_if_eq hx hb (a := 1) (by decide) (tgt := 30) dX12_fall_19 rfl (fun c27 => absurd c27 (by omega)) (fun c27 => ?_)
    refine lv_aload_n hx hb dX12_fall_22 rfl (lv_at hl 0 rfl) ?_
    refine lv_iload_n hx hb dX12_fall_23 rfl (lv_at hl 1 rfl) ?_
    refine q_goI (q_runV (As := [.int p1]) (rest := []) E hC23 hS26 (m_X12_falls l X Γ H23 hC23 h0 g0 p1 (a1 := a1) e1 ca gca uc (by omega) (by omega)) cw_X12_falls cl_RX12_317 g0 ⟨rfl, rfl⟩ rfl hl.1 rfl (Nat.zero_le _) (by decide) dX12_fall_24) hS26 (fun v28 H28 locs28 hr28 hC28 hS28 => ?_)
    obtain ⟨hp28, hr28⟩ := hr28
    have hKp28 := hKp23.tr (hp28.mono rfl)
    refine lv_goto (tgt := 35) hx hb dX12_fall_27 rfl ?_
    exact ret v28 H28 locs28 _ _ dX12_fall_35 ⟨hKp28, trivial⟩ hC28 hS28
  · refine q_if_eq hx hb (a := 0) (by decide) (tgt := 30) dX12_fall_19 rfl (fun c29 => ?_) (fun c29 => absurd c29 (by omega))
    refine lv_aload_n hx hb dX12_fall_30 rfl (lv_at hl 0 rfl) ?_
    refine lv_iconst (v := 5) hx hb dX12_fall_31 rfl ?_
    refine q_goI (q_runV (As := [.int 5]) (rest := []) E hC23 hS26 (m_X12_refuse l X Γ H23 hC23 h0 g0 5 (a1 := 5) (by decide) ca gca uc) cw_X12_refuse cl_RX12_298 g0 ⟨rfl, rfl⟩ rfl hl.1 rfl (Nat.zero_le _) (by decide) dX12_fall_32) hS26 (fun v30 H30 locs30 hr30 hC30 hS30 => ?_)
    obtain ⟨hp30, hr30⟩ := hr30
    have hKp30 := hKp23.tr (hp30.mono rfl)
    have f30_0 := hr30
    exact ret v30 H30 locs30 _ _ dX12_fall_35 ⟨hKp30, trivial⟩ hC30 hS30
set_option maxRecDepth 100000 in
set_option maxHeartbeats 4000000 in
theorem m_X12_thaws (l : Launch) (X : xW) (Γ : Nat → Option Nat) (H0 : Heap) (hC0 : Conf X Γ H0) (h0 : Nat) (g0 : Γ h0 = some 11) (p1 : Int32) {a1 : Int} (e1 : p1.toInt = a1) (ca : Nat) (gca : Γ ca = some 64) (uc : ∀ a, Γ a = some 64 → a = ca) (r0 : 0 ≤ a1) (r1 : a1 ≤ 40) : Ctr l X Γ yX12_thaws cX12_thaws 9 (some .int) 1 [.ref h0, .int p1] H0 (QI X Γ (fun v H1 => Kp X Γ [1, 6, 7, 8, 9, 10, 11, 12, 14, 16, 17, 19, 22, 24, 26, 28] H0 H1 ∧ (True))) := by
  refine q_enterI (own := "SnowFortsModel") (by decide) rfl (Nat.le_of_ble_eq_true rfl) ?_
  intro p e s m args below meth c ls Qz E hl ret hS0
  have hx := E.1; have hb := E.2.1
  have hKp0 : Kp X Γ [1, 6, 7, 8, 9, 10, 11, 12, 14, 16, 17, 19, 22, 24, 26, 28] H0 H0 := Kp.rf
  have hl : lv_has ls 9 [(0, .ref h0), (1, .int p1)] := hl
  refine lv_iconst (v := 0) hx hb dX12_thaws_0 rfl ?_
  refine lv_istore_n hx hb dX12_thaws_1 rfl hl (by decide) rfl (fun ls hl => ?_)
  replace hl : lv_has ls 9 [(2, .int 0), (0, .ref h0), (1, .int p1)] := hl
  refine lv_iconst (v := 0) hx hb dX12_thaws_2 rfl ?_
  refine lv_istore_n hx hb dX12_thaws_3 rfl hl (by decide) rfl (fun ls hl => ?_)
  replace hl : lv_has ls 9 [(3, .int 0), (2, .int 0), (0, .ref h0), (1, .int p1)] := hl
  have L4 : ∀ (n23 : Nat) (H23 : Heap) (locs23 : List Loc) (v21 : Int32) (z21 : Int) (v22 : Int32) (z22 : Int) (ls : Array Slot), (6 - z21).toNat < n23 → v21.toInt = z21 → v22.toInt = z22 → z21 ≤ 6 → 0 ≤ z21 → Conf X Γ H23 → va_S (AΓ Γ) H0 H23 locs23 → Kp X Γ [1, 6, 7, 8, 9, 10, 11, 12, 14, 16, 17, 19, 22, 24, 26, 28] H0 H23 → lv_has ls 9 [(3, .int v21), (2, .int v22), (0, .ref h0), (1, .int p1)] → W p l e (rmL 1) s m args below meth c H23 locs23 0 0 Qz (F0 m 4 ls []) := by
    intro n23
    induction n23 with
    | zero => intro H23 locs23 v21 z21 v22 z22 ls hm23 ev21 ev22 iv23_0 iv23_1 hC23 hS23 hKp23 hl; exact absurd hm23 (Nat.not_lt_zero _)
    | succ n23 ih23 =>
      intro H23 locs23 v21 z21 v22 z22 ls hm23 ev21 ev22 iv23_0 iv23_1 hC23 hS23 hKp23 hl
      refine lv_iload_n hx hb dX12_thaws_4 rfl (lv_at hl 0 rfl) ?_
      refine lv_aload_n hx hb dX12_thaws_5 rfl (lv_at hl 2 rfl) ?_
      refine q_getC E hC23 g0 fa_RX12_35 uc dX12_thaws_6 ?_
      refine lv_iconst (v := 1) hx hb dX12_thaws_9 rfl ?_
      refine q_cald E hC23 (lo := 0) (hi := 6) gca (a := 1) (show (1 : Int32).toInt = 1 from by decide) (by omega) (by omega) (cr_c0 (by omega) (by omega)) dX12_thaws_10 (fun v24 ev24 lv24 uv24 => ?_)
      refine q_icmp_ge hx hb (a := z21) (b := v24.toInt) ev21 rfl (tgt := 180) dX12_thaws_11 rfl (fun c25 => ?_) (fun c25 => ?_)
      · refine lv_aload_n hx hb dX12_thaws_180 rfl (lv_at hl 2 rfl) ?_
        refine q_getC E hC23 g0 fa_RX12_35 uc dX12_thaws_181 ?_
        refine lv_iconst (v := 5) hx hb dX12_thaws_184 rfl ?_
        refine lv_dup2_11 hx hb dX12_thaws_185 rfl rfl ?_
        refine q_cald E hC23 (lo := -2147483648) (hi := 2147483647) gca (a := 5) (show (5 : Int32).toInt = 5 from by decide) (by omega) (by omega) (cr_c3 (by omega) (by omega)) dX12_thaws_186 (fun v26 ev26 _ _ => ?_)
        refine lv_iload_n hx hb dX12_thaws_187 rfl (lv_at hl 1 rfl) ?_
        refine lv_iadd hx hb dX12_thaws_188 (lv_topi (fun v27 ev27 => ?_))
        refine q_cast E hC23 hS23 gca (a := 5) (show (5 : Int32).toInt = 5 from by decide) (by omega) (by omega) (cs_c3 (a := 5) (by omega) (by omega)) dX12_thaws_189 (fun H28 locs28 hC28 hS28 U28 => ?_)
        have hKp28 := Kp.upD gca rfl rfl (fun _ => ⟨fun _ => nd1 (by omega) (by omega), fun _ => by unfold dpu; omega, fun _ => by unfold dpn; omega⟩) U28 hKp23
        have e29 := up_I U28
        refine lv_iload_n hx hb dX12_thaws_190 rfl (lv_at hl 1 rfl) ?_
        exact ret v22 H28 locs28 _ _ dX12_thaws_191 ⟨hKp28, trivial⟩ hC28 hS28
      · refine lv_iconst (v := 0) hx hb dX12_thaws_14 rfl ?_
        refine lv_istore hx hb dX12_thaws_15 hl (by decide) rfl (fun ls hl => ?_)
        replace hl : lv_has ls 9 [(4, .int 0), (3, .int v21), (2, .int v22), (0, .ref h0), (1, .int p1)] := hl
        have L17 : ∀ (n32 : Nat) (H32 : Heap) (locs32 : List Loc) (v30 : Int32) (z30 : Int) (v31 : Int32) (z31 : Int) (ls : Array Slot), (6 - z30).toNat < n32 → v30.toInt = z30 → v31.toInt = z31 → z30 ≤ 6 → 0 ≤ z30 → Conf X Γ H32 → va_S (AΓ Γ) H0 H32 locs32 → Kp X Γ [1, 6, 7, 8, 9, 10, 11, 12, 14, 16, 17, 19, 22, 24, 26, 28] H0 H32 → lv_has ls 9 [(4, .int v30), (3, .int v21), (2, .int v31), (0, .ref h0), (1, .int p1)] → W p l e (rmL 1) s m args below meth c H32 locs32 0 0 Qz (F0 m 17 ls []) := by
          intro n32
          induction n32 with
          | zero => intro H32 locs32 v30 z30 v31 z31 ls hm32 ev30 ev31 iv32_0 iv32_1 hC32 hS32 hKp32 hl; exact absurd hm32 (Nat.not_lt_zero _)
          | succ n32 ih32 =>
            intro H32 locs32 v30 z30 v31 z31 ls hm32 ev30 ev31 iv32_0 iv32_1 hC32 hS32 hKp32 hl
            refine lv_iload hx hb dX12_thaws_17 (lv_at hl 0 rfl) ?_
            refine lv_aload_n hx hb dX12_thaws_19 rfl (lv_at hl 3 rfl) ?_
            refine q_getC E hC32 g0 fa_RX12_35 uc dX12_thaws_20 ?_
            refine lv_iconst (v := 0) hx hb dX12_thaws_23 rfl ?_
            refine q_cald E hC32 (lo := 0) (hi := 6) gca (a := 0) (show (0 : Int32).toInt = 0 from by decide) (by omega) (by omega) (cr_c0 (by omega) (by omega)) dX12_thaws_24 (fun v33 ev33 lv33 uv33 => ?_)
            refine q_icmp_ge hx hb (a := z30) (b := v33.toInt) ev30 rfl (tgt := 174) dX12_thaws_25 rfl (fun c34 => ?_) (fun c34 => ?_)
            · obtain ⟨v35, ev35⟩ : ∃ z, z = v21 + Int32.ofInt 1 := ⟨_, rfl⟩
              have ev35i : v35.toInt = (z21 + 1) := i_add ev35 ev21 (by decide) (by omega) (by omega)
              refine lv_iinc hx hb dX12_thaws_174 hl (k := 1) rfl ev35.symm (by decide) rfl (fun ls hl => ?_)
              replace hl : lv_has ls 9 [(3, .int v35), (4, .int v30), (2, .int v31), (0, .ref h0), (1, .int p1)] := hl
              refine lv_goto (tgt := 4) hx hb dX12_thaws_177 rfl ?_
              exact ih23 H32 locs32 v35 ((z21 + 1)) v31 (z31) ls (by omega) ev35i ev31 (by omega) (by omega) hC32 hS32 hKp32 (lv_sub hl [0, 2, 3, 4] rfl)
            · refine lv_iload hx hb dX12_thaws_28 (lv_at hl 0 rfl) ?_
              refine lv_iload_n hx hb dX12_thaws_30 rfl (lv_at hl 1 rfl) ?_
              refine q_goIp (q_runS (As := [.int v30, .int v21]) (rest := []) E hS32 (m_X12_at2 l X Γ H32 hC32 v30 (a0 := z30) ev30 v21 (a1 := z21) ev21 (by omega) (by omega) (by omega) (by omega)) cw_X12_at2 cl_RX12_292 rfl hl.1 rfl (Nat.zero_le _) (by decide) dX12_thaws_31) hS32 (fun v36 locs36 hr36 hS36 => ?_)
              have f36_0 := hr36
              refine lv_istore hx hb dX12_thaws_34 hl (by decide) rfl (fun ls hl => ?_)
              replace hl : lv_has ls 9 [(5, .int v36), (4, .int v30), (3, .int v21), (2, .int v31), (0, .ref h0), (1, .int p1)] := hl
              refine lv_iload_n hx hb dX12_thaws_36 rfl (lv_at hl 5 rfl) ?_
              refine lv_aload_n hx hb dX12_thaws_37 rfl (lv_at hl 4 rfl) ?_
              refine q_getC E hC32 g0 fa_RX12_35 uc dX12_thaws_38 ?_
              refine lv_bipush (v := 98) hx hb dX12_thaws_41 rfl ?_
              refine lv_iload hx hb dX12_thaws_43 (lv_at hl 0 rfl) ?_
              refine lv_iadd hx hb dX12_thaws_45 (lv_topi (fun v37 ev37 => ?_))
              have ev37i : v37.toInt = (98 + v36.toInt) := i_add ev37 (by decide) rfl (by omega) (by omega)
              refine q_cald E hC32 (lo := 0) (hi := 9) gca (a := (98 + v36.toInt)) ev37i (by omega) (by omega) (cr_c98 (by omega) (by omega)) dX12_thaws_46 (fun v38 ev38 lv38 uv38 => ?_)
              refine lv_iadd hx hb dX12_thaws_47 (lv_topi (fun v39 ev39 => ?_))
              have ev39i : v39.toInt = (a1 + v38.toInt) := i_add ev39 e1 rfl (by omega) (by omega)
              refine lv_istore hx hb dX12_thaws_48 hl (by decide) rfl (fun ls hl => ?_)
              replace hl : lv_has ls 9 [(6, .int v39), (5, .int v36), (4, .int v30), (3, .int v21), (2, .int v31), (0, .ref h0), (1, .int p1)] := hl
              refine lv_iload hx hb dX12_thaws_50 (lv_at hl 0 rfl) ?_
              refine lv_aload_n hx hb dX12_thaws_52 rfl (lv_at hl 5 rfl) ?_
              refine q_getC E hC32 g0 fa_RX12_35 uc dX12_thaws_53 ?_
              refine lv_bipush (v := 26) hx hb dX12_thaws_56 rfl ?_
              refine lv_iload hx hb dX12_thaws_58 (lv_at hl 1 rfl) ?_
              refine lv_iadd hx hb dX12_thaws_60 (lv_topi (fun v40 ev40 => ?_))
              have ev40i : v40.toInt = (26 + v36.toInt) := i_add ev40 (by decide) rfl (by omega) (by omega)
              refine q_cald E hC32 (lo := 0) (hi := 99) gca (a := (26 + v36.toInt)) ev40i (by omega) (by omega) (cr_c26 (by omega) (by omega)) dX12_thaws_61 (fun v41 ev41 lv41 uv41 => ?_)
              refine q_mmin E hl.1 w_1740 mathw_min (a := (a1 + v38.toInt)) (b := v41.toInt) ev39i rfl (by decide) (Nat.zero_le _) dX12_thaws_62 (fun v42 mv42a mv42b mv42c => ?_)
              refine lv_istore hx hb dX12_thaws_65 hl (by decide) rfl (fun ls hl => ?_)
              replace hl : lv_has ls 9 [(7, .int v42), (6, .int v39), (5, .int v36), (4, .int v30), (3, .int v21), (2, .int v31), (0, .ref h0), (1, .int p1)] := hl
              refine lv_aload_n hx hb dX12_thaws_67 rfl (lv_at hl 6 rfl) ?_
              refine q_getC E hC32 g0 fa_RX12_35 uc dX12_thaws_68 ?_
              refine lv_bipush (v := 26) hx hb dX12_thaws_71 rfl ?_
              refine lv_iload hx hb dX12_thaws_73 (lv_at hl 2 rfl) ?_
              refine lv_iadd hx hb dX12_thaws_75 (lv_topi (fun v43 ev43 => ?_))
              have ev43i : v43.toInt = (26 + v36.toInt) := i_add ev43 (by decide) rfl (by omega) (by omega)
              refine lv_dup2_11 hx hb dX12_thaws_76 rfl rfl ?_
              refine q_cald E hC32 (lo := 0) (hi := 99) gca (a := (26 + v36.toInt)) ev43i (by omega) (by omega) (cr_c26 (by omega) (by omega)) dX12_thaws_77 (fun v44 ev44 lv44 uv44 => ?_)
              have qv44 := ev41.symm.trans ev44; subst qv44
              refine lv_iload hx hb dX12_thaws_78 (lv_at hl 0 rfl) ?_
              refine lv_isub hx hb dX12_thaws_80 (lv_topi (fun v45 ev45 => ?_))
              have ev45i : v45.toInt = (v41.toInt - v42.toInt) := i_sub ev45 rfl rfl (by omega) (by omega)
              refine q_cast E hC32 hS36 gca (a := (26 + v36.toInt)) ev43i (by omega) (by omega) (cs_c26 (a := (26 + v36.toInt)) (b := (v41.toInt - v42.toInt)) (by omega) (by omega) ev45i (by omega) (by omega)) dX12_thaws_81 (fun H46 locs46 hC46 hS46 U46 => ?_)
              have hKp46 := Kp.upD gca rfl rfl (fun _ => ⟨fun _ => nd2 (by omega) (by omega), fun _ => by unfold dpu; omega, fun _ => by unfold dpn; omega⟩) U46 hKp32
              have e47 := up_I U46
              refine lv_aload_n hx hb dX12_thaws_82 rfl (lv_at hl 6 rfl) ?_
              refine q_getC E hC46 g0 fa_RX12_35 uc dX12_thaws_83 ?_
              refine lv_sipush (v := 170) hx hb dX12_thaws_86 rfl ?_
              refine lv_iload hx hb dX12_thaws_89 (lv_at hl 2 rfl) ?_
              refine lv_iadd hx hb dX12_thaws_91 (lv_topi (fun v48 ev48 => ?_))
              have ev48i : v48.toInt = (170 + v36.toInt) := i_add ev48 (by decide) rfl (by omega) (by omega)
              refine q_cald E hC46 (lo := -2147483648) (hi := 2147483647) gca (a := (170 + v36.toInt)) ev48i (by omega) (by omega) (cr_c134 (by omega) (by omega)) dX12_thaws_92 (fun v49 ev49 _ _ => ?_)
              refine lv_iconst (v := 1) hx hb dX12_thaws_93 rfl ?_
              refine q_icmp_ne hx hb (a := v49.toInt) (b := 1) rfl (by decide) (tgt := 101) dX12_thaws_94 rfl (fun c50 => ?_) (fun c50 => ?_)
              · refine lv_iload hx hb dX12_thaws_101 (lv_at hl 1 rfl) ?_
                refine lv_iload hx hb dX12_thaws_103 (lv_at hl 0 rfl) ?_
                refine lv_isub hx hb dX12_thaws_105 (lv_topi (fun v51 ev51 => ?_))
                have ev51i : v51.toInt = ((a1 + v38.toInt) - v42.toInt) := i_sub ev51 ev39i rfl (by omega) (by omega)
                refine lv_aload_n hx hb dX12_thaws_106 rfl (lv_at hl 6 rfl) ?_
                refine q_getC E hC46 g0 fa_RX12_35 uc dX12_thaws_107 ?_
                refine lv_bipush (v := 62) hx hb dX12_thaws_110 rfl ?_
                refine lv_iload hx hb dX12_thaws_112 (lv_at hl 2 rfl) ?_
                refine lv_iadd hx hb dX12_thaws_114 (lv_topi (fun v52 ev52 => ?_))
                have ev52i : v52.toInt = (62 + v36.toInt) := i_add ev52 (by decide) rfl (by omega) (by omega)
                refine q_cald E hC46 (lo := 0) (hi := 99) gca (a := (62 + v36.toInt)) ev52i (by omega) (by omega) (cr_c26 (by omega) (by omega)) dX12_thaws_115 (fun v53 ev53 lv53 uv53 => ?_)
                refine q_mmin E hl.1 w_1740 mathw_min (a := ((a1 + v38.toInt) - v42.toInt)) (b := v53.toInt) ev51i rfl (by decide) (Nat.zero_le _) dX12_thaws_116 (fun v54 mv54a mv54b mv54c => ?_)
                refine lv_istore hx hb dX12_thaws_119 hl (by decide) rfl (fun ls hl => ?_)
                replace hl : lv_has ls 9 [(8, .int v54), (7, .int v42), (6, .int v39), (5, .int v36), (4, .int v30), (3, .int v21), (2, .int v31), (0, .ref h0), (1, .int p1)] := hl
                refine lv_aload_n hx hb dX12_thaws_121 rfl (lv_at hl 7 rfl) ?_
                refine q_getC E hC46 g0 fa_RX12_35 uc dX12_thaws_122 ?_
                refine lv_bipush (v := 62) hx hb dX12_thaws_125 rfl ?_
                refine lv_iload hx hb dX12_thaws_127 (lv_at hl 3 rfl) ?_
                refine lv_iadd hx hb dX12_thaws_129 (lv_topi (fun v55 ev55 => ?_))
                have ev55i : v55.toInt = (62 + v36.toInt) := i_add ev55 (by decide) rfl (by omega) (by omega)
                refine lv_dup2_11 hx hb dX12_thaws_130 rfl rfl ?_
                refine q_cald E hC46 (lo := 0) (hi := 99) gca (a := (62 + v36.toInt)) ev55i (by omega) (by omega) (cr_c26 (by omega) (by omega)) dX12_thaws_131 (fun v56 ev56 lv56 uv56 => ?_)
                have qv56 := ev53.symm.trans ev56; subst qv56
                refine lv_iload hx hb dX12_thaws_132 (lv_at hl 0 rfl) ?_
                refine lv_isub hx hb dX12_thaws_134 (lv_topi (fun v57 ev57 => ?_))
                have ev57i : v57.toInt = (v53.toInt - v54.toInt) := i_sub ev57 rfl rfl (by omega) (by omega)
                refine q_cast E hC46 hS46 gca (a := (62 + v36.toInt)) ev55i (by omega) (by omega) (cs_c26 (a := (62 + v36.toInt)) (b := (v53.toInt - v54.toInt)) (by omega) (by omega) ev57i (by omega) (by omega)) dX12_thaws_135 (fun H58 locs58 hC58 hS58 U58 => ?_)
                have hKp58 := Kp.upD gca rfl rfl (fun _ => ⟨fun _ => nd2 (by omega) (by omega), fun _ => by unfold dpu; omega, fun _ => by unfold dpn; omega⟩) U58 hKp46
                have e59 := up_I U58
                refine lv_aload_n hx hb dX12_thaws_136 rfl (lv_at hl 7 rfl) ?_
                refine q_getC E hC58 g0 fa_RX12_35 uc dX12_thaws_137 ?_
                refine lv_sipush (v := 170) hx hb dX12_thaws_140 rfl ?_
                refine lv_iload hx hb dX12_thaws_143 (lv_at hl 3 rfl) ?_
                refine lv_iadd hx hb dX12_thaws_145 (lv_topi (fun v60 ev60 => ?_))
                have ev60i : v60.toInt = (170 + v36.toInt) := i_add ev60 (by decide) rfl (by omega) (by omega)
                refine lv_iconst (v := 0) hx hb dX12_thaws_146 rfl ?_
                refine q_cast E hC58 hS58 gca (a := (170 + v36.toInt)) ev60i (by omega) (by omega) (cs_c134 (a := (170 + v36.toInt)) (by omega) (by omega)) dX12_thaws_147 (fun H61 locs61 hC61 hS61 U61 => ?_)
                have hKp61 := Kp.upD gca rfl rfl (fun _ => ⟨fun _ => nd2 (by omega) (by omega), fun _ => by unfold dpu; omega, fun _ => by unfold dpn; omega⟩) U61 hKp58
                have e62 := up_I U61
                refine lv_aload_n hx hb dX12_thaws_148 rfl (lv_at hl 7 rfl) ?_
                refine q_getC E hC61 g0 fa_RX12_35 uc dX12_thaws_149 ?_
                refine lv_sipush (v := 206) hx hb dX12_thaws_152 rfl ?_
                refine lv_iload hx hb dX12_thaws_155 (lv_at hl 3 rfl) ?_
                refine lv_iadd hx hb dX12_thaws_157 (lv_topi (fun v63 ev63 => ?_))
                have ev63i : v63.toInt = (206 + v36.toInt) := i_add ev63 (by decide) rfl (by omega) (by omega)
                refine lv_iconst (v := 0) hx hb dX12_thaws_158 rfl ?_
                refine q_cast E hC61 hS61 gca (a := (206 + v36.toInt)) ev63i (by omega) (by omega) (cs_c134 (a := (206 + v36.toInt)) (by omega) (by omega)) dX12_thaws_159 (fun H64 locs64 hC64 hS64 U64 => ?_)
                have hKp64 := Kp.upD gca rfl rfl (fun _ => ⟨fun _ => nd2 (by omega) (by omega), fun _ => by unfold dpu; omega, fun _ => by unfold dpn; omega⟩) U64 hKp61
                have e65 := up_I U64
                refine lv_iload_n hx hb dX12_thaws_160 rfl (lv_at hl 6 rfl) ?_
                refine lv_iload hx hb dX12_thaws_161 (lv_at hl 1 rfl) ?_
                refine lv_iload hx hb dX12_thaws_163 (lv_at hl 0 rfl) ?_
                refine lv_iadd hx hb dX12_thaws_165 (lv_topi (fun v66 ev66 => ?_))
                have ev66i : v66.toInt = (v42.toInt + v54.toInt) := i_add ev66 rfl rfl (by omega) (by omega)
                refine lv_iadd hx hb dX12_thaws_166 (lv_topi (fun v67 ev67 => ?_))
                refine lv_istore_n hx hb dX12_thaws_167 rfl hl (by decide) rfl (fun ls hl => ?_)
                replace hl : lv_has ls 9 [(2, .int v67), (8, .int v54), (7, .int v42), (6, .int v39), (5, .int v36), (4, .int v30), (3, .int v21), (0, .ref h0), (1, .int p1)] := hl
                obtain ⟨v68, ev68⟩ : ∃ z, z = v30 + Int32.ofInt 1 := ⟨_, rfl⟩
                have ev68i : v68.toInt = (z30 + 1) := i_add ev68 ev30 (by decide) (by omega) (by omega)
                refine lv_iinc hx hb dX12_thaws_168 hl (k := 5) rfl ev68.symm (by decide) rfl (fun ls hl => ?_)
                replace hl : lv_has ls 9 [(4, .int v68), (2, .int v67), (8, .int v54), (7, .int v42), (6, .int v39), (5, .int v36), (3, .int v21), (0, .ref h0), (1, .int p1)] := hl
                refine lv_goto (tgt := 17) hx hb dX12_thaws_171 rfl ?_
                exact ih32 H64 locs64 v68 ((z30 + 1)) v67 (v67.toInt) ls (by omega) ev68i rfl (by omega) (by omega) hC64 hS64 hKp64 (lv_sub hl [0, 6, 1, 7, 8] rfl)
              · refine lv_iconst (v := 0) hx hb dX12_thaws_97 rfl ?_
                refine lv_goto (tgt := 119) hx hb dX12_thaws_98 rfl ?_
                refine lv_istore hx hb dX12_thaws_119 hl (by decide) rfl (fun ls hl => ?_)
                replace hl : lv_has ls 9 [(8, .int 0), (7, .int v42), (6, .int v39), (5, .int v36), (4, .int v30), (3, .int v21), (2, .int v31), (0, .ref h0), (1, .int p1)] := hl
                refine lv_aload_n hx hb dX12_thaws_121 rfl (lv_at hl 7 rfl) ?_
                refine q_getC E hC46 g0 fa_RX12_35 uc dX12_thaws_122 ?_
                refine lv_bipush (v := 62) hx hb dX12_thaws_125 rfl ?_
                refine lv_iload hx hb dX12_thaws_127 (lv_at hl 3 rfl) ?_
                refine lv_iadd hx hb dX12_thaws_129 (lv_topi (fun v69 ev69 => ?_))
                have ev69i : v69.toInt = (62 + v36.toInt) := i_add ev69 (by decide) rfl (by omega) (by omega)
                refine lv_dup2_11 hx hb dX12_thaws_130 rfl rfl ?_
                refine q_cald E hC46 (lo := 0) (hi := 99) gca (a := (62 + v36.toInt)) ev69i (by omega) (by omega) (cr_c26 (by omega) (by omega)) dX12_thaws_131 (fun v70 ev70 lv70 uv70 => ?_)
                refine lv_iload hx hb dX12_thaws_132 (lv_at hl 0 rfl) ?_
                refine lv_isub hx hb dX12_thaws_134 (lv_topi (fun v71 ev71 => ?_))
                have ev71i : v71.toInt = (v70.toInt - 0) := i_sub ev71 rfl (by decide) (by omega) (by omega)
                refine q_cast E hC46 hS46 gca (a := (62 + v36.toInt)) ev69i (by omega) (by omega) (cs_c26 (a := (62 + v36.toInt)) (b := (v70.toInt - 0)) (by omega) (by omega) ev71i (by omega) (by omega)) dX12_thaws_135 (fun H72 locs72 hC72 hS72 U72 => ?_)
                have hKp72 := Kp.upD gca rfl rfl (fun _ => ⟨fun _ => nd2 (by omega) (by omega), fun _ => by unfold dpu; omega, fun _ => by unfold dpn; omega⟩) U72 hKp46
                have e73 := up_I U72
                refine lv_aload_n hx hb dX12_thaws_136 rfl (lv_at hl 7 rfl) ?_
                refine q_getC E hC72 g0 fa_RX12_35 uc dX12_thaws_137 ?_
                refine lv_sipush (v := 170) hx hb dX12_thaws_140 rfl ?_
                refine lv_iload hx hb dX12_thaws_143 (lv_at hl 3 rfl) ?_
                refine lv_iadd hx hb dX12_thaws_145 (lv_topi (fun v74 ev74 => ?_))
                have ev74i : v74.toInt = (170 + v36.toInt) := i_add ev74 (by decide) rfl (by omega) (by omega)
                refine lv_iconst (v := 0) hx hb dX12_thaws_146 rfl ?_
                refine q_cast E hC72 hS72 gca (a := (170 + v36.toInt)) ev74i (by omega) (by omega) (cs_c134 (a := (170 + v36.toInt)) (by omega) (by omega)) dX12_thaws_147 (fun H75 locs75 hC75 hS75 U75 => ?_)
                have hKp75 := Kp.upD gca rfl rfl (fun _ => ⟨fun _ => nd2 (by omega) (by omega), fun _ => by unfold dpu; omega, fun _ => by unfold dpn; omega⟩) U75 hKp72
                have e76 := up_I U75
                refine lv_aload_n hx hb dX12_thaws_148 rfl (lv_at hl 7 rfl) ?_
                refine q_getC E hC75 g0 fa_RX12_35 uc dX12_thaws_149 ?_
                refine lv_sipush (v := 206) hx hb dX12_thaws_152 rfl ?_
                refine lv_iload hx hb dX12_thaws_155 (lv_at hl 3 rfl) ?_
                refine lv_iadd hx hb dX12_thaws_157 (lv_topi (fun v77 ev77 => ?_))
                have ev77i : v77.toInt = (206 + v36.toInt) := i_add ev77 (by decide) rfl (by omega) (by omega)
                refine lv_iconst (v := 0) hx hb dX12_thaws_158 rfl ?_
                refine q_cast E hC75 hS75 gca (a := (206 + v36.toInt)) ev77i (by omega) (by omega) (cs_c134 (a := (206 + v36.toInt)) (by omega) (by omega)) dX12_thaws_159 (fun H78 locs78 hC78 hS78 U78 => ?_)
                have hKp78 := Kp.upD gca rfl rfl (fun _ => ⟨fun _ => nd2 (by omega) (by omega), fun _ => by unfold dpu; omega, fun _ => by unfold dpn; omega⟩) U78 hKp75
                have e79 := up_I U78
                refine lv_iload_n hx hb dX12_thaws_160 rfl (lv_at hl 6 rfl) ?_
                refine lv_iload hx hb dX12_thaws_161 (lv_at hl 1 rfl) ?_
                refine lv_iload hx hb dX12_thaws_163 (lv_at hl 0 rfl) ?_
                refine lv_iadd hx hb dX12_thaws_165 (lv_topi (fun v80 ev80 => ?_))
                have ev80i : v80.toInt = (v42.toInt + 0) := i_add ev80 rfl (by decide) (by omega) (by omega)
                refine lv_iadd hx hb dX12_thaws_166 (lv_topi (fun v81 ev81 => ?_))
                refine lv_istore_n hx hb dX12_thaws_167 rfl hl (by decide) rfl (fun ls hl => ?_)
                replace hl : lv_has ls 9 [(2, .int v81), (8, .int 0), (7, .int v42), (6, .int v39), (5, .int v36), (4, .int v30), (3, .int v21), (0, .ref h0), (1, .int p1)] := hl
                obtain ⟨v82, ev82⟩ : ∃ z, z = v30 + Int32.ofInt 1 := ⟨_, rfl⟩
                have ev82i : v82.toInt = (z30 + 1) := i_add ev82 ev30 (by decide) (by omega) (by omega)
                refine lv_iinc hx hb dX12_thaws_168 hl (k := 5) rfl ev82.symm (by decide) rfl (fun ls hl => ?_)
                replace hl : lv_has ls 9 [(4, .int v82), (2, .int v81), (8, .int 0), (7, .int v42), (6, .int v39), (5, .int v36), (3, .int v21), (0, .ref h0), (1, .int p1)] := hl
                refine lv_goto (tgt := 17) hx hb dX12_thaws_171 rfl ?_
                exact ih32 H78 locs78 v82 ((z30 + 1)) v81 (v81.toInt) ls (by omega) ev82i rfl (by omega) (by omega) hC78 hS78 hKp78 (lv_sub hl [0, 6, 1, 7, 8] rfl)
        exact L17 _ H23 locs23 0 0 v22 z22 ls (Nat.lt_succ_self _) (by decide) ev22 (by omega) (by omega) hC23 hS23 hKp23 hl
  exact L4 _ H0 [] 0 0 0 0 ls (Nat.lt_succ_self _) (by decide) (by decide) (by omega) (by omega) hC0 hS0 hKp0 hl
set_option maxRecDepth 100000 in
set_option maxHeartbeats 4000000 in
theorem m_X12_thaw (l : Launch) (X : xW) (Γ : Nat → Option Nat) (H0 : Heap) (hC0 : Conf X Γ H0) (h0 : Nat) (g0 : Γ h0 = some 11) (p1 : Int32) {a1 : Int} (e1 : p1.toInt = a1) (ca : Nat) (gca : Γ ca = some 64) (uc : ∀ a, Γ a = some 64 → a = ca) : Ctr l X Γ yX12_thaw cX12_thaw 2 (some .int) 2 [.ref h0, .int p1] H0 (QI X Γ (fun v H1 => Kp X Γ [1, 6, 7, 8, 9, 10, 11, 12, 14, 16, 17, 19, 22, 24, 26, 28] H0 H1 ∧ (True))) := by
  refine q_enterI (own := "SnowFortsModel") (by decide) rfl (Nat.le_of_ble_eq_true rfl) ?_
  intro p e s m args below meth c ls Qz E hl ret hS0
  have hx := E.1; have hb := E.2.1
  have hKp0 : Kp X Γ [1, 6, 7, 8, 9, 10, 11, 12, 14, 16, 17, 19, 22, 24, 26, 28] H0 H0 := Kp.rf
  have hl : lv_has ls 2 [(0, .ref h0), (1, .int p1)] := hl
  refine lv_aload_n hx hb dX12_thaw_0 rfl (lv_at hl 0 rfl) ?_
  refine lv_iconst (v := 0) hx hb dX12_thaw_1 rfl ?_
  refine q_put E hC0 hS0 g0 fp_RX12_69 tv_F rfl rfl dX12_thaw_2 (fun H21 locs21 hC21 hS21 U21 => ?_)
  have hKp21 := Kp.upO E g0 fp_RX12_69 rfl U21 hKp0
  have e22 := up_I U21
  refine lv_aload_n hx hb dX12_thaw_5 rfl (lv_at hl 0 rfl) ?_
  refine lv_iconst (v := 0) hx hb dX12_thaw_6 rfl ?_
  refine q_put E hC21 hS21 g0 fp_RX12_72 tv_F rfl rfl dX12_thaw_7 (fun H23 locs23 hC23 hS23 U23 => ?_)
  have hKp23 := Kp.upO E g0 fp_RX12_72 rfl U23 hKp21
  have e24 := up_I U23
  refine lv_iload_n hx hb dX12_thaw_10 rfl (lv_at hl 1 rfl) ?_
  refine lv_i2l (v := p1.toInt64) hx hb dX12_thaw_11 rfl (lv_topl (fun v25 ev25 => ?_))
  have ev25i : v25.toInt = a1 := l_ofi ev25.symm e1
  refine lv_lconst (v := 0) hx hb dX12_thaw_12 rfl ?_
  refine lv_ldc2 (v := 40) hx hb E.2.2.2.1 (E.2.2.2.2.1 _ w_1726) dX12_thaw_13 ?_
  refine q_goIp (q_runS (As := [.long v25, .long 0, .long 40]) (rest := []) E hS23 (m_X12_isIn l X Γ H23 hC23 v25 (a0 := a1) ev25i 0 (a1 := 0) (show (0 : Int64).toInt = 0 from by decide) 40 (a2 := 40) (show (40 : Int64).toInt = 40 from by decide)) cw_X12_isIn cl_RX12_104 rfl hl.1 rfl (Nat.zero_le _) (by decide) dX12_thaw_16) hS23 (fun v26 locs26 hr26 hS26 => ?_)
  rcases hr26 with ⟨rfl, f26a0, f26a1⟩ | ⟨rfl, f26b⟩
  · refine q_if_eq hx hb (a := 1) (by decide) (tgt := 30) dX12_thaw_19 rfl (fun c27 => absurd c27 (by omega)) (fun c27 => ?_)
    refine lv_aload_n hx hb dX12_thaw_22 rfl (lv_at hl 0 rfl) ?_
    refine lv_iload_n hx hb dX12_thaw_23 rfl (lv_at hl 1 rfl) ?_
    refine q_goI (q_runV (As := [.int p1]) (rest := []) E hC23 hS26 (m_X12_thaws l X Γ H23 hC23 h0 g0 p1 (a1 := a1) e1 ca gca uc (by omega) (by omega)) cw_X12_thaws cl_RX12_323 g0 ⟨rfl, rfl⟩ rfl hl.1 rfl (Nat.zero_le _) (by decide) dX12_thaw_24) hS26 (fun v28 H28 locs28 hr28 hC28 hS28 => ?_)
    obtain ⟨hp28, hr28⟩ := hr28
    have hKp28 := hKp23.tr (hp28.mono rfl)
    refine lv_goto (tgt := 35) hx hb dX12_thaw_27 rfl ?_
    exact ret v28 H28 locs28 _ _ dX12_thaw_35 ⟨hKp28, trivial⟩ hC28 hS28
  · refine q_if_eq hx hb (a := 0) (by decide) (tgt := 30) dX12_thaw_19 rfl (fun c29 => ?_) (fun c29 => absurd c29 (by omega))
    refine lv_aload_n hx hb dX12_thaw_30 rfl (lv_at hl 0 rfl) ?_
    refine lv_iconst (v := 5) hx hb dX12_thaw_31 rfl ?_
    refine q_goI (q_runV (As := [.int 5]) (rest := []) E hC23 hS26 (m_X12_refuse l X Γ H23 hC23 h0 g0 5 (a1 := 5) (by decide) ca gca uc) cw_X12_refuse cl_RX12_298 g0 ⟨rfl, rfl⟩ rfl hl.1 rfl (Nat.zero_le _) (by decide) dX12_thaw_32) hS26 (fun v30 H30 locs30 hr30 hC30 hS30 => ?_)
    obtain ⟨hp30, hr30⟩ := hr30
    have hKp30 := hKp23.tr (hp30.mono rfl)
    have f30_0 := hr30
    exact ret v30 H30 locs30 _ _ dX12_thaw_35 ⟨hKp30, trivial⟩ hC30 hS30
set_option maxRecDepth 100000 in
set_option maxHeartbeats 4000000 in
theorem m_X12_isOwned (l : Launch) (X : xW) (Γ : Nat → Option Nat) (H0 : Heap) (hC0 : Conf X Γ H0) (h0 : Nat) (g0 : Γ h0 = some 11) (p1 : Int32) {a1 : Int} (e1 : p1.toInt = a1) (p2 : Int32) {a2 : Int} (e2 : p2.toInt = a2) (ca : Nat) (gca : Γ ca = some 64) (uc : ∀ a, Γ a = some 64 → a = ca) : Ctr l X Γ yX12_isOwned cX12_isOwned 3 (some .boolean) 2 [.ref h0, .int p1, .int p2] H0 (QI X Γ (fun v H1 => H1 = H0 ∧ ((v = 1 ∧ (0 ≤ a1 ∧ a1 ≤ 5 ∧ 0 ≤ a2 ∧ a2 ≤ 5)) ∨ (v = 0 ∧ (True))))) := by
  refine q_enterZ (own := "SnowFortsModel") (by decide) rfl (Nat.le_of_ble_eq_true rfl) ?_
  intro p e s m args below meth c ls Qz E hl ret hS0
  have hx := E.1; have hb := E.2.1
  have hl : lv_has ls 3 [(0, .ref h0), (1, .int p1), (2, .int p2)] := hl
  refine lv_aload_n hx hb dX12_isOwned_0 rfl (lv_at hl 0 rfl) ?_
  refine lv_iload_n hx hb dX12_isOwned_1 rfl (lv_at hl 1 rfl) ?_
  refine lv_iload_n hx hb dX12_isOwned_2 rfl (lv_at hl 2 rfl) ?_
  refine q_goIp (q_runV (As := [.int p1, .int p2]) (rest := []) E hC0 hS0 (m_X12_isCell l X Γ H0 hC0 h0 g0 p1 (a1 := a1) e1 p2 (a2 := a2) e2 ca gca uc) cw_X12_isCell cl_RX12_301 g0 ⟨rfl, rfl⟩ rfl hl.1 rfl (Nat.zero_le _) (by decide) dX12_isOwned_3) hS0 (fun v21 locs21 hr21 hS21 => ?_)
  rcases hr21 with ⟨rfl, f21a0, f21a1, f21a2, f21a3, f21a4, f21a5⟩ | ⟨rfl, f21b⟩
  · refine q_if_eq hx hb (a := 1) (by decide) (tgt := 27) dX12_isOwned_6 rfl (fun c22 => absurd c22 (by omega)) (fun c22 => ?_)
    refine lv_aload_n hx hb dX12_isOwned_9 rfl (lv_at hl 0 rfl) ?_
    refine lv_iload_n hx hb dX12_isOwned_10 rfl (lv_at hl 1 rfl) ?_
    refine q_goIp (q_runV (As := [.int p1]) (rest := []) E hC0 hS21 (m_X12_halfOf l X Γ H0 hC0 h0 g0 p1 (a1 := a1) e1 ca gca uc) cw_X12_halfOf cl_RX12_270 g0 ⟨rfl, rfl⟩ rfl hl.1 rfl (Nat.zero_le _) (by decide) dX12_isOwned_11) hS21 (fun v23 locs23 hr23 hS23 => ?_)
    obtain ⟨f23_0, f23_1⟩ := hr23
    refine lv_aload_n hx hb dX12_isOwned_14 rfl (lv_at hl 0 rfl) ?_
    refine q_getC E hC0 g0 fa_RX12_35 uc dX12_isOwned_15 ?_
    refine lv_iconst (v := 2) hx hb dX12_isOwned_18 rfl ?_
    refine q_cald E hC0 (lo := 0) (hi := 2) gca (a := 2) (show (2 : Int32).toInt = 2 from by decide) (by omega) (by omega) (cr_c2 (by omega) (by omega)) dX12_isOwned_19 (fun v24 ev24 lv24 uv24 => ?_)
    refine q_icmp_ge hx hb (a := v23.toInt) (b := v24.toInt) rfl rfl (tgt := 27) dX12_isOwned_20 rfl (fun c25 => ?_) (fun c25 => ?_)
    · refine lv_iconst (v := 0) hx hb dX12_isOwned_27 rfl ?_
      exact ret 0 H0 locs23 _ _ dX12_isOwned_28 (Or.inl rfl) ⟨rfl, Or.inr ⟨rfl, trivial⟩⟩ hC0 hS23
    · refine lv_iconst (v := 1) hx hb dX12_isOwned_23 rfl ?_
      refine lv_goto (tgt := 28) hx hb dX12_isOwned_24 rfl ?_
      exact ret 1 H0 locs23 _ _ dX12_isOwned_28 (Or.inr rfl) ⟨rfl, Or.inl ⟨rfl, by omega, by omega, by omega, by omega⟩⟩ hC0 hS23
  · refine q_if_eq hx hb (a := 0) (by decide) (tgt := 27) dX12_isOwned_6 rfl (fun c26 => ?_) (fun c26 => absurd c26 (by omega))
    refine lv_iconst (v := 0) hx hb dX12_isOwned_27 rfl ?_
    exact ret 0 H0 locs21 _ _ dX12_isOwned_28 (Or.inl rfl) ⟨rfl, Or.inr ⟨rfl, trivial⟩⟩ hC0 hS21
set_option maxRecDepth 100000 in
set_option maxHeartbeats 4000000 in
theorem m_X12_isHand (l : Launch) (X : xW) (Γ : Nat → Option Nat) (H0 : Heap) (hC0 : Conf X Γ H0) (h0 : Nat) (g0 : Γ h0 = some 11) (p1 : Int32) {a1 : Int} (e1 : p1.toInt = a1) (p2 : Int32) {a2 : Int} (e2 : p2.toInt = a2) (ca : Nat) (gca : Γ ca = some 64) (uc : ∀ a, Γ a = some 64 → a = ca) (r0 : 0 ≤ a1) (r1 : a1 ≤ 1) : Ctr l X Γ yX12_isHand cX12_isHand 3 (some .boolean) 0 [.ref h0, .int p1, .int p2] H0 (QI X Γ (fun v H1 => H1 = H0 ∧ ((v = 1 ∧ (a2 ≤ (sI H0 ca (12 + a1).toNat).toInt - (sI H0 ca (14 + a1).toNat).toInt ∧ (sI H0 ca (12 + a1).toNat).toInt ≤ 40)) ∨ (v = 0 ∧ (True))))) := by
  refine q_enterZ (own := "SnowFortsModel") (by decide) rfl (Nat.le_of_ble_eq_true rfl) ?_
  intro p e s m args below meth c ls Qz E hl ret hS0
  have hx := E.1; have hb := E.2.1
  have hl : lv_has ls 3 [(0, .ref h0), (1, .int p1), (2, .int p2)] := hl
  refine lv_aload_n hx hb dX12_isHand_0 rfl (lv_at hl 0 rfl) ?_
  refine q_getC E hC0 g0 fa_RX12_35 uc dX12_isHand_1 ?_
  refine lv_bipush (v := 12) hx hb dX12_isHand_4 rfl ?_
  refine lv_iload_n hx hb dX12_isHand_6 rfl (lv_at hl 1 rfl) ?_
  refine lv_iadd hx hb dX12_isHand_7 (lv_topi (fun v21 ev21 => ?_))
  have ev21i : v21.toInt = (12 + a1) := i_add ev21 (by decide) e1 (by omega) (by omega)
  refine q_cald E hC0 (lo := 0) (hi := 40) gca (a := (12 + a1)) ev21i (by omega) (by omega) (cr_c12 (by omega) (by omega)) dX12_isHand_8 (fun v22 ev22 lv22 uv22 => ?_)
  have m23 : (sI H0 ca ((12 + a1) : Int).toNat).toInt = v22.toInt := congrArg Int32.toInt ev22
  refine lv_aload_n hx hb dX12_isHand_9 rfl (lv_at hl 0 rfl) ?_
  refine q_getC E hC0 g0 fa_RX12_35 uc dX12_isHand_10 ?_
  refine lv_bipush (v := 14) hx hb dX12_isHand_13 rfl ?_
  refine lv_iload_n hx hb dX12_isHand_15 rfl (lv_at hl 1 rfl) ?_
  refine lv_iadd hx hb dX12_isHand_16 (lv_topi (fun v24 ev24 => ?_))
  have ev24i : v24.toInt = (14 + a1) := i_add ev24 (by decide) e1 (by omega) (by omega)
  refine q_cald E hC0 (lo := 0) (hi := 40) gca (a := (14 + a1)) ev24i (by omega) (by omega) (cr_c12 (by omega) (by omega)) dX12_isHand_17 (fun v25 ev25 lv25 uv25 => ?_)
  have m26 : (sI H0 ca ((14 + a1) : Int).toNat).toInt = v25.toInt := congrArg Int32.toInt ev25
  refine lv_isub hx hb dX12_isHand_18 (lv_topi (fun v27 ev27 => ?_))
  have ev27i : v27.toInt = (v22.toInt - v25.toInt) := i_sub ev27 rfl rfl (by omega) (by omega)
  refine lv_iload_n hx hb dX12_isHand_19 rfl (lv_at hl 2 rfl) ?_
  have c28 := i_rng p2; rw [show p2.toInt = a2 from e2] at c28
  refine q_icmp_lt hx hb (a := (v22.toInt - v25.toInt)) (b := a2) ev27i e2 (tgt := 27) dX12_isHand_20 rfl (fun c29 => ?_) (fun c29 => ?_)
  · refine lv_iconst (v := 0) hx hb dX12_isHand_27 rfl ?_
    exact ret 0 H0 [] _ _ dX12_isHand_28 (Or.inl rfl) ⟨rfl, Or.inr ⟨rfl, trivial⟩⟩ hC0 hS0
  · refine lv_iconst (v := 1) hx hb dX12_isHand_23 rfl ?_
    refine lv_goto (tgt := 28) hx hb dX12_isHand_24 rfl ?_
    exact ret 1 H0 [] _ _ dX12_isHand_28 (Or.inr rfl) ⟨rfl, Or.inl ⟨rfl, by omega, by omega⟩⟩ hC0 hS0
set_option maxRecDepth 100000 in
set_option maxHeartbeats 4000000 in
theorem m_X12_acrossOf (l : Launch) (X : xW) (Γ : Nat → Option Nat) (H0 : Heap) (hC0 : Conf X Γ H0) (h0 : Nat) (g0 : Γ h0 = some 11) (p1 : Int32) {a1 : Int} (e1 : p1.toInt = a1) (ca : Nat) (gca : Γ ca = some 64) (uc : ∀ a, Γ a = some 64 → a = ca) (r0 : 0 ≤ a1) (r1 : a1 ≤ 35) : Ctr l X Γ yX12_acrossOf cX12_acrossOf 2 (some .int) 0 [.ref h0, .int p1] H0 (QI X Γ (fun v H1 => H1 = H0 ∧ ((-6 ≤ v.toInt) ∧ (v.toInt ≤ 41) ∧ (v.toInt = 6 * (a1 / 6) + (sI H0 ca (0 : Int).toNat).toInt - 1 - a1 % 6)))) := by
  refine q_enterI (own := "SnowFortsModel") (by decide) rfl (Nat.le_of_ble_eq_true rfl) ?_
  intro p e s m args below meth c ls Qz E hl ret hS0
  have hx := E.1; have hb := E.2.1
  have hl : lv_has ls 2 [(0, .ref h0), (1, .int p1)] := hl
  refine lv_bipush (v := 6) hx hb dX12_acrossOf_0 rfl ?_
  refine lv_iload_n hx hb dX12_acrossOf_2 rfl (lv_at hl 1 rfl) ?_
  refine lv_bipush (v := 6) hx hb dX12_acrossOf_3 rfl ?_
  refine lv_idiv hx hb dX12_acrossOf_5 (by decide) (lv_topi (fun v21 ev21 => ?_))
  have ev21i : v21.toInt = (a1 / 6) := i_div ev21 e1 (by decide) (by omega) (by decide)
  refine lv_imul hx hb dX12_acrossOf_6 (lv_topi (fun v22 ev22 => ?_))
  have ev22i : v22.toInt = (6 * (a1 / 6)) := i_mul ev22 (by decide) ev21i (by omega) (by omega)
  refine lv_aload_n hx hb dX12_acrossOf_7 rfl (lv_at hl 0 rfl) ?_
  refine q_getC E hC0 g0 fa_RX12_35 uc dX12_acrossOf_8 ?_
  refine lv_iconst (v := 0) hx hb dX12_acrossOf_11 rfl ?_
  refine q_cald E hC0 (lo := 0) (hi := 6) gca (a := 0) (show (0 : Int32).toInt = 0 from by decide) (by omega) (by omega) (cr_c0 (by omega) (by omega)) dX12_acrossOf_12 (fun v23 ev23 lv23 uv23 => ?_)
  have m24 : (sI H0 ca (0 : Int).toNat).toInt = v23.toInt := congrArg Int32.toInt ev23
  refine lv_iadd hx hb dX12_acrossOf_13 (lv_topi (fun v25 ev25 => ?_))
  have ev25i : v25.toInt = ((6 * (a1 / 6)) + v23.toInt) := i_add ev25 ev22i rfl (by omega) (by omega)
  refine lv_iconst (v := 1) hx hb dX12_acrossOf_14 rfl ?_
  refine lv_isub hx hb dX12_acrossOf_15 (lv_topi (fun v26 ev26 => ?_))
  have ev26i : v26.toInt = (((6 * (a1 / 6)) + v23.toInt) - 1) := i_sub ev26 ev25i (by decide) (by omega) (by omega)
  refine lv_iload_n hx hb dX12_acrossOf_16 rfl (lv_at hl 1 rfl) ?_
  refine lv_bipush (v := 6) hx hb dX12_acrossOf_17 rfl ?_
  refine lv_irem hx hb dX12_acrossOf_19 (by decide) (lv_topi (fun v27 ev27 => ?_))
  have ev27i : v27.toInt = (a1 % 6) := i_rem ev27 e1 (by decide) (by omega) (by decide)
  refine lv_isub hx hb dX12_acrossOf_20 (lv_topi (fun v28 ev28 => ?_))
  have ev28i : v28.toInt = ((((6 * (a1 / 6)) + v23.toInt) - 1) - (a1 % 6)) := i_sub ev28 ev26i ev27i (by omega) (by omega)
  have c29 : v28.toInt = ((((6 * (a1 / 6)) + v23.toInt) - 1) - (a1 % 6)) := ev28i
  exact ret v28 H0 [] _ _ dX12_acrossOf_21 ⟨rfl, ⟨by omega, by omega, by omega⟩⟩ hC0 hS0
set_option maxRecDepth 100000 in
set_option maxHeartbeats 4000000 in
theorem m_X12_breaks (l : Launch) (X : xW) (Γ : Nat → Option Nat) (H0 : Heap) (hC0 : Conf X Γ H0) (h0 : Nat) (g0 : Γ h0 = some 11) (p1 : Int32) {a1 : Int} (e1 : p1.toInt = a1) (p2 : Int32) {a2 : Int} (e2 : p2.toInt = a2) (p3 : Int32) {a3 : Int} (e3 : p3.toInt = a3) (ca : Nat) (gca : Γ ca = some 64) (uc : ∀ a, Γ a = some 64 → a = ca) (r0 : 0 ≤ a1) (r1 : a1 ≤ 1) : Ctr l X Γ yX12_breaks cX12_breaks 4 none 0 [.ref h0, .int p1, .int p2, .int p3] H0 (QV X Γ (fun H1 => Kp X Γ [1, 6, 7, 8, 9, 10, 11, 12, 14, 16, 17, 19, 22, 24, 26, 28] H0 H1)) := by
  refine q_enterV (own := "SnowFortsModel") (by decide) rfl (Nat.le_of_ble_eq_true rfl) ?_
  intro p e s m args below meth c ls Qz E hl ret hS0
  have hx := E.1; have hb := E.2.1
  have hKp0 : Kp X Γ [1, 6, 7, 8, 9, 10, 11, 12, 14, 16, 17, 19, 22, 24, 26, 28] H0 H0 := Kp.rf
  have hl : lv_has ls 4 [(0, .ref h0), (1, .int p1), (2, .int p2), (3, .int p3)] := hl
  refine lv_aload_n hx hb dX12_breaks_0 rfl (lv_at hl 0 rfl) ?_
  refine q_getC E hC0 g0 fa_RX12_35 uc dX12_breaks_1 ?_
  refine lv_iconst (v := 4) hx hb dX12_breaks_4 rfl ?_
  refine q_cald E hC0 (lo := -2147483648) (hi := 2147483647) gca (a := 4) (show (4 : Int32).toInt = 4 from by decide) (by omega) (by omega) (cr_c3 (by omega) (by omega)) dX12_breaks_5 (fun v21 ev21 _ _ => ?_)
  refine q_if_ne hx hb (a := v21.toInt) rfl (tgt := 46) dX12_breaks_6 rfl (fun c22 => ?_) (fun c22 => ?_)
  · refine lv_aload_n hx hb dX12_breaks_46 rfl (lv_at hl 0 rfl) ?_
    refine q_getC E hC0 g0 fa_RX12_35 uc dX12_breaks_47 ?_
    refine lv_iconst (v := 4) hx hb dX12_breaks_50 rfl ?_
    refine lv_dup2_11 hx hb dX12_breaks_51 rfl rfl ?_
    refine q_cald E hC0 (lo := -2147483648) (hi := 2147483647) gca (a := 4) (show (4 : Int32).toInt = 4 from by decide) (by omega) (by omega) (cr_c3 (by omega) (by omega)) dX12_breaks_52 (fun v23 ev23 _ _ => ?_)
    have qv23 := ev21.symm.trans ev23; subst qv23
    refine lv_iconst (v := 1) hx hb dX12_breaks_53 rfl ?_
    refine lv_iadd hx hb dX12_breaks_54 (lv_topi (fun v24 ev24 => ?_))
    refine q_cast E hC0 hS0 gca (a := 4) (show (4 : Int32).toInt = 4 from by decide) (by omega) (by omega) (cs_c3 (a := 4) (by omega) (by omega)) dX12_breaks_55 (fun H25 locs25 hC25 hS25 U25 => ?_)
    have hKp25 := Kp.upD gca rfl rfl (fun _ => ⟨fun _ => nd1 (by omega) (by omega), fun _ => by unfold dpu; omega, fun _ => by unfold dpn; omega⟩) U25 hKp0
    have e26 := up_I U25
    refine lv_aload_n hx hb dX12_breaks_56 rfl (lv_at hl 0 rfl) ?_
    refine q_getC E hC25 g0 fa_RX12_35 uc dX12_breaks_57 ?_
    refine lv_bipush (v := 16) hx hb dX12_breaks_60 rfl ?_
    refine lv_iload_n hx hb dX12_breaks_62 rfl (lv_at hl 1 rfl) ?_
    refine lv_iadd hx hb dX12_breaks_63 (lv_topi (fun v27 ev27 => ?_))
    have ev27i : v27.toInt = (16 + a1) := i_add ev27 (by decide) e1 (by omega) (by omega)
    refine lv_dup2_11 hx hb dX12_breaks_64 rfl rfl ?_
    refine q_cald E hC25 (lo := -2147483648) (hi := 2147483647) gca (a := (16 + a1)) ev27i (by omega) (by omega) (cr_c16 (by omega) (by omega)) dX12_breaks_65 (fun v28 ev28 _ _ => ?_)
    refine lv_iconst (v := 1) hx hb dX12_breaks_66 rfl ?_
    refine lv_iadd hx hb dX12_breaks_67 (lv_topi (fun v29 ev29 => ?_))
    refine q_cast E hC25 hS25 gca (a := (16 + a1)) ev27i (by omega) (by omega) (cs_c16 (a := (16 + a1)) (by omega) (by omega)) dX12_breaks_68 (fun H30 locs30 hC30 hS30 U30 => ?_)
    have hKp30 := Kp.upD gca rfl rfl (fun _ => ⟨fun _ => nd2 (by omega) (by omega), fun _ => by unfold dpu; omega, fun _ => by unfold dpn; omega⟩) U30 hKp25
    have e31 := up_I U30
    exact ret H30 locs30 _ _ dX12_breaks_69 hKp30 hC30 hS30
  · refine lv_aload_n hx hb dX12_breaks_9 rfl (lv_at hl 0 rfl) ?_
    refine q_getC E hC0 g0 fa_RX12_35 uc dX12_breaks_10 ?_
    refine lv_bipush (v := 8) hx hb dX12_breaks_13 rfl ?_
    refine lv_iload_n hx hb dX12_breaks_15 rfl (lv_at hl 1 rfl) ?_
    refine q_cast E hC0 hS0 gca (a := 8) (show (8 : Int32).toInt = 8 from by decide) (by omega) (by omega) (cs_c3 (a := 8) (by omega) (by omega)) dX12_breaks_16 (fun H32 locs32 hC32 hS32 U32 => ?_)
    have hKp32 := Kp.upD gca rfl rfl (fun _ => ⟨fun _ => nd1 (by omega) (by omega), fun _ => by unfold dpu; omega, fun _ => by unfold dpn; omega⟩) U32 hKp0
    have e33 := up_I U32
    refine lv_aload_n hx hb dX12_breaks_17 rfl (lv_at hl 0 rfl) ?_
    refine q_getC E hC32 g0 fa_RX12_35 uc dX12_breaks_18 ?_
    refine lv_bipush (v := 9) hx hb dX12_breaks_21 rfl ?_
    refine lv_iload_n hx hb dX12_breaks_23 rfl (lv_at hl 2 rfl) ?_
    refine q_cast E hC32 hS32 gca (a := 9) (show (9 : Int32).toInt = 9 from by decide) (by omega) (by omega) (cs_c3 (a := 9) (by omega) (by omega)) dX12_breaks_24 (fun H34 locs34 hC34 hS34 U34 => ?_)
    have hKp34 := Kp.upD gca rfl rfl (fun _ => ⟨fun _ => nd1 (by omega) (by omega), fun _ => by unfold dpu; omega, fun _ => by unfold dpn; omega⟩) U34 hKp32
    have e35 := up_I U34
    refine lv_aload_n hx hb dX12_breaks_25 rfl (lv_at hl 0 rfl) ?_
    refine q_getC E hC34 g0 fa_RX12_35 uc dX12_breaks_26 ?_
    refine lv_bipush (v := 10) hx hb dX12_breaks_29 rfl ?_
    refine lv_aload_n hx hb dX12_breaks_31 rfl (lv_at hl 0 rfl) ?_
    refine q_getC E hC34 g0 fa_RX12_35 uc dX12_breaks_32 ?_
    refine lv_iconst (v := 3) hx hb dX12_breaks_35 rfl ?_
    refine q_cald E hC34 (lo := -2147483648) (hi := 2147483647) gca (a := 3) (show (3 : Int32).toInt = 3 from by decide) (by omega) (by omega) (cr_c3 (by omega) (by omega)) dX12_breaks_36 (fun v36 ev36 _ _ => ?_)
    refine q_cast E hC34 hS34 gca (a := 10) (show (10 : Int32).toInt = 10 from by decide) (by omega) (by omega) (cs_c3 (a := 10) (by omega) (by omega)) dX12_breaks_37 (fun H37 locs37 hC37 hS37 U37 => ?_)
    have hKp37 := Kp.upD gca rfl rfl (fun _ => ⟨fun _ => nd1 (by omega) (by omega), fun _ => by unfold dpu; omega, fun _ => by unfold dpn; omega⟩) U37 hKp34
    have e38 := up_I U37
    refine lv_aload_n hx hb dX12_breaks_38 rfl (lv_at hl 0 rfl) ?_
    refine q_getC E hC37 g0 fa_RX12_35 uc dX12_breaks_39 ?_
    refine lv_bipush (v := 11) hx hb dX12_breaks_42 rfl ?_
    refine lv_iload_n hx hb dX12_breaks_44 rfl (lv_at hl 3 rfl) ?_
    refine q_cast E hC37 hS37 gca (a := 11) (show (11 : Int32).toInt = 11 from by decide) (by omega) (by omega) (cs_c3 (a := 11) (by omega) (by omega)) dX12_breaks_45 (fun H39 locs39 hC39 hS39 U39 => ?_)
    have hKp39 := Kp.upD gca rfl rfl (fun _ => ⟨fun _ => nd1 (by omega) (by omega), fun _ => by unfold dpu; omega, fun _ => by unfold dpn; omega⟩) U39 hKp37
    have e40 := up_I U39
    refine lv_aload_n hx hb dX12_breaks_46 rfl (lv_at hl 0 rfl) ?_
    refine q_getC E hC39 g0 fa_RX12_35 uc dX12_breaks_47 ?_
    refine lv_iconst (v := 4) hx hb dX12_breaks_50 rfl ?_
    refine lv_dup2_11 hx hb dX12_breaks_51 rfl rfl ?_
    have e42 := (up_nI (a' := ca) (j' := (4 : Int).toNat) U32 (fun h => by have h2 := h.2; omega)).trans ev21
    have e43 := (up_nI (a' := ca) (j' := (4 : Int).toNat) U34 (fun h => by have h2 := h.2; omega)).trans e42
    have e44 := (up_nI (a' := ca) (j' := (4 : Int).toNat) U37 (fun h => by have h2 := h.2; omega)).trans e43
    have e45 := (up_nI (a' := ca) (j' := (4 : Int).toNat) U39 (fun h => by have h2 := h.2; omega)).trans e44
    refine q_cald E hC39 (lo := -2147483648) (hi := 2147483647) gca (a := 4) (show (4 : Int32).toInt = 4 from by decide) (by omega) (by omega) (cr_c3 (by omega) (by omega)) dX12_breaks_52 (fun v41 ev41 _ _ => ?_)
    have qv41 := e45.symm.trans ev41; subst qv41
    refine lv_iconst (v := 1) hx hb dX12_breaks_53 rfl ?_
    refine lv_iadd hx hb dX12_breaks_54 (lv_topi (fun v46 ev46 => ?_))
    have ev46i : v46.toInt = (v21.toInt + 1) := i_add ev46 rfl (by decide) (by omega) (by omega)
    refine q_cast E hC39 hS39 gca (a := 4) (show (4 : Int32).toInt = 4 from by decide) (by omega) (by omega) (cs_c3 (a := 4) (by omega) (by omega)) dX12_breaks_55 (fun H47 locs47 hC47 hS47 U47 => ?_)
    have hKp47 := Kp.upD gca rfl rfl (fun _ => ⟨fun _ => nd1 (by omega) (by omega), fun _ => by unfold dpu; omega, fun _ => by unfold dpn; omega⟩) U47 hKp39
    have e48 := up_I U47
    refine lv_aload_n hx hb dX12_breaks_56 rfl (lv_at hl 0 rfl) ?_
    refine q_getC E hC47 g0 fa_RX12_35 uc dX12_breaks_57 ?_
    refine lv_bipush (v := 16) hx hb dX12_breaks_60 rfl ?_
    refine lv_iload_n hx hb dX12_breaks_62 rfl (lv_at hl 1 rfl) ?_
    refine lv_iadd hx hb dX12_breaks_63 (lv_topi (fun v49 ev49 => ?_))
    have ev49i : v49.toInt = (16 + a1) := i_add ev49 (by decide) e1 (by omega) (by omega)
    refine lv_dup2_11 hx hb dX12_breaks_64 rfl rfl ?_
    refine q_cald E hC47 (lo := -2147483648) (hi := 2147483647) gca (a := (16 + a1)) ev49i (by omega) (by omega) (cr_c16 (by omega) (by omega)) dX12_breaks_65 (fun v50 ev50 _ _ => ?_)
    refine lv_iconst (v := 1) hx hb dX12_breaks_66 rfl ?_
    refine lv_iadd hx hb dX12_breaks_67 (lv_topi (fun v51 ev51 => ?_))
    refine q_cast E hC47 hS47 gca (a := (16 + a1)) ev49i (by omega) (by omega) (cs_c16 (a := (16 + a1)) (by omega) (by omega)) dX12_breaks_68 (fun H52 locs52 hC52 hS52 U52 => ?_)
    have hKp52 := Kp.upD gca rfl rfl (fun _ => ⟨fun _ => nd2 (by omega) (by omega), fun _ => by unfold dpu; omega, fun _ => by unfold dpn; omega⟩) U52 hKp47
    have e53 := up_I U52
    exact ret H52 locs52 _ _ dX12_breaks_69 hKp52 hC52 hS52
set_option maxRecDepth 100000 in
set_option maxHeartbeats 4000000 in
theorem m_X12_builds (l : Launch) (X : xW) (Γ : Nat → Option Nat) (H0 : Heap) (hC0 : Conf X Γ H0) (h0 : Nat) (g0 : Γ h0 = some 11) (p1 : Int32) {a1 : Int} (e1 : p1.toInt = a1) (p2 : Int32) {a2 : Int} (e2 : p2.toInt = a2) (ca : Nat) (gca : Γ ca = some 64) (uc : ∀ a, Γ a = some 64 → a = ca) (hu0 : UH H0 ca) (r0 : 0 ≤ a1) (r1 : a1 ≤ 35) : Ctr l X Γ yX12_builds cX12_builds 6 (some .int) 1 [.ref h0, .int p1, .int p2] H0 (QI X Γ (fun v H1 => (Kp X Γ [1, 6, 7, 8, 9, 10, 11, 12, 14, 17, 19, 22, 24, 26, 28] H0 H1 ∧ UH H1 ca) ∧ (True))) := by
  refine q_enterI (own := "SnowFortsModel") (by decide) rfl (Nat.le_of_ble_eq_true rfl) ?_
  intro p e s m args below meth c ls Qz E hl ret hS0
  have hx := E.1; have hb := E.2.1
  have hKp0 : Kp X Γ [1, 6, 7, 8, 9, 10, 11, 12, 14, 17, 19, 22, 24, 26, 28] H0 H0 := Kp.rf
  have hl : lv_has ls 6 [(0, .ref h0), (1, .int p1), (2, .int p2)] := hl
  refine lv_aload_n hx hb dX12_builds_0 rfl (lv_at hl 0 rfl) ?_
  refine lv_iload_n hx hb dX12_builds_1 rfl (lv_at hl 1 rfl) ?_
  refine lv_bipush (v := 6) hx hb dX12_builds_2 rfl ?_
  refine lv_irem hx hb dX12_builds_4 (by decide) (lv_topi (fun v21 ev21 => ?_))
  have ev21i : v21.toInt = (a1 % 6) := i_rem ev21 e1 (by decide) (by omega) (by decide)
  refine q_goIp (q_runV (As := [.int v21]) (rest := []) E hC0 hS0 (m_X12_halfOf l X Γ H0 hC0 h0 g0 v21 (a1 := (a1 % 6)) ev21i ca gca uc) cw_X12_halfOf cl_RX12_270 g0 ⟨rfl, rfl⟩ rfl hl.1 rfl (Nat.zero_le _) (by decide) dX12_builds_5) hS0 (fun v22 locs22 hr22 hS22 => ?_)
  obtain ⟨f22_0, f22_1⟩ := hr22
  refine lv_istore_n hx hb dX12_builds_8 rfl hl (by decide) rfl (fun ls hl => ?_)
  replace hl : lv_has ls 6 [(3, .int v22), (0, .ref h0), (1, .int p1), (2, .int p2)] := hl
  refine lv_iconst (v := 0) hx hb dX12_builds_9 rfl ?_
  refine lv_istore hx hb dX12_builds_10 hl (by decide) rfl (fun ls hl => ?_)
  replace hl : lv_has ls 6 [(4, .int 0), (3, .int v22), (0, .ref h0), (1, .int p1), (2, .int p2)] := hl
  have L12 : ∀ (n24 : Nat) (H24 : Heap) (locs24 : List Loc) (v23 : Int32) (z23 : Int) (ls : Array Slot), (a2 - z23).toNat < n24 → v23.toInt = z23 → 0 ≤ z23 → Conf X Γ H24 → va_S (AΓ Γ) H0 H24 locs24 → UH H24 ca → Kp X Γ [1, 6, 7, 8, 9, 10, 11, 12, 14, 17, 19, 22, 24, 26, 28] H0 H24 → lv_has ls 6 [(4, .int v23), (3, .int v22), (0, .ref h0), (1, .int p1), (2, .int p2)] → W p l e (rmL 1) s m args below meth c H24 locs24 0 0 Qz (F0 m 12 ls []) := by
    intro n24
    induction n24 with
    | zero => intro H24 locs24 v23 z23 ls hm24 ev23 iv24_0 hC24 hS24 hU24 hKp24 hl; exact absurd hm24 (Nat.not_lt_zero _)
    | succ n24 ih24 =>
      intro H24 locs24 v23 z23 ls hm24 ev23 iv24_0 hC24 hS24 hU24 hKp24 hl
      refine lv_iload hx hb dX12_builds_12 (lv_at hl 0 rfl) ?_
      refine lv_iload_n hx hb dX12_builds_14 rfl (lv_at hl 4 rfl) ?_
      have c25 := i_rng p2; rw [show p2.toInt = a2 from e2] at c25
      refine q_icmp_ge hx hb (a := z23) (b := a2) ev23 e2 (tgt := 199) dX12_builds_15 rfl (fun c26 => ?_) (fun c26 => ?_)
      · refine lv_iload hx hb dX12_builds_199 (lv_at hl 0 rfl) ?_
        refine q_if_le hx hb (a := z23) ev23 (tgt := 215) dX12_builds_201 rfl (fun c27 => ?_) (fun c27 => ?_)
        · refine lv_iload hx hb dX12_builds_215 (lv_at hl 0 rfl) ?_
          exact ret v23 H24 locs24 _ _ dX12_builds_217 ⟨⟨hKp24, hU24⟩, trivial⟩ hC24 hS24
        · refine lv_aload_n hx hb dX12_builds_204 rfl (lv_at hl 2 rfl) ?_
          refine q_getC E hC24 g0 fa_RX12_35 uc dX12_builds_205 ?_
          refine lv_sipush (v := 206) hx hb dX12_builds_208 rfl ?_
          refine lv_iload_n hx hb dX12_builds_211 rfl (lv_at hl 3 rfl) ?_
          refine lv_iadd hx hb dX12_builds_212 (lv_topi (fun v28 ev28 => ?_))
          have ev28i : v28.toInt = (206 + a1) := i_add ev28 (by decide) e1 (by omega) (by omega)
          refine lv_iconst (v := 0) hx hb dX12_builds_213 rfl ?_
          refine q_cast E hC24 hS24 gca (a := (206 + a1)) ev28i (by omega) (by omega) (cs_c134 (a := (206 + a1)) (by omega) (by omega)) dX12_builds_214 (fun H29 locs29 hC29 hS29 U29 => ?_)
          have hKp29 := Kp.upD gca rfl rfl (fun _ => ⟨fun _ => nd2 (by omega) (by omega), fun h => absurd h (by decide), fun _ => by unfold dpn; omega⟩) U29 hKp24
          have hU29 := UH.ne hU24 U29 (Or.inr (by omega))
          have e30 := up_I U29
          refine lv_iload hx hb dX12_builds_215 (lv_at hl 0 rfl) ?_
          exact ret v23 H29 locs29 _ _ dX12_builds_217 ⟨⟨hKp29, hU29⟩, trivial⟩ hC29 hS29
      · refine lv_aload_n hx hb dX12_builds_18 rfl (lv_at hl 2 rfl) ?_
        refine lv_iload_n hx hb dX12_builds_19 rfl (lv_at hl 1 rfl) ?_
        refine lv_iconst (v := 1) hx hb dX12_builds_20 rfl ?_
        refine q_goIp (q_runV (As := [.int v22, .int 1]) (rest := []) E hC24 hS24 (m_X12_isHand l X Γ H24 hC24 h0 g0 v22 (a1 := v22.toInt) rfl 1 (a2 := 1) (by decide) ca gca uc (by omega) (by omega)) cw_X12_isHand cl_RX12_326 g0 ⟨rfl, rfl⟩ rfl hl.1 rfl (Nat.zero_le _) (by decide) dX12_builds_21) hS24 (fun v31 locs31 hr31 hS31 => ?_)
        rcases hr31 with ⟨rfl, f31a0, f31a1⟩ | ⟨rfl, -⟩
        · refine q_if_eq hx hb (a := 1) (by decide) (tgt := 199) dX12_builds_24 rfl (fun c32 => absurd c32 (by omega)) (fun c32 => ?_)
          obtain ⟨v33, ev33⟩ : ∃ z, sI H24 ca ((12 + v22.toInt) : Int).toNat = z := ⟨_, rfl⟩
          have m34 : (sI H24 ca ((12 + v22.toInt) : Int).toNat).toInt = v33.toInt := congrArg Int32.toInt ev33
          obtain ⟨v35, ev35⟩ : ∃ z, sI H24 ca ((14 + v22.toInt) : Int).toNat = z := ⟨_, rfl⟩
          have m36 : (sI H24 ca ((14 + v22.toInt) : Int).toNat).toInt = v35.toInt := congrArg Int32.toInt ev35
          refine lv_aload_n hx hb dX12_builds_27 rfl (lv_at hl 2 rfl) ?_
          refine q_getC E hC24 g0 fa_RX12_35 uc dX12_builds_28 ?_
          refine lv_bipush (v := 26) hx hb dX12_builds_31 rfl ?_
          refine lv_iload_n hx hb dX12_builds_33 rfl (lv_at hl 3 rfl) ?_
          refine lv_iadd hx hb dX12_builds_34 (lv_topi (fun v37 ev37 => ?_))
          have ev37i : v37.toInt = (26 + a1) := i_add ev37 (by decide) e1 (by omega) (by omega)
          refine q_cald E hC24 (lo := 0) (hi := 99) gca (a := (26 + a1)) ev37i (by omega) (by omega) (cr_c26 (by omega) (by omega)) dX12_builds_35 (fun v38 ev38 lv38 uv38 => ?_)
          refine q_if_le hx hb (a := v38.toInt) rfl (tgt := 199) dX12_builds_36 rfl (fun c39 => ?_) (fun c39 => ?_)
          · refine lv_iload hx hb dX12_builds_199 (lv_at hl 0 rfl) ?_
            refine q_if_le hx hb (a := z23) ev23 (tgt := 215) dX12_builds_201 rfl (fun c40 => ?_) (fun c40 => ?_)
            · refine lv_iload hx hb dX12_builds_215 (lv_at hl 0 rfl) ?_
              exact ret v23 H24 locs31 _ _ dX12_builds_217 ⟨⟨hKp24, hU24⟩, trivial⟩ hC24 hS31
            · refine lv_aload_n hx hb dX12_builds_204 rfl (lv_at hl 2 rfl) ?_
              refine q_getC E hC24 g0 fa_RX12_35 uc dX12_builds_205 ?_
              refine lv_sipush (v := 206) hx hb dX12_builds_208 rfl ?_
              refine lv_iload_n hx hb dX12_builds_211 rfl (lv_at hl 3 rfl) ?_
              refine lv_iadd hx hb dX12_builds_212 (lv_topi (fun v41 ev41 => ?_))
              have ev41i : v41.toInt = (206 + a1) := i_add ev41 (by decide) e1 (by omega) (by omega)
              refine lv_iconst (v := 0) hx hb dX12_builds_213 rfl ?_
              refine q_cast E hC24 hS31 gca (a := (206 + a1)) ev41i (by omega) (by omega) (cs_c134 (a := (206 + a1)) (by omega) (by omega)) dX12_builds_214 (fun H42 locs42 hC42 hS42 U42 => ?_)
              have hKp42 := Kp.upD gca rfl rfl (fun _ => ⟨fun _ => nd2 (by omega) (by omega), fun h => absurd h (by decide), fun _ => by unfold dpn; omega⟩) U42 hKp24
              have hU42 := UH.ne hU24 U42 (Or.inr (by omega))
              have e43 := up_I U42
              refine lv_iload hx hb dX12_builds_215 (lv_at hl 0 rfl) ?_
              exact ret v23 H42 locs42 _ _ dX12_builds_217 ⟨⟨hKp42, hU42⟩, trivial⟩ hC42 hS42
          · refine lv_aload_n hx hb dX12_builds_39 rfl (lv_at hl 2 rfl) ?_
            refine q_getC E hC24 g0 fa_RX12_35 uc dX12_builds_40 ?_
            refine lv_bipush (v := 62) hx hb dX12_builds_43 rfl ?_
            refine lv_iload_n hx hb dX12_builds_45 rfl (lv_at hl 3 rfl) ?_
            refine lv_iadd hx hb dX12_builds_46 (lv_topi (fun v44 ev44 => ?_))
            have ev44i : v44.toInt = (62 + a1) := i_add ev44 (by decide) e1 (by omega) (by omega)
            refine q_cald E hC24 (lo := 0) (hi := 99) gca (a := (62 + a1)) ev44i (by omega) (by omega) (cr_c26 (by omega) (by omega)) dX12_builds_47 (fun v45 ev45 lv45 uv45 => ?_)
            refine lv_bipush (v := 99) hx hb dX12_builds_48 rfl ?_
            refine q_icmp_ge hx hb (a := v45.toInt) (b := 99) rfl (by decide) (tgt := 199) dX12_builds_50 rfl (fun c46 => ?_) (fun c46 => ?_)
            · refine lv_iload hx hb dX12_builds_199 (lv_at hl 0 rfl) ?_
              refine q_if_le hx hb (a := z23) ev23 (tgt := 215) dX12_builds_201 rfl (fun c47 => ?_) (fun c47 => ?_)
              · refine lv_iload hx hb dX12_builds_215 (lv_at hl 0 rfl) ?_
                exact ret v23 H24 locs31 _ _ dX12_builds_217 ⟨⟨hKp24, hU24⟩, trivial⟩ hC24 hS31
              · refine lv_aload_n hx hb dX12_builds_204 rfl (lv_at hl 2 rfl) ?_
                refine q_getC E hC24 g0 fa_RX12_35 uc dX12_builds_205 ?_
                refine lv_sipush (v := 206) hx hb dX12_builds_208 rfl ?_
                refine lv_iload_n hx hb dX12_builds_211 rfl (lv_at hl 3 rfl) ?_
                refine lv_iadd hx hb dX12_builds_212 (lv_topi (fun v48 ev48 => ?_))
                have ev48i : v48.toInt = (206 + a1) := i_add ev48 (by decide) e1 (by omega) (by omega)
                refine lv_iconst (v := 0) hx hb dX12_builds_213 rfl ?_
                refine q_cast E hC24 hS31 gca (a := (206 + a1)) ev48i (by omega) (by omega) (cs_c134 (a := (206 + a1)) (by omega) (by omega)) dX12_builds_214 (fun H49 locs49 hC49 hS49 U49 => ?_)
                have hKp49 := Kp.upD gca rfl rfl (fun _ => ⟨fun _ => nd2 (by omega) (by omega), fun h => absurd h (by decide), fun _ => by unfold dpn; omega⟩) U49 hKp24
                have hU49 := UH.ne hU24 U49 (Or.inr (by omega))
                have e50 := up_I U49
                refine lv_iload hx hb dX12_builds_215 (lv_at hl 0 rfl) ?_
                exact ret v23 H49 locs49 _ _ dX12_builds_217 ⟨⟨hKp49, hU49⟩, trivial⟩ hC49 hS49
            · refine lv_aload_n hx hb dX12_builds_53 rfl (lv_at hl 2 rfl) ?_
              refine q_getC E hC24 g0 fa_RX12_35 uc dX12_builds_54 ?_
              refine lv_bipush (v := 19) hx hb dX12_builds_57 rfl ?_
              refine q_cald E hC24 (lo := -2147483648) (hi := 2147483647) gca (a := 19) (show (19 : Int32).toInt = 19 from by decide) (by omega) (by omega) (cr_c16 (by omega) (by omega)) dX12_builds_59 (fun v51 ev51 _ _ => ?_)
              refine lv_iconst (v := 1) hx hb dX12_builds_60 rfl ?_
              refine q_icmp_ne hx hb (a := v51.toInt) (b := 1) rfl (by decide) (tgt := 87) dX12_builds_61 rfl (fun c52 => ?_) (fun c52 => ?_)
              · refine lv_iconst (v := 0) hx hb dX12_builds_87 rfl ?_
                refine lv_istore hx hb dX12_builds_88 hl (by decide) rfl (fun ls hl => ?_)
                replace hl : lv_has ls 6 [(5, .int 0), (4, .int v23), (3, .int v22), (0, .ref h0), (1, .int p1), (2, .int p2)] := hl
                refine lv_aload_n hx hb dX12_builds_90 rfl (lv_at hl 3 rfl) ?_
                refine q_getC E hC24 g0 fa_RX12_35 uc dX12_builds_91 ?_
                refine lv_bipush (v := 26) hx hb dX12_builds_94 rfl ?_
                refine lv_iload_n hx hb dX12_builds_96 rfl (lv_at hl 4 rfl) ?_
                refine lv_iadd hx hb dX12_builds_97 (lv_topi (fun v53 ev53 => ?_))
                have ev53i : v53.toInt = (26 + a1) := i_add ev53 (by decide) e1 (by omega) (by omega)
                refine lv_dup2_11 hx hb dX12_builds_98 rfl rfl ?_
                refine q_cald E hC24 (lo := 0) (hi := 99) gca (a := (26 + a1)) ev53i (by omega) (by omega) (cr_c26 (by omega) (by omega)) dX12_builds_99 (fun v54 ev54 lv54 uv54 => ?_)
                have qv54 := ev38.symm.trans ev54; subst qv54
                refine lv_iconst (v := 1) hx hb dX12_builds_100 rfl ?_
                refine lv_isub hx hb dX12_builds_101 (lv_topi (fun v55 ev55 => ?_))
                have ev55i : v55.toInt = (v38.toInt - 1) := i_sub ev55 rfl (by decide) (by omega) (by omega)
                refine q_cast E hC24 hS31 gca (a := (26 + a1)) ev53i (by omega) (by omega) (cs_c26 (a := (26 + a1)) (b := (v38.toInt - 1)) (by omega) (by omega) ev55i (by omega) (by omega)) dX12_builds_102 (fun H56 locs56 hC56 hS56 U56 => ?_)
                have hKp56 := Kp.upD gca rfl rfl (fun _ => ⟨fun _ => nd2 (by omega) (by omega), fun h => absurd h (by decide), fun _ => by unfold dpn; omega⟩) U56 hKp24
                have hU56 := UH.ne hU24 U56 (Or.inr (by omega))
                have e57 := up_I U56
                refine lv_aload_n hx hb dX12_builds_103 rfl (lv_at hl 3 rfl) ?_
                refine q_getC E hC56 g0 fa_RX12_35 uc dX12_builds_104 ?_
                refine lv_bipush (v := 62) hx hb dX12_builds_107 rfl ?_
                refine lv_iload_n hx hb dX12_builds_109 rfl (lv_at hl 4 rfl) ?_
                refine lv_iadd hx hb dX12_builds_110 (lv_topi (fun v58 ev58 => ?_))
                have ev58i : v58.toInt = (62 + a1) := i_add ev58 (by decide) e1 (by omega) (by omega)
                refine lv_dup2_11 hx hb dX12_builds_111 rfl rfl ?_
                have e60 := (up_nI (a' := ca) (j' := ((62 + a1) : Int).toNat) U56 (fun h => by have h2 := h.2; omega)).trans ev45
                refine q_cald E hC56 (lo := 0) (hi := 99) gca (a := (62 + a1)) ev58i (by omega) (by omega) (cr_c26 (by omega) (by omega)) dX12_builds_112 (fun v59 ev59 lv59 uv59 => ?_)
                have qv59 := e60.symm.trans ev59; subst qv59
                refine lv_iconst (v := 1) hx hb dX12_builds_113 rfl ?_
                refine lv_iadd hx hb dX12_builds_114 (lv_topi (fun v61 ev61 => ?_))
                have ev61i : v61.toInt = (v45.toInt + 1) := i_add ev61 rfl (by decide) (by omega) (by omega)
                refine q_cast E hC56 hS56 gca (a := (62 + a1)) ev58i (by omega) (by omega) (cs_c26 (a := (62 + a1)) (b := (v45.toInt + 1)) (by omega) (by omega) ev61i (by omega) (by omega)) dX12_builds_115 (fun H62 locs62 hC62 hS62 U62 => ?_)
                have hKp62 := Kp.upD gca rfl rfl (fun _ => ⟨fun _ => nd2 (by omega) (by omega), fun h => absurd h (by decide), fun _ => by unfold dpn; omega⟩) U62 hKp56
                have hU62 := UH.ne hU56 U62 (Or.inr (by omega))
                have e63 := up_I U62
                refine lv_aload_n hx hb dX12_builds_116 rfl (lv_at hl 3 rfl) ?_
                refine q_getC E hC62 g0 fa_RX12_35 uc dX12_builds_117 ?_
                refine lv_bipush (v := 14) hx hb dX12_builds_120 rfl ?_
                refine lv_iload_n hx hb dX12_builds_122 rfl (lv_at hl 2 rfl) ?_
                refine lv_iadd hx hb dX12_builds_123 (lv_topi (fun v64 ev64 => ?_))
                have ev64i : v64.toInt = (14 + v22.toInt) := i_add ev64 (by decide) rfl (by omega) (by omega)
                refine lv_dup2_11 hx hb dX12_builds_124 rfl rfl ?_
                have e66 := (up_nI (a' := ca) (j' := ((14 + v22.toInt) : Int).toNat) U56 (fun h => by have h2 := h.2; omega)).trans ev35
                have e67 := (up_nI (a' := ca) (j' := ((14 + v22.toInt) : Int).toNat) U62 (fun h => by have h2 := h.2; omega)).trans e66
                refine q_cald E hC62 (lo := 0) (hi := 40) gca (a := (14 + v22.toInt)) ev64i (by omega) (by omega) (cr_c12 (by omega) (by omega)) dX12_builds_125 (fun v65 ev65 lv65 uv65 => ?_)
                have qv65 := e67.symm.trans ev65; subst qv65
                refine lv_iconst (v := 1) hx hb dX12_builds_126 rfl ?_
                refine lv_iadd hx hb dX12_builds_127 (lv_topi (fun v68 ev68 => ?_))
                have ev68i : v68.toInt = (v35.toInt + 1) := i_add ev68 rfl (by decide) (by omega) (by omega)
                refine q_cast E hC62 hS62 gca (a := (14 + v22.toInt)) ev64i (by omega) (by omega) (cs_c12 (a := (14 + v22.toInt)) (b := (v35.toInt + 1)) (by omega) (by omega) ev68i (by omega) (by omega)) dX12_builds_128 (fun H69 locs69 hC69 hS69 U69 => ?_)
                have hKp69 := Kp.upD gca rfl rfl (fun _ => ⟨fun _ => nd3 (by omega) (by omega), fun h => absurd h (by decide), fun _ => by unfold dpn; omega⟩) U69 hKp62
                have e70 := (up_nI (a' := ca) (j' := ((12 + v22.toInt) : Int).toNat) U56 (fun h => by have h2 := h.2; omega)).trans ev33
                have e71 := (up_nI (a' := ca) (j' := ((12 + v22.toInt) : Int).toNat) U62 (fun h => by have h2 := h.2; omega)).trans e70
                have m72 : (sI H62 ca ((12 + v22.toInt)).toNat).toInt = v33.toInt := congrArg Int32.toInt e71
                have hU69 := UH.at hU62 (t := v22.toInt) (by omega) (by omega) (by omega) U69 (b := (v35.toInt + 1)) ev68i (by omega)
                have e73 := up_I U69
                obtain ⟨v74, ev74⟩ : ∃ z, z = v23 + Int32.ofInt 1 := ⟨_, rfl⟩
                have ev74i : v74.toInt = (z23 + 1) := i_add ev74 ev23 (by decide) (by omega) (by omega)
                refine lv_iinc hx hb dX12_builds_129 hl (k := 1) rfl ev74.symm (by decide) rfl (fun ls hl => ?_)
                replace hl : lv_has ls 6 [(4, .int v74), (5, .int 0), (3, .int v22), (0, .ref h0), (1, .int p1), (2, .int p2)] := hl
                refine lv_aload_n hx hb dX12_builds_132 rfl (lv_at hl 3 rfl) ?_
                refine q_getC E hC69 g0 fa_RX12_35 uc dX12_builds_133 ?_
                refine lv_bipush (v := 18) hx hb dX12_builds_136 rfl ?_
                refine q_cald E hC69 (lo := -2147483648) (hi := 2147483647) gca (a := 18) (show (18 : Int32).toInt = 18 from by decide) (by omega) (by omega) (cr_c16 (by omega) (by omega)) dX12_builds_138 (fun v75 ev75 _ _ => ?_)
                refine lv_iconst (v := 1) hx hb dX12_builds_139 rfl ?_
                refine q_icmp_ne hx hb (a := v75.toInt) (b := 1) rfl (by decide) (tgt := 184) dX12_builds_140 rfl (fun c76 => ?_) (fun c76 => ?_)
                · refine lv_iload hx hb dX12_builds_184 (lv_at hl 1 rfl) ?_
                  refine q_if_eq hx hb (a := 0) (by decide) (tgt := 196) dX12_builds_186 rfl (fun c77 => ?_) (fun c77 => absurd c77 (by omega))
                  refine lv_goto (tgt := 12) hx hb dX12_builds_196 rfl ?_
                  exact ih24 H69 locs69 v74 ((z23 + 1)) ls (by omega) ev74i (by omega) hC69 hS69 hU69 hKp69 (lv_sub hl [0, 2, 3, 4, 5] rfl)
                · refine lv_aload_n hx hb dX12_builds_143 rfl (lv_at hl 3 rfl) ?_
                  refine q_getC E hC69 g0 fa_RX12_35 uc dX12_builds_144 ?_
                  refine lv_bipush (v := 62) hx hb dX12_builds_147 rfl ?_
                  refine lv_iload_n hx hb dX12_builds_149 rfl (lv_at hl 4 rfl) ?_
                  refine lv_iadd hx hb dX12_builds_150 (lv_topi (fun v78 ev78 => ?_))
                  have ev78i : v78.toInt = (62 + a1) := i_add ev78 (by decide) e1 (by omega) (by omega)
                  have e80 := (up_nI (a' := ca) (j' := ((62 + a1) : Int).toNat) U69 (fun h => by have h2 := h.2; omega)).trans e63
                  refine q_cald E hC69 (lo := 0) (hi := 99) gca (a := (62 + a1)) ev78i (by omega) (by omega) (cr_c26 (by omega) (by omega)) dX12_builds_151 (fun v79 ev79 lv79 uv79 => ?_)
                  have qv79 := e80.symm.trans ev79; subst qv79
                  refine lv_aload_n hx hb dX12_builds_152 rfl (lv_at hl 3 rfl) ?_
                  refine q_getC E hC69 g0 fa_RX12_35 uc dX12_builds_153 ?_
                  refine lv_sipush (v := 134) hx hb dX12_builds_156 rfl ?_
                  refine lv_aload_n hx hb dX12_builds_159 rfl (lv_at hl 3 rfl) ?_
                  refine lv_iload_n hx hb dX12_builds_160 rfl (lv_at hl 4 rfl) ?_
                  refine q_goIp (q_runV (As := [.int p1]) (rest := [.int 134, .ref ca, .int v61]) E hC69 hS69 (m_X12_acrossOf l X Γ H69 hC69 h0 g0 p1 (a1 := a1) e1 ca gca uc (by omega) (by omega)) cw_X12_acrossOf cl_RX12_329 g0 ⟨rfl, rfl⟩ rfl hl.1 rfl (show _ ≤ _ from by simp [Value.category]) (by decide) dX12_builds_161) hS69 (fun v81 locs81 hr81 hS81 => ?_)
                  obtain ⟨f81_0, f81_1, f81_2⟩ := hr81
                  refine lv_iadd hx hb dX12_builds_164 (lv_topi (fun v82 ev82 => ?_))
                  have ev82i : v82.toInt = (134 + v81.toInt) := i_add ev82 (by decide) rfl (by omega) (by omega)
                  refine q_cald E hC69 (lo := -2147483648) (hi := 2147483647) gca (a := (134 + v81.toInt)) ev82i (by omega) (by omega) (fun _ h => cT_any h) dX12_builds_165 (fun v83 ev83 _ _ => ?_)
                  refine lv_aload_n hx hb dX12_builds_166 rfl (lv_at hl 3 rfl) ?_
                  refine q_getC E hC69 g0 fa_RX12_35 uc dX12_builds_167 ?_
                  refine lv_bipush (v := 22) hx hb dX12_builds_170 rfl ?_
                  refine q_cald E hC69 (lo := -2147483648) (hi := 2147483647) gca (a := 22) (show (22 : Int32).toInt = 22 from by decide) (by omega) (by omega) (cr_c16 (by omega) (by omega)) dX12_builds_172 (fun v84 ev84 _ _ => ?_)
                  refine lv_iadd hx hb dX12_builds_173 (lv_topi (fun v85 ev85 => ?_))
                  have c86 := i_rng v85; rw [show v85.toInt = v85.toInt from rfl] at c86
                  refine q_icmp_le hx hb (a := (v45.toInt + 1)) (b := v85.toInt) ev61i rfl (tgt := 184) dX12_builds_174 rfl (fun c87 => ?_) (fun c87 => ?_)
                  · refine lv_iload hx hb dX12_builds_184 (lv_at hl 1 rfl) ?_
                    refine q_if_eq hx hb (a := 0) (by decide) (tgt := 196) dX12_builds_186 rfl (fun c88 => ?_) (fun c88 => absurd c88 (by omega))
                    refine lv_goto (tgt := 12) hx hb dX12_builds_196 rfl ?_
                    exact ih24 H69 locs81 v74 ((z23 + 1)) ls (by omega) ev74i (by omega) hC69 hS81 hU69 hKp69 (lv_sub hl [0, 2, 3, 4, 5] rfl)
                  · refine lv_aload_n hx hb dX12_builds_177 rfl (lv_at hl 3 rfl) ?_
                    refine lv_iload_n hx hb dX12_builds_178 rfl (lv_at hl 2 rfl) ?_
                    refine lv_iconst (v := 0) hx hb dX12_builds_179 rfl ?_
                    refine lv_iload_n hx hb dX12_builds_180 rfl (lv_at hl 4 rfl) ?_
                    refine q_goV (q_runV (As := [.int v22, .int 0, .int p1]) (rest := []) E hC69 hS81 (m_X12_breaks l X Γ H69 hC69 h0 g0 v22 (a1 := v22.toInt) rfl 0 (a2 := 0) (by decide) p1 (a3 := a1) e1 ca gca uc (by omega) (by omega)) cw_X12_breaks cl_RX12_332 g0 ⟨rfl, rfl⟩ rfl hl.1 rfl (Nat.zero_le _) (by decide) dX12_builds_181) hS81 (fun H89 locs89 hr89 hC89 hS89 => ?_)
                    have hU89 := UH.kp hU69 hr89 gca rfl rfl
                    have hKp89 := hKp69.tr (hr89.mono rfl)
                    refine lv_iload hx hb dX12_builds_184 (lv_at hl 1 rfl) ?_
                    refine q_if_eq hx hb (a := 0) (by decide) (tgt := 196) dX12_builds_186 rfl (fun c90 => ?_) (fun c90 => absurd c90 (by omega))
                    refine lv_goto (tgt := 12) hx hb dX12_builds_196 rfl ?_
                    exact ih24 H89 locs89 v74 ((z23 + 1)) ls (by omega) ev74i (by omega) hC89 hS89 hU89 hKp89 (lv_sub hl [0, 2, 3, 4, 5] rfl)
              · refine lv_aload_n hx hb dX12_builds_64 rfl (lv_at hl 2 rfl) ?_
                refine q_getC E hC24 g0 fa_RX12_35 uc dX12_builds_65 ?_
                refine lv_bipush (v := 14) hx hb dX12_builds_68 rfl ?_
                refine lv_iload_n hx hb dX12_builds_70 rfl (lv_at hl 1 rfl) ?_
                refine lv_iadd hx hb dX12_builds_71 (lv_topi (fun v91 ev91 => ?_))
                have ev91i : v91.toInt = (14 + v22.toInt) := i_add ev91 (by decide) rfl (by omega) (by omega)
                refine q_cald E hC24 (lo := 0) (hi := 40) gca (a := (14 + v22.toInt)) ev91i (by omega) (by omega) (cr_c12 (by omega) (by omega)) dX12_builds_72 (fun v92 ev92 lv92 uv92 => ?_)
                have qv92 := ev35.symm.trans ev92; subst qv92
                refine lv_aload_n hx hb dX12_builds_73 rfl (lv_at hl 2 rfl) ?_
                refine q_getC E hC24 g0 fa_RX12_35 uc dX12_builds_74 ?_
                refine lv_bipush (v := 23) hx hb dX12_builds_77 rfl ?_
                refine q_cald E hC24 (lo := -2147483648) (hi := 2147483647) gca (a := 23) (show (23 : Int32).toInt = 23 from by decide) (by omega) (by omega) (cr_c16 (by omega) (by omega)) dX12_builds_79 (fun v93 ev93 _ _ => ?_)
                have c94 := i_rng v93; rw [show v93.toInt = v93.toInt from rfl] at c94
                refine q_icmp_lt hx hb (a := v35.toInt) (b := v93.toInt) rfl rfl (tgt := 87) dX12_builds_80 rfl (fun c95 => ?_) (fun c95 => ?_)
                · refine lv_iconst (v := 0) hx hb dX12_builds_87 rfl ?_
                  refine lv_istore hx hb dX12_builds_88 hl (by decide) rfl (fun ls hl => ?_)
                  replace hl : lv_has ls 6 [(5, .int 0), (4, .int v23), (3, .int v22), (0, .ref h0), (1, .int p1), (2, .int p2)] := hl
                  refine lv_aload_n hx hb dX12_builds_90 rfl (lv_at hl 3 rfl) ?_
                  refine q_getC E hC24 g0 fa_RX12_35 uc dX12_builds_91 ?_
                  refine lv_bipush (v := 26) hx hb dX12_builds_94 rfl ?_
                  refine lv_iload_n hx hb dX12_builds_96 rfl (lv_at hl 4 rfl) ?_
                  refine lv_iadd hx hb dX12_builds_97 (lv_topi (fun v96 ev96 => ?_))
                  have ev96i : v96.toInt = (26 + a1) := i_add ev96 (by decide) e1 (by omega) (by omega)
                  refine lv_dup2_11 hx hb dX12_builds_98 rfl rfl ?_
                  refine q_cald E hC24 (lo := 0) (hi := 99) gca (a := (26 + a1)) ev96i (by omega) (by omega) (cr_c26 (by omega) (by omega)) dX12_builds_99 (fun v97 ev97 lv97 uv97 => ?_)
                  have qv97 := ev38.symm.trans ev97; subst qv97
                  refine lv_iconst (v := 1) hx hb dX12_builds_100 rfl ?_
                  refine lv_isub hx hb dX12_builds_101 (lv_topi (fun v98 ev98 => ?_))
                  have ev98i : v98.toInt = (v38.toInt - 1) := i_sub ev98 rfl (by decide) (by omega) (by omega)
                  refine q_cast E hC24 hS31 gca (a := (26 + a1)) ev96i (by omega) (by omega) (cs_c26 (a := (26 + a1)) (b := (v38.toInt - 1)) (by omega) (by omega) ev98i (by omega) (by omega)) dX12_builds_102 (fun H99 locs99 hC99 hS99 U99 => ?_)
                  have hKp99 := Kp.upD gca rfl rfl (fun _ => ⟨fun _ => nd2 (by omega) (by omega), fun h => absurd h (by decide), fun _ => by unfold dpn; omega⟩) U99 hKp24
                  have hU99 := UH.ne hU24 U99 (Or.inr (by omega))
                  have e100 := up_I U99
                  refine lv_aload_n hx hb dX12_builds_103 rfl (lv_at hl 3 rfl) ?_
                  refine q_getC E hC99 g0 fa_RX12_35 uc dX12_builds_104 ?_
                  refine lv_bipush (v := 62) hx hb dX12_builds_107 rfl ?_
                  refine lv_iload_n hx hb dX12_builds_109 rfl (lv_at hl 4 rfl) ?_
                  refine lv_iadd hx hb dX12_builds_110 (lv_topi (fun v101 ev101 => ?_))
                  have ev101i : v101.toInt = (62 + a1) := i_add ev101 (by decide) e1 (by omega) (by omega)
                  refine lv_dup2_11 hx hb dX12_builds_111 rfl rfl ?_
                  have e103 := (up_nI (a' := ca) (j' := ((62 + a1) : Int).toNat) U99 (fun h => by have h2 := h.2; omega)).trans ev45
                  refine q_cald E hC99 (lo := 0) (hi := 99) gca (a := (62 + a1)) ev101i (by omega) (by omega) (cr_c26 (by omega) (by omega)) dX12_builds_112 (fun v102 ev102 lv102 uv102 => ?_)
                  have qv102 := e103.symm.trans ev102; subst qv102
                  refine lv_iconst (v := 1) hx hb dX12_builds_113 rfl ?_
                  refine lv_iadd hx hb dX12_builds_114 (lv_topi (fun v104 ev104 => ?_))
                  have ev104i : v104.toInt = (v45.toInt + 1) := i_add ev104 rfl (by decide) (by omega) (by omega)
                  refine q_cast E hC99 hS99 gca (a := (62 + a1)) ev101i (by omega) (by omega) (cs_c26 (a := (62 + a1)) (b := (v45.toInt + 1)) (by omega) (by omega) ev104i (by omega) (by omega)) dX12_builds_115 (fun H105 locs105 hC105 hS105 U105 => ?_)
                  have hKp105 := Kp.upD gca rfl rfl (fun _ => ⟨fun _ => nd2 (by omega) (by omega), fun h => absurd h (by decide), fun _ => by unfold dpn; omega⟩) U105 hKp99
                  have hU105 := UH.ne hU99 U105 (Or.inr (by omega))
                  have e106 := up_I U105
                  refine lv_aload_n hx hb dX12_builds_116 rfl (lv_at hl 3 rfl) ?_
                  refine q_getC E hC105 g0 fa_RX12_35 uc dX12_builds_117 ?_
                  refine lv_bipush (v := 14) hx hb dX12_builds_120 rfl ?_
                  refine lv_iload_n hx hb dX12_builds_122 rfl (lv_at hl 2 rfl) ?_
                  refine lv_iadd hx hb dX12_builds_123 (lv_topi (fun v107 ev107 => ?_))
                  have ev107i : v107.toInt = (14 + v22.toInt) := i_add ev107 (by decide) rfl (by omega) (by omega)
                  refine lv_dup2_11 hx hb dX12_builds_124 rfl rfl ?_
                  have e109 := (up_nI (a' := ca) (j' := ((14 + v22.toInt) : Int).toNat) U99 (fun h => by have h2 := h.2; omega)).trans ev35
                  have e110 := (up_nI (a' := ca) (j' := ((14 + v22.toInt) : Int).toNat) U105 (fun h => by have h2 := h.2; omega)).trans e109
                  refine q_cald E hC105 (lo := 0) (hi := 40) gca (a := (14 + v22.toInt)) ev107i (by omega) (by omega) (cr_c12 (by omega) (by omega)) dX12_builds_125 (fun v108 ev108 lv108 uv108 => ?_)
                  have qv108 := e110.symm.trans ev108; subst qv108
                  refine lv_iconst (v := 1) hx hb dX12_builds_126 rfl ?_
                  refine lv_iadd hx hb dX12_builds_127 (lv_topi (fun v111 ev111 => ?_))
                  have ev111i : v111.toInt = (v35.toInt + 1) := i_add ev111 rfl (by decide) (by omega) (by omega)
                  refine q_cast E hC105 hS105 gca (a := (14 + v22.toInt)) ev107i (by omega) (by omega) (cs_c12 (a := (14 + v22.toInt)) (b := (v35.toInt + 1)) (by omega) (by omega) ev111i (by omega) (by omega)) dX12_builds_128 (fun H112 locs112 hC112 hS112 U112 => ?_)
                  have hKp112 := Kp.upD gca rfl rfl (fun _ => ⟨fun _ => nd3 (by omega) (by omega), fun h => absurd h (by decide), fun _ => by unfold dpn; omega⟩) U112 hKp105
                  have e113 := (up_nI (a' := ca) (j' := ((12 + v22.toInt) : Int).toNat) U99 (fun h => by have h2 := h.2; omega)).trans ev33
                  have e114 := (up_nI (a' := ca) (j' := ((12 + v22.toInt) : Int).toNat) U105 (fun h => by have h2 := h.2; omega)).trans e113
                  have m115 : (sI H105 ca ((12 + v22.toInt)).toNat).toInt = v33.toInt := congrArg Int32.toInt e114
                  have hU112 := UH.at hU105 (t := v22.toInt) (by omega) (by omega) (by omega) U112 (b := (v35.toInt + 1)) ev111i (by omega)
                  have e116 := up_I U112
                  obtain ⟨v117, ev117⟩ : ∃ z, z = v23 + Int32.ofInt 1 := ⟨_, rfl⟩
                  have ev117i : v117.toInt = (z23 + 1) := i_add ev117 ev23 (by decide) (by omega) (by omega)
                  refine lv_iinc hx hb dX12_builds_129 hl (k := 1) rfl ev117.symm (by decide) rfl (fun ls hl => ?_)
                  replace hl : lv_has ls 6 [(4, .int v117), (5, .int 0), (3, .int v22), (0, .ref h0), (1, .int p1), (2, .int p2)] := hl
                  refine lv_aload_n hx hb dX12_builds_132 rfl (lv_at hl 3 rfl) ?_
                  refine q_getC E hC112 g0 fa_RX12_35 uc dX12_builds_133 ?_
                  refine lv_bipush (v := 18) hx hb dX12_builds_136 rfl ?_
                  refine q_cald E hC112 (lo := -2147483648) (hi := 2147483647) gca (a := 18) (show (18 : Int32).toInt = 18 from by decide) (by omega) (by omega) (cr_c16 (by omega) (by omega)) dX12_builds_138 (fun v118 ev118 _ _ => ?_)
                  refine lv_iconst (v := 1) hx hb dX12_builds_139 rfl ?_
                  refine q_icmp_ne hx hb (a := v118.toInt) (b := 1) rfl (by decide) (tgt := 184) dX12_builds_140 rfl (fun c119 => ?_) (fun c119 => ?_)
                  · refine lv_iload hx hb dX12_builds_184 (lv_at hl 1 rfl) ?_
                    refine q_if_eq hx hb (a := 0) (by decide) (tgt := 196) dX12_builds_186 rfl (fun c120 => ?_) (fun c120 => absurd c120 (by omega))
                    refine lv_goto (tgt := 12) hx hb dX12_builds_196 rfl ?_
                    exact ih24 H112 locs112 v117 ((z23 + 1)) ls (by omega) ev117i (by omega) hC112 hS112 hU112 hKp112 (lv_sub hl [0, 2, 3, 4, 5] rfl)
                  · refine lv_aload_n hx hb dX12_builds_143 rfl (lv_at hl 3 rfl) ?_
                    refine q_getC E hC112 g0 fa_RX12_35 uc dX12_builds_144 ?_
                    refine lv_bipush (v := 62) hx hb dX12_builds_147 rfl ?_
                    refine lv_iload_n hx hb dX12_builds_149 rfl (lv_at hl 4 rfl) ?_
                    refine lv_iadd hx hb dX12_builds_150 (lv_topi (fun v121 ev121 => ?_))
                    have ev121i : v121.toInt = (62 + a1) := i_add ev121 (by decide) e1 (by omega) (by omega)
                    have e123 := (up_nI (a' := ca) (j' := ((62 + a1) : Int).toNat) U112 (fun h => by have h2 := h.2; omega)).trans e106
                    refine q_cald E hC112 (lo := 0) (hi := 99) gca (a := (62 + a1)) ev121i (by omega) (by omega) (cr_c26 (by omega) (by omega)) dX12_builds_151 (fun v122 ev122 lv122 uv122 => ?_)
                    have qv122 := e123.symm.trans ev122; subst qv122
                    refine lv_aload_n hx hb dX12_builds_152 rfl (lv_at hl 3 rfl) ?_
                    refine q_getC E hC112 g0 fa_RX12_35 uc dX12_builds_153 ?_
                    refine lv_sipush (v := 134) hx hb dX12_builds_156 rfl ?_
                    refine lv_aload_n hx hb dX12_builds_159 rfl (lv_at hl 3 rfl) ?_
                    refine lv_iload_n hx hb dX12_builds_160 rfl (lv_at hl 4 rfl) ?_
                    refine q_goIp (q_runV (As := [.int p1]) (rest := [.int 134, .ref ca, .int v104]) E hC112 hS112 (m_X12_acrossOf l X Γ H112 hC112 h0 g0 p1 (a1 := a1) e1 ca gca uc (by omega) (by omega)) cw_X12_acrossOf cl_RX12_329 g0 ⟨rfl, rfl⟩ rfl hl.1 rfl (show _ ≤ _ from by simp [Value.category]) (by decide) dX12_builds_161) hS112 (fun v124 locs124 hr124 hS124 => ?_)
                    obtain ⟨f124_0, f124_1, f124_2⟩ := hr124
                    refine lv_iadd hx hb dX12_builds_164 (lv_topi (fun v125 ev125 => ?_))
                    have ev125i : v125.toInt = (134 + v124.toInt) := i_add ev125 (by decide) rfl (by omega) (by omega)
                    refine q_cald E hC112 (lo := -2147483648) (hi := 2147483647) gca (a := (134 + v124.toInt)) ev125i (by omega) (by omega) (fun _ h => cT_any h) dX12_builds_165 (fun v126 ev126 _ _ => ?_)
                    refine lv_aload_n hx hb dX12_builds_166 rfl (lv_at hl 3 rfl) ?_
                    refine q_getC E hC112 g0 fa_RX12_35 uc dX12_builds_167 ?_
                    refine lv_bipush (v := 22) hx hb dX12_builds_170 rfl ?_
                    refine q_cald E hC112 (lo := -2147483648) (hi := 2147483647) gca (a := 22) (show (22 : Int32).toInt = 22 from by decide) (by omega) (by omega) (cr_c16 (by omega) (by omega)) dX12_builds_172 (fun v127 ev127 _ _ => ?_)
                    refine lv_iadd hx hb dX12_builds_173 (lv_topi (fun v128 ev128 => ?_))
                    have c129 := i_rng v128; rw [show v128.toInt = v128.toInt from rfl] at c129
                    refine q_icmp_le hx hb (a := (v45.toInt + 1)) (b := v128.toInt) ev104i rfl (tgt := 184) dX12_builds_174 rfl (fun c130 => ?_) (fun c130 => ?_)
                    · refine lv_iload hx hb dX12_builds_184 (lv_at hl 1 rfl) ?_
                      refine q_if_eq hx hb (a := 0) (by decide) (tgt := 196) dX12_builds_186 rfl (fun c131 => ?_) (fun c131 => absurd c131 (by omega))
                      refine lv_goto (tgt := 12) hx hb dX12_builds_196 rfl ?_
                      exact ih24 H112 locs124 v117 ((z23 + 1)) ls (by omega) ev117i (by omega) hC112 hS124 hU112 hKp112 (lv_sub hl [0, 2, 3, 4, 5] rfl)
                    · refine lv_aload_n hx hb dX12_builds_177 rfl (lv_at hl 3 rfl) ?_
                      refine lv_iload_n hx hb dX12_builds_178 rfl (lv_at hl 2 rfl) ?_
                      refine lv_iconst (v := 0) hx hb dX12_builds_179 rfl ?_
                      refine lv_iload_n hx hb dX12_builds_180 rfl (lv_at hl 4 rfl) ?_
                      refine q_goV (q_runV (As := [.int v22, .int 0, .int p1]) (rest := []) E hC112 hS124 (m_X12_breaks l X Γ H112 hC112 h0 g0 v22 (a1 := v22.toInt) rfl 0 (a2 := 0) (by decide) p1 (a3 := a1) e1 ca gca uc (by omega) (by omega)) cw_X12_breaks cl_RX12_332 g0 ⟨rfl, rfl⟩ rfl hl.1 rfl (Nat.zero_le _) (by decide) dX12_builds_181) hS124 (fun H132 locs132 hr132 hC132 hS132 => ?_)
                      have hU132 := UH.kp hU112 hr132 gca rfl rfl
                      have hKp132 := hKp112.tr (hr132.mono rfl)
                      refine lv_iload hx hb dX12_builds_184 (lv_at hl 1 rfl) ?_
                      refine q_if_eq hx hb (a := 0) (by decide) (tgt := 196) dX12_builds_186 rfl (fun c133 => ?_) (fun c133 => absurd c133 (by omega))
                      refine lv_goto (tgt := 12) hx hb dX12_builds_196 rfl ?_
                      exact ih24 H132 locs132 v117 ((z23 + 1)) ls (by omega) ev117i (by omega) hC132 hS132 hU132 hKp132 (lv_sub hl [0, 2, 3, 4, 5] rfl)
                · refine lv_iconst (v := 1) hx hb dX12_builds_83 rfl ?_
                  refine lv_goto (tgt := 88) hx hb dX12_builds_84 rfl ?_
                  refine lv_istore hx hb dX12_builds_88 hl (by decide) rfl (fun ls hl => ?_)
                  replace hl : lv_has ls 6 [(5, .int 1), (4, .int v23), (3, .int v22), (0, .ref h0), (1, .int p1), (2, .int p2)] := hl
                  refine lv_aload_n hx hb dX12_builds_90 rfl (lv_at hl 3 rfl) ?_
                  refine q_getC E hC24 g0 fa_RX12_35 uc dX12_builds_91 ?_
                  refine lv_bipush (v := 26) hx hb dX12_builds_94 rfl ?_
                  refine lv_iload_n hx hb dX12_builds_96 rfl (lv_at hl 4 rfl) ?_
                  refine lv_iadd hx hb dX12_builds_97 (lv_topi (fun v134 ev134 => ?_))
                  have ev134i : v134.toInt = (26 + a1) := i_add ev134 (by decide) e1 (by omega) (by omega)
                  refine lv_dup2_11 hx hb dX12_builds_98 rfl rfl ?_
                  refine q_cald E hC24 (lo := 0) (hi := 99) gca (a := (26 + a1)) ev134i (by omega) (by omega) (cr_c26 (by omega) (by omega)) dX12_builds_99 (fun v135 ev135 lv135 uv135 => ?_)
                  have qv135 := ev38.symm.trans ev135; subst qv135
                  refine lv_iconst (v := 1) hx hb dX12_builds_100 rfl ?_
                  refine lv_isub hx hb dX12_builds_101 (lv_topi (fun v136 ev136 => ?_))
                  have ev136i : v136.toInt = (v38.toInt - 1) := i_sub ev136 rfl (by decide) (by omega) (by omega)
                  refine q_cast E hC24 hS31 gca (a := (26 + a1)) ev134i (by omega) (by omega) (cs_c26 (a := (26 + a1)) (b := (v38.toInt - 1)) (by omega) (by omega) ev136i (by omega) (by omega)) dX12_builds_102 (fun H137 locs137 hC137 hS137 U137 => ?_)
                  have hKp137 := Kp.upD gca rfl rfl (fun _ => ⟨fun _ => nd2 (by omega) (by omega), fun h => absurd h (by decide), fun _ => by unfold dpn; omega⟩) U137 hKp24
                  have hU137 := UH.ne hU24 U137 (Or.inr (by omega))
                  have e138 := up_I U137
                  refine lv_aload_n hx hb dX12_builds_103 rfl (lv_at hl 3 rfl) ?_
                  refine q_getC E hC137 g0 fa_RX12_35 uc dX12_builds_104 ?_
                  refine lv_bipush (v := 62) hx hb dX12_builds_107 rfl ?_
                  refine lv_iload_n hx hb dX12_builds_109 rfl (lv_at hl 4 rfl) ?_
                  refine lv_iadd hx hb dX12_builds_110 (lv_topi (fun v139 ev139 => ?_))
                  have ev139i : v139.toInt = (62 + a1) := i_add ev139 (by decide) e1 (by omega) (by omega)
                  refine lv_dup2_11 hx hb dX12_builds_111 rfl rfl ?_
                  have e141 := (up_nI (a' := ca) (j' := ((62 + a1) : Int).toNat) U137 (fun h => by have h2 := h.2; omega)).trans ev45
                  refine q_cald E hC137 (lo := 0) (hi := 99) gca (a := (62 + a1)) ev139i (by omega) (by omega) (cr_c26 (by omega) (by omega)) dX12_builds_112 (fun v140 ev140 lv140 uv140 => ?_)
                  have qv140 := e141.symm.trans ev140; subst qv140
                  refine lv_iconst (v := 1) hx hb dX12_builds_113 rfl ?_
                  refine lv_iadd hx hb dX12_builds_114 (lv_topi (fun v142 ev142 => ?_))
                  have ev142i : v142.toInt = (v45.toInt + 1) := i_add ev142 rfl (by decide) (by omega) (by omega)
                  refine q_cast E hC137 hS137 gca (a := (62 + a1)) ev139i (by omega) (by omega) (cs_c26 (a := (62 + a1)) (b := (v45.toInt + 1)) (by omega) (by omega) ev142i (by omega) (by omega)) dX12_builds_115 (fun H143 locs143 hC143 hS143 U143 => ?_)
                  have hKp143 := Kp.upD gca rfl rfl (fun _ => ⟨fun _ => nd2 (by omega) (by omega), fun h => absurd h (by decide), fun _ => by unfold dpn; omega⟩) U143 hKp137
                  have hU143 := UH.ne hU137 U143 (Or.inr (by omega))
                  have e144 := up_I U143
                  refine lv_aload_n hx hb dX12_builds_116 rfl (lv_at hl 3 rfl) ?_
                  refine q_getC E hC143 g0 fa_RX12_35 uc dX12_builds_117 ?_
                  refine lv_bipush (v := 14) hx hb dX12_builds_120 rfl ?_
                  refine lv_iload_n hx hb dX12_builds_122 rfl (lv_at hl 2 rfl) ?_
                  refine lv_iadd hx hb dX12_builds_123 (lv_topi (fun v145 ev145 => ?_))
                  have ev145i : v145.toInt = (14 + v22.toInt) := i_add ev145 (by decide) rfl (by omega) (by omega)
                  refine lv_dup2_11 hx hb dX12_builds_124 rfl rfl ?_
                  have e147 := (up_nI (a' := ca) (j' := ((14 + v22.toInt) : Int).toNat) U137 (fun h => by have h2 := h.2; omega)).trans ev35
                  have e148 := (up_nI (a' := ca) (j' := ((14 + v22.toInt) : Int).toNat) U143 (fun h => by have h2 := h.2; omega)).trans e147
                  refine q_cald E hC143 (lo := 0) (hi := 40) gca (a := (14 + v22.toInt)) ev145i (by omega) (by omega) (cr_c12 (by omega) (by omega)) dX12_builds_125 (fun v146 ev146 lv146 uv146 => ?_)
                  have qv146 := e148.symm.trans ev146; subst qv146
                  refine lv_iconst (v := 1) hx hb dX12_builds_126 rfl ?_
                  refine lv_iadd hx hb dX12_builds_127 (lv_topi (fun v149 ev149 => ?_))
                  have ev149i : v149.toInt = (v35.toInt + 1) := i_add ev149 rfl (by decide) (by omega) (by omega)
                  refine q_cast E hC143 hS143 gca (a := (14 + v22.toInt)) ev145i (by omega) (by omega) (cs_c12 (a := (14 + v22.toInt)) (b := (v35.toInt + 1)) (by omega) (by omega) ev149i (by omega) (by omega)) dX12_builds_128 (fun H150 locs150 hC150 hS150 U150 => ?_)
                  have hKp150 := Kp.upD gca rfl rfl (fun _ => ⟨fun _ => nd3 (by omega) (by omega), fun h => absurd h (by decide), fun _ => by unfold dpn; omega⟩) U150 hKp143
                  have e151 := (up_nI (a' := ca) (j' := ((12 + v22.toInt) : Int).toNat) U137 (fun h => by have h2 := h.2; omega)).trans ev33
                  have e152 := (up_nI (a' := ca) (j' := ((12 + v22.toInt) : Int).toNat) U143 (fun h => by have h2 := h.2; omega)).trans e151
                  have m153 : (sI H143 ca ((12 + v22.toInt)).toNat).toInt = v33.toInt := congrArg Int32.toInt e152
                  have hU150 := UH.at hU143 (t := v22.toInt) (by omega) (by omega) (by omega) U150 (b := (v35.toInt + 1)) ev149i (by omega)
                  have e154 := up_I U150
                  obtain ⟨v155, ev155⟩ : ∃ z, z = v23 + Int32.ofInt 1 := ⟨_, rfl⟩
                  have ev155i : v155.toInt = (z23 + 1) := i_add ev155 ev23 (by decide) (by omega) (by omega)
                  refine lv_iinc hx hb dX12_builds_129 hl (k := 1) rfl ev155.symm (by decide) rfl (fun ls hl => ?_)
                  replace hl : lv_has ls 6 [(4, .int v155), (5, .int 1), (3, .int v22), (0, .ref h0), (1, .int p1), (2, .int p2)] := hl
                  refine lv_aload_n hx hb dX12_builds_132 rfl (lv_at hl 3 rfl) ?_
                  refine q_getC E hC150 g0 fa_RX12_35 uc dX12_builds_133 ?_
                  refine lv_bipush (v := 18) hx hb dX12_builds_136 rfl ?_
                  refine q_cald E hC150 (lo := -2147483648) (hi := 2147483647) gca (a := 18) (show (18 : Int32).toInt = 18 from by decide) (by omega) (by omega) (cr_c16 (by omega) (by omega)) dX12_builds_138 (fun v156 ev156 _ _ => ?_)
                  refine lv_iconst (v := 1) hx hb dX12_builds_139 rfl ?_
                  refine q_icmp_ne hx hb (a := v156.toInt) (b := 1) rfl (by decide) (tgt := 184) dX12_builds_140 rfl (fun c157 => ?_) (fun c157 => ?_)
                  · refine lv_iload hx hb dX12_builds_184 (lv_at hl 1 rfl) ?_
                    refine q_if_eq hx hb (a := 1) (by decide) (tgt := 196) dX12_builds_186 rfl (fun c158 => absurd c158 (by omega)) (fun c158 => ?_)
                    refine lv_aload_n hx hb dX12_builds_189 rfl (lv_at hl 3 rfl) ?_
                    refine lv_iload_n hx hb dX12_builds_190 rfl (lv_at hl 2 rfl) ?_
                    refine lv_iconst (v := 1) hx hb dX12_builds_191 rfl ?_
                    refine lv_iload_n hx hb dX12_builds_192 rfl (lv_at hl 4 rfl) ?_
                    refine q_goV (q_runV (As := [.int v22, .int 1, .int p1]) (rest := []) E hC150 hS150 (m_X12_breaks l X Γ H150 hC150 h0 g0 v22 (a1 := v22.toInt) rfl 1 (a2 := 1) (by decide) p1 (a3 := a1) e1 ca gca uc (by omega) (by omega)) cw_X12_breaks cl_RX12_332 g0 ⟨rfl, rfl⟩ rfl hl.1 rfl (Nat.zero_le _) (by decide) dX12_builds_193) hS150 (fun H159 locs159 hr159 hC159 hS159 => ?_)
                    have hU159 := UH.kp hU150 hr159 gca rfl rfl
                    have hKp159 := hKp150.tr (hr159.mono rfl)
                    refine lv_goto (tgt := 12) hx hb dX12_builds_196 rfl ?_
                    exact ih24 H159 locs159 v155 ((z23 + 1)) ls (by omega) ev155i (by omega) hC159 hS159 hU159 hKp159 (lv_sub hl [0, 2, 3, 4, 5] rfl)
                  · refine lv_aload_n hx hb dX12_builds_143 rfl (lv_at hl 3 rfl) ?_
                    refine q_getC E hC150 g0 fa_RX12_35 uc dX12_builds_144 ?_
                    refine lv_bipush (v := 62) hx hb dX12_builds_147 rfl ?_
                    refine lv_iload_n hx hb dX12_builds_149 rfl (lv_at hl 4 rfl) ?_
                    refine lv_iadd hx hb dX12_builds_150 (lv_topi (fun v160 ev160 => ?_))
                    have ev160i : v160.toInt = (62 + a1) := i_add ev160 (by decide) e1 (by omega) (by omega)
                    have e162 := (up_nI (a' := ca) (j' := ((62 + a1) : Int).toNat) U150 (fun h => by have h2 := h.2; omega)).trans e144
                    refine q_cald E hC150 (lo := 0) (hi := 99) gca (a := (62 + a1)) ev160i (by omega) (by omega) (cr_c26 (by omega) (by omega)) dX12_builds_151 (fun v161 ev161 lv161 uv161 => ?_)
                    have qv161 := e162.symm.trans ev161; subst qv161
                    refine lv_aload_n hx hb dX12_builds_152 rfl (lv_at hl 3 rfl) ?_
                    refine q_getC E hC150 g0 fa_RX12_35 uc dX12_builds_153 ?_
                    refine lv_sipush (v := 134) hx hb dX12_builds_156 rfl ?_
                    refine lv_aload_n hx hb dX12_builds_159 rfl (lv_at hl 3 rfl) ?_
                    refine lv_iload_n hx hb dX12_builds_160 rfl (lv_at hl 4 rfl) ?_
                    refine q_goIp (q_runV (As := [.int p1]) (rest := [.int 134, .ref ca, .int v142]) E hC150 hS150 (m_X12_acrossOf l X Γ H150 hC150 h0 g0 p1 (a1 := a1) e1 ca gca uc (by omega) (by omega)) cw_X12_acrossOf cl_RX12_329 g0 ⟨rfl, rfl⟩ rfl hl.1 rfl (show _ ≤ _ from by simp [Value.category]) (by decide) dX12_builds_161) hS150 (fun v163 locs163 hr163 hS163 => ?_)
                    obtain ⟨f163_0, f163_1, f163_2⟩ := hr163
                    refine lv_iadd hx hb dX12_builds_164 (lv_topi (fun v164 ev164 => ?_))
                    have ev164i : v164.toInt = (134 + v163.toInt) := i_add ev164 (by decide) rfl (by omega) (by omega)
                    refine q_cald E hC150 (lo := -2147483648) (hi := 2147483647) gca (a := (134 + v163.toInt)) ev164i (by omega) (by omega) (fun _ h => cT_any h) dX12_builds_165 (fun v165 ev165 _ _ => ?_)
                    refine lv_aload_n hx hb dX12_builds_166 rfl (lv_at hl 3 rfl) ?_
                    refine q_getC E hC150 g0 fa_RX12_35 uc dX12_builds_167 ?_
                    refine lv_bipush (v := 22) hx hb dX12_builds_170 rfl ?_
                    refine q_cald E hC150 (lo := -2147483648) (hi := 2147483647) gca (a := 22) (show (22 : Int32).toInt = 22 from by decide) (by omega) (by omega) (cr_c16 (by omega) (by omega)) dX12_builds_172 (fun v166 ev166 _ _ => ?_)
                    refine lv_iadd hx hb dX12_builds_173 (lv_topi (fun v167 ev167 => ?_))
                    have c168 := i_rng v167; rw [show v167.toInt = v167.toInt from rfl] at c168
                    refine q_icmp_le hx hb (a := (v45.toInt + 1)) (b := v167.toInt) ev142i rfl (tgt := 184) dX12_builds_174 rfl (fun c169 => ?_) (fun c169 => ?_)
                    · refine lv_iload hx hb dX12_builds_184 (lv_at hl 1 rfl) ?_
                      refine q_if_eq hx hb (a := 1) (by decide) (tgt := 196) dX12_builds_186 rfl (fun c170 => absurd c170 (by omega)) (fun c170 => ?_)
                      refine lv_aload_n hx hb dX12_builds_189 rfl (lv_at hl 3 rfl) ?_
                      refine lv_iload_n hx hb dX12_builds_190 rfl (lv_at hl 2 rfl) ?_
                      refine lv_iconst (v := 1) hx hb dX12_builds_191 rfl ?_
                      refine lv_iload_n hx hb dX12_builds_192 rfl (lv_at hl 4 rfl) ?_
                      refine q_goV (q_runV (As := [.int v22, .int 1, .int p1]) (rest := []) E hC150 hS163 (m_X12_breaks l X Γ H150 hC150 h0 g0 v22 (a1 := v22.toInt) rfl 1 (a2 := 1) (by decide) p1 (a3 := a1) e1 ca gca uc (by omega) (by omega)) cw_X12_breaks cl_RX12_332 g0 ⟨rfl, rfl⟩ rfl hl.1 rfl (Nat.zero_le _) (by decide) dX12_builds_193) hS163 (fun H171 locs171 hr171 hC171 hS171 => ?_)
                      have hU171 := UH.kp hU150 hr171 gca rfl rfl
                      have hKp171 := hKp150.tr (hr171.mono rfl)
                      refine lv_goto (tgt := 12) hx hb dX12_builds_196 rfl ?_
                      exact ih24 H171 locs171 v155 ((z23 + 1)) ls (by omega) ev155i (by omega) hC171 hS171 hU171 hKp171 (lv_sub hl [0, 2, 3, 4, 5] rfl)
                    · refine lv_aload_n hx hb dX12_builds_177 rfl (lv_at hl 3 rfl) ?_
                      refine lv_iload_n hx hb dX12_builds_178 rfl (lv_at hl 2 rfl) ?_
                      refine lv_iconst (v := 0) hx hb dX12_builds_179 rfl ?_
                      refine lv_iload_n hx hb dX12_builds_180 rfl (lv_at hl 4 rfl) ?_
                      refine q_goV (q_runV (As := [.int v22, .int 0, .int p1]) (rest := []) E hC150 hS163 (m_X12_breaks l X Γ H150 hC150 h0 g0 v22 (a1 := v22.toInt) rfl 0 (a2 := 0) (by decide) p1 (a3 := a1) e1 ca gca uc (by omega) (by omega)) cw_X12_breaks cl_RX12_332 g0 ⟨rfl, rfl⟩ rfl hl.1 rfl (Nat.zero_le _) (by decide) dX12_builds_181) hS163 (fun H172 locs172 hr172 hC172 hS172 => ?_)
                      have hU172 := UH.kp hU150 hr172 gca rfl rfl
                      have hKp172 := hKp150.tr (hr172.mono rfl)
                      refine lv_iload hx hb dX12_builds_184 (lv_at hl 1 rfl) ?_
                      refine q_if_eq hx hb (a := 1) (by decide) (tgt := 196) dX12_builds_186 rfl (fun c173 => absurd c173 (by omega)) (fun c173 => ?_)
                      refine lv_aload_n hx hb dX12_builds_189 rfl (lv_at hl 3 rfl) ?_
                      refine lv_iload_n hx hb dX12_builds_190 rfl (lv_at hl 2 rfl) ?_
                      refine lv_iconst (v := 1) hx hb dX12_builds_191 rfl ?_
                      refine lv_iload_n hx hb dX12_builds_192 rfl (lv_at hl 4 rfl) ?_
                      refine q_goV (q_runV (As := [.int v22, .int 1, .int p1]) (rest := []) E hC172 hS172 (m_X12_breaks l X Γ H172 hC172 h0 g0 v22 (a1 := v22.toInt) rfl 1 (a2 := 1) (by decide) p1 (a3 := a1) e1 ca gca uc (by omega) (by omega)) cw_X12_breaks cl_RX12_332 g0 ⟨rfl, rfl⟩ rfl hl.1 rfl (Nat.zero_le _) (by decide) dX12_builds_193) hS172 (fun H174 locs174 hr174 hC174 hS174 => ?_)
                      have hU174 := UH.kp hU172 hr174 gca rfl rfl
                      have hKp174 := hKp172.tr (hr174.mono rfl)
                      refine lv_goto (tgt := 12) hx hb dX12_builds_196 rfl ?_
                      exact ih24 H174 locs174 v155 ((z23 + 1)) ls (by omega) ev155i (by omega) hC174 hS174 hU174 hKp174 (lv_sub hl [0, 2, 3, 4, 5] rfl)
        · refine q_if_eq hx hb (a := 0) (by decide) (tgt := 199) dX12_builds_24 rfl (fun c175 => ?_) (fun c175 => absurd c175 (by omega))
          refine lv_iload hx hb dX12_builds_199 (lv_at hl 0 rfl) ?_
          refine q_if_le hx hb (a := z23) ev23 (tgt := 215) dX12_builds_201 rfl (fun c176 => ?_) (fun c176 => ?_)
          · refine lv_iload hx hb dX12_builds_215 (lv_at hl 0 rfl) ?_
            exact ret v23 H24 locs31 _ _ dX12_builds_217 ⟨⟨hKp24, hU24⟩, trivial⟩ hC24 hS31
          · refine lv_aload_n hx hb dX12_builds_204 rfl (lv_at hl 2 rfl) ?_
            refine q_getC E hC24 g0 fa_RX12_35 uc dX12_builds_205 ?_
            refine lv_sipush (v := 206) hx hb dX12_builds_208 rfl ?_
            refine lv_iload_n hx hb dX12_builds_211 rfl (lv_at hl 3 rfl) ?_
            refine lv_iadd hx hb dX12_builds_212 (lv_topi (fun v177 ev177 => ?_))
            have ev177i : v177.toInt = (206 + a1) := i_add ev177 (by decide) e1 (by omega) (by omega)
            refine lv_iconst (v := 0) hx hb dX12_builds_213 rfl ?_
            refine q_cast E hC24 hS31 gca (a := (206 + a1)) ev177i (by omega) (by omega) (cs_c134 (a := (206 + a1)) (by omega) (by omega)) dX12_builds_214 (fun H178 locs178 hC178 hS178 U178 => ?_)
            have hKp178 := Kp.upD gca rfl rfl (fun _ => ⟨fun _ => nd2 (by omega) (by omega), fun h => absurd h (by decide), fun _ => by unfold dpn; omega⟩) U178 hKp24
            have hU178 := UH.ne hU24 U178 (Or.inr (by omega))
            have e179 := up_I U178
            refine lv_iload hx hb dX12_builds_215 (lv_at hl 0 rfl) ?_
            exact ret v23 H178 locs178 _ _ dX12_builds_217 ⟨⟨hKp178, hU178⟩, trivial⟩ hC178 hS178
  exact L12 _ H0 locs22 0 0 ls (Nat.lt_succ_self _) (by decide) (by omega) hC0 hS22 hu0 hKp0 hl
