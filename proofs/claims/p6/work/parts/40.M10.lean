set_option maxRecDepth 100000 in
set_option maxHeartbeats 4000000 in
theorem m_X12_school (l : Launch) (X : xW) (Γ : Nat → Option Nat) (H0 : Heap) (hC0 : Conf X Γ H0) (h0 : Nat) (g0 : Γ h0 = some 11) (p1 : Int32) {a1 : Int} (e1 : p1.toInt = a1) (p2 : Int32) {a2 : Int} (e2 : p2.toInt = a2) (ca : Nat) (gca : Γ ca = some 64) (uc : ∀ a, Γ a = some 64 → a = ca) : Ctr l X Γ yX12_school cX12_school 3 (some .int) 2 [.ref h0, .int p1, .int p2] H0 (QI X Γ (fun v H1 => Kp X Γ [1, 6, 7, 8, 9, 10, 11, 12, 14, 15, 16, 17, 19, 22, 24] H0 H1 ∧ (True))) := by
  refine q_enterI (own := "SnowFortsModel") (by decide) rfl (Nat.le_of_ble_eq_true rfl) ?_
  intro p e s m args below meth c ls Qz E hl ret hS0
  have hx := E.1; have hb := E.2.1
  have hKp0 : Kp X Γ [1, 6, 7, 8, 9, 10, 11, 12, 14, 15, 16, 17, 19, 22, 24] H0 H0 := Kp.rf
  have hl : lv_has ls 3 [(0, .ref h0), (1, .int p1), (2, .int p2)] := hl
  refine lv_aload_n hx hb dX12_school_0 rfl (lv_at hl 0 rfl) ?_
  refine lv_iconst (v := 0) hx hb dX12_school_1 rfl ?_
  refine q_put E hC0 hS0 g0 fp_RX12_69 tv_F rfl rfl dX12_school_2 (fun H21 locs21 hC21 hS21 U21 => ?_)
  have hKp21 := Kp.upO E g0 fp_RX12_69 rfl U21 hKp0
  have e22 := up_I U21
  refine lv_aload_n hx hb dX12_school_5 rfl (lv_at hl 0 rfl) ?_
  refine lv_iconst (v := 0) hx hb dX12_school_6 rfl ?_
  refine q_put E hC21 hS21 g0 fp_RX12_72 tv_F rfl rfl dX12_school_7 (fun H23 locs23 hC23 hS23 U23 => ?_)
  have hKp23 := Kp.upO E g0 fp_RX12_72 rfl U23 hKp21
  have e24 := up_I U23
  refine lv_aload_n hx hb dX12_school_10 rfl (lv_at hl 0 rfl) ?_
  refine lv_iload_n hx hb dX12_school_11 rfl (lv_at hl 1 rfl) ?_
  refine q_goIp (q_runV (As := [.int p1]) (rest := []) E hC23 hS23 (m_X12_isSchoolAt l X Γ H23 hC23 h0 g0 p1 (a1 := a1) e1 ca gca uc) cw_X12_isSchoolAt cl_RX12_304 g0 ⟨rfl, rfl⟩ rfl hl.1 rfl (Nat.zero_le _) (by decide) dX12_school_12) hS23 (fun v25 locs25 hr25 hS25 => ?_)
  rcases hr25 with ⟨rfl, f25a0, f25a1⟩ | ⟨rfl, -⟩
  · refine q_if_ne hx hb (a := 1) (by decide) (tgt := 24) dX12_school_15 rfl (fun c26 => ?_) (fun c26 => absurd c26 (by omega))
    refine lv_iload_n hx hb dX12_school_24 rfl (lv_at hl 2 rfl) ?_
    by_cases c27_0 : a2 = 0
    · have c27_x := (show p2.toInt = a2 from e2).trans c27_0
      refine lv_tableIn hx hb dX12_school_25 (by rw [c27_x]; decide) (by rw [c27_x]; decide) (off := 35) (by rw [c27_x]; rfl) (tgt := 60) rfl ?_
      refine lv_aload_n hx hb dX12_school_60 rfl (lv_at hl 0 rfl) ?_
      refine q_getC E hC23 g0 fa_RX12_35 uc dX12_school_61 ?_
      refine lv_bipush (v := 12) hx hb dX12_school_64 rfl ?_
      refine lv_iload_n hx hb dX12_school_66 rfl (lv_at hl 1 rfl) ?_
      refine lv_iadd hx hb dX12_school_67 (lv_topi (fun v28 ev28 => ?_))
      have ev28i : v28.toInt = (12 + a1) := i_add ev28 (by decide) e1 (by omega) (by omega)
      refine q_cald E hC23 (lo := 0) (hi := 40) gca (a := (12 + a1)) ev28i (by omega) (by omega) (cr_c12 (by omega) (by omega)) dX12_school_68 (fun v29 ev29 lv29 uv29 => ?_)
      exact ret v29 H23 locs25 _ _ dX12_school_69 ⟨hKp23, trivial⟩ hC23 hS25
    by_cases c27_1 : a2 = 1
    · have c27_x := (show p2.toInt = a2 from e2).trans c27_1
      refine lv_tableIn hx hb dX12_school_25 (by rw [c27_x]; decide) (by rw [c27_x]; decide) (off := 45) (by rw [c27_x]; rfl) (tgt := 70) rfl ?_
      refine lv_aload_n hx hb dX12_school_70 rfl (lv_at hl 0 rfl) ?_
      refine q_getC E hC23 g0 fa_RX12_35 uc dX12_school_71 ?_
      refine lv_bipush (v := 14) hx hb dX12_school_74 rfl ?_
      refine lv_iload_n hx hb dX12_school_76 rfl (lv_at hl 1 rfl) ?_
      refine lv_iadd hx hb dX12_school_77 (lv_topi (fun v30 ev30 => ?_))
      have ev30i : v30.toInt = (14 + a1) := i_add ev30 (by decide) e1 (by omega) (by omega)
      refine q_cald E hC23 (lo := 0) (hi := 40) gca (a := (14 + a1)) ev30i (by omega) (by omega) (cr_c12 (by omega) (by omega)) dX12_school_78 (fun v31 ev31 lv31 uv31 => ?_)
      exact ret v31 H23 locs25 _ _ dX12_school_79 ⟨hKp23, trivial⟩ hC23 hS25
    by_cases c27_2 : a2 = 2
    · have c27_x := (show p2.toInt = a2 from e2).trans c27_2
      refine lv_tableIn hx hb dX12_school_25 (by rw [c27_x]; decide) (by rw [c27_x]; decide) (off := 55) (by rw [c27_x]; rfl) (tgt := 80) rfl ?_
      refine lv_aload_n hx hb dX12_school_80 rfl (lv_at hl 0 rfl) ?_
      refine q_getC E hC23 g0 fa_RX12_35 uc dX12_school_81 ?_
      refine lv_bipush (v := 16) hx hb dX12_school_84 rfl ?_
      refine lv_iload_n hx hb dX12_school_86 rfl (lv_at hl 1 rfl) ?_
      refine lv_iadd hx hb dX12_school_87 (lv_topi (fun v32 ev32 => ?_))
      have ev32i : v32.toInt = (16 + a1) := i_add ev32 (by decide) e1 (by omega) (by omega)
      refine q_cald E hC23 (lo := -2147483648) (hi := 2147483647) gca (a := (16 + a1)) ev32i (by omega) (by omega) (cr_c16 (by omega) (by omega)) dX12_school_88 (fun v33 ev33 _ _ => ?_)
      exact ret v33 H23 locs25 _ _ dX12_school_89 ⟨hKp23, trivial⟩ hC23 hS25
    by_cases c27_3 : a2 = 3
    · have c27_x := (show p2.toInt = a2 from e2).trans c27_3
      refine lv_tableIn hx hb dX12_school_25 (by rw [c27_x]; decide) (by rw [c27_x]; decide) (off := 65) (by rw [c27_x]; rfl) (tgt := 90) rfl ?_
      refine lv_aload_n hx hb dX12_school_90 rfl (lv_at hl 0 rfl) ?_
      refine lv_sipush (v := 170) hx hb dX12_school_91 rfl ?_
      refine lv_iload_n hx hb dX12_school_94 rfl (lv_at hl 1 rfl) ?_
      refine q_goIp (q_runV (As := [.int 170, .int p1]) (rest := []) E hC23 hS25 (m_X12_allOfHalf l X Γ H23 hC23 h0 g0 170 (a1 := 170) (by decide) p1 (a2 := a1) e1 ca gca uc (by omega) (by omega)) cw_X12_allOfHalf cl_RX12_307 g0 ⟨rfl, rfl⟩ rfl hl.1 rfl (Nat.zero_le _) (by decide) dX12_school_95) hS25 (fun v34 locs34 hr34 hS34 => ?_)
      exact ret v34 H23 locs34 _ _ dX12_school_98 ⟨hKp23, trivial⟩ hC23 hS34
    by_cases c27_4 : a2 = 4
    · have c27_x := (show p2.toInt = a2 from e2).trans c27_4
      refine lv_tableIn hx hb dX12_school_25 (by rw [c27_x]; decide) (by rw [c27_x]; decide) (off := 74) (by rw [c27_x]; rfl) (tgt := 99) rfl ?_
      refine lv_aload_n hx hb dX12_school_99 rfl (lv_at hl 0 rfl) ?_
      refine lv_bipush (v := 62) hx hb dX12_school_100 rfl ?_
      refine lv_iload_n hx hb dX12_school_102 rfl (lv_at hl 1 rfl) ?_
      refine q_goIp (q_runV (As := [.int 62, .int p1]) (rest := []) E hC23 hS25 (m_X12_allOfHalf l X Γ H23 hC23 h0 g0 62 (a1 := 62) (by decide) p1 (a2 := a1) e1 ca gca uc (by omega) (by omega)) cw_X12_allOfHalf cl_RX12_307 g0 ⟨rfl, rfl⟩ rfl hl.1 rfl (Nat.zero_le _) (by decide) dX12_school_103) hS25 (fun v35 locs35 hr35 hS35 => ?_)
      exact ret v35 H23 locs35 _ _ dX12_school_106 ⟨hKp23, trivial⟩ hC23 hS35
    refine lv_tableOut hx hb dX12_school_25 (by rw [show p2.toInt = a2 from e2]; omega) (tgt := 107) rfl ?_
    refine lv_aload_n hx hb dX12_school_107 rfl (lv_at hl 0 rfl) ?_
    refine lv_iconst (v := 5) hx hb dX12_school_108 rfl ?_
    refine q_goI (q_runV (As := [.int 5]) (rest := []) E hC23 hS25 (m_X12_refuse l X Γ H23 hC23 h0 g0 5 (a1 := 5) (by decide) ca gca uc) cw_X12_refuse cl_RX12_298 g0 ⟨rfl, rfl⟩ rfl hl.1 rfl (Nat.zero_le _) (by decide) dX12_school_109) hS25 (fun v36 H36 locs36 hr36 hC36 hS36 => ?_)
    obtain ⟨hp36, hr36⟩ := hr36
    have hKp36 := hKp23.tr (hp36.mono rfl)
    have f36_0 := hr36
    exact ret v36 H36 locs36 _ _ dX12_school_112 ⟨hKp36, trivial⟩ hC36 hS36
  · refine q_if_ne hx hb (a := 0) (by decide) (tgt := 24) dX12_school_15 rfl (fun c37 => absurd c37 (by omega)) (fun c37 => ?_)
    refine lv_aload_n hx hb dX12_school_18 rfl (lv_at hl 0 rfl) ?_
    refine lv_iconst (v := 2) hx hb dX12_school_19 rfl ?_
    refine q_goI (q_runV (As := [.int 2]) (rest := []) E hC23 hS25 (m_X12_refuse l X Γ H23 hC23 h0 g0 2 (a1 := 2) (by decide) ca gca uc) cw_X12_refuse cl_RX12_298 g0 ⟨rfl, rfl⟩ rfl hl.1 rfl (Nat.zero_le _) (by decide) dX12_school_20) hS25 (fun v38 H38 locs38 hr38 hC38 hS38 => ?_)
    obtain ⟨hp38, hr38⟩ := hr38
    have hKp38 := hKp23.tr (hp38.mono rfl)
    have f38_0 := hr38
    exact ret v38 H38 locs38 _ _ dX12_school_23 ⟨hKp38, trivial⟩ hC38 hS38
set_option maxRecDepth 100000 in
set_option maxHeartbeats 4000000 in
theorem m_X12_article (l : Launch) (X : xW) (Γ : Nat → Option Nat) (H0 : Heap) (hC0 : Conf X Γ H0) (h0 : Nat) (g0 : Γ h0 = some 11) (p1 : Int32) {a1 : Int} (e1 : p1.toInt = a1) (ca : Nat) (gca : Γ ca = some 64) (uc : ∀ a, Γ a = some 64 → a = ca) : Ctr l X Γ yX12_article cX12_article 2 (some .int) 1 [.ref h0, .int p1] H0 (QI X Γ (fun v H1 => Kp X Γ [1, 6, 7, 8, 9, 10, 11, 12, 14, 15, 16, 17, 19, 22, 24] H0 H1 ∧ (True))) := by
  refine q_enterI (own := "SnowFortsModel") (by decide) rfl (Nat.le_of_ble_eq_true rfl) ?_
  intro p e s m args below meth c ls Qz E hl ret hS0
  have hx := E.1; have hb := E.2.1
  have hKp0 : Kp X Γ [1, 6, 7, 8, 9, 10, 11, 12, 14, 15, 16, 17, 19, 22, 24] H0 H0 := Kp.rf
  have hl : lv_has ls 2 [(0, .ref h0), (1, .int p1)] := hl
  refine lv_aload_n hx hb dX12_article_0 rfl (lv_at hl 0 rfl) ?_
  refine lv_iconst (v := 0) hx hb dX12_article_1 rfl ?_
  refine q_put E hC0 hS0 g0 fp_RX12_69 tv_F rfl rfl dX12_article_2 (fun H21 locs21 hC21 hS21 U21 => ?_)
  have hKp21 := Kp.upO E g0 fp_RX12_69 rfl U21 hKp0
  have e22 := up_I U21
  refine lv_aload_n hx hb dX12_article_5 rfl (lv_at hl 0 rfl) ?_
  refine lv_iconst (v := 0) hx hb dX12_article_6 rfl ?_
  refine q_put E hC21 hS21 g0 fp_RX12_72 tv_F rfl rfl dX12_article_7 (fun H23 locs23 hC23 hS23 U23 => ?_)
  have hKp23 := Kp.upO E g0 fp_RX12_72 rfl U23 hKp21
  have e24 := up_I U23
  refine lv_iload_n hx hb dX12_article_10 rfl (lv_at hl 1 rfl) ?_
  refine lv_i2l (v := p1.toInt64) hx hb dX12_article_11 rfl (lv_topl (fun v25 ev25 => ?_))
  have ev25i : v25.toInt = a1 := l_ofi ev25.symm e1
  refine lv_lconst (v := 0) hx hb dX12_article_12 rfl ?_
  refine lv_ldc2 (v := 3) hx hb E.2.2.2.1 (E.2.2.2.2.1 _ w_1716) dX12_article_13 ?_
  refine q_goIp (q_runS (As := [.long v25, .long 0, .long 3]) (rest := []) E hS23 (m_X12_isIn l X Γ H23 hC23 v25 (a0 := a1) ev25i 0 (a1 := 0) (show (0 : Int64).toInt = 0 from by decide) 3 (a2 := 3) (show (3 : Int64).toInt = 3 from by decide)) cw_X12_isIn cl_RX12_104 rfl hl.1 rfl (Nat.zero_le _) (by decide) dX12_article_16) hS23 (fun v26 locs26 hr26 hS26 => ?_)
  rcases hr26 with ⟨rfl, f26a0, f26a1⟩ | ⟨rfl, f26b⟩
  · refine q_if_ne hx hb (a := 1) (by decide) (tgt := 28) dX12_article_19 rfl (fun c27 => ?_) (fun c27 => absurd c27 (by omega))
    refine lv_aload_n hx hb dX12_article_28 rfl (lv_at hl 0 rfl) ?_
    refine q_getC E hC23 g0 fa_RX12_35 uc dX12_article_29 ?_
    refine lv_bipush (v := 18) hx hb dX12_article_32 rfl ?_
    refine lv_iload_n hx hb dX12_article_34 rfl (lv_at hl 1 rfl) ?_
    refine lv_iadd hx hb dX12_article_35 (lv_topi (fun v28 ev28 => ?_))
    have ev28i : v28.toInt = (18 + a1) := i_add ev28 (by decide) e1 (by omega) (by omega)
    refine q_cald E hC23 (lo := -2147483648) (hi := 2147483647) gca (a := (18 + a1)) ev28i (by omega) (by omega) (cr_c16 (by omega) (by omega)) dX12_article_36 (fun v29 ev29 _ _ => ?_)
    refine q_if_ne hx hb (a := v29.toInt) rfl (tgt := 49) dX12_article_37 rfl (fun c30 => ?_) (fun c30 => ?_)
    · refine lv_aload_n hx hb dX12_article_49 rfl (lv_at hl 0 rfl) ?_
      refine q_getC E hC23 g0 fa_RX12_35 uc dX12_article_50 ?_
      refine lv_bipush (v := 22) hx hb dX12_article_53 rfl ?_
      refine lv_iload_n hx hb dX12_article_55 rfl (lv_at hl 1 rfl) ?_
      refine lv_iadd hx hb dX12_article_56 (lv_topi (fun v31 ev31 => ?_))
      have ev31i : v31.toInt = (22 + a1) := i_add ev31 (by decide) e1 (by omega) (by omega)
      refine q_cald E hC23 (lo := -2147483648) (hi := 2147483647) gca (a := (22 + a1)) ev31i (by omega) (by omega) (cr_c16 (by omega) (by omega)) dX12_article_57 (fun v32 ev32 _ _ => ?_)
      exact ret v32 H23 locs26 _ _ dX12_article_58 ⟨hKp23, trivial⟩ hC23 hS26
    · refine lv_aload_n hx hb dX12_article_40 rfl (lv_at hl 0 rfl) ?_
      refine lv_bipush (v := 8) hx hb dX12_article_41 rfl ?_
      refine q_goI (q_runV (As := [.int 8]) (rest := []) E hC23 hS26 (m_X12_refuse l X Γ H23 hC23 h0 g0 8 (a1 := 8) (by decide) ca gca uc) cw_X12_refuse cl_RX12_298 g0 ⟨rfl, rfl⟩ rfl hl.1 rfl (Nat.zero_le _) (by decide) dX12_article_43) hS26 (fun v33 H33 locs33 hr33 hC33 hS33 => ?_)
      obtain ⟨hp33, hr33⟩ := hr33
      have hKp33 := hKp23.tr (hp33.mono rfl)
      have f33_0 := hr33
      refine lv_goto (tgt := 58) hx hb dX12_article_46 rfl ?_
      exact ret v33 H33 locs33 _ _ dX12_article_58 ⟨hKp33, trivial⟩ hC33 hS33
  · refine q_if_ne hx hb (a := 0) (by decide) (tgt := 28) dX12_article_19 rfl (fun c34 => absurd c34 (by omega)) (fun c34 => ?_)
    refine lv_aload_n hx hb dX12_article_22 rfl (lv_at hl 0 rfl) ?_
    refine lv_iconst (v := 5) hx hb dX12_article_23 rfl ?_
    refine q_goI (q_runV (As := [.int 5]) (rest := []) E hC23 hS26 (m_X12_refuse l X Γ H23 hC23 h0 g0 5 (a1 := 5) (by decide) ca gca uc) cw_X12_refuse cl_RX12_298 g0 ⟨rfl, rfl⟩ rfl hl.1 rfl (Nat.zero_le _) (by decide) dX12_article_24) hS26 (fun v35 H35 locs35 hr35 hC35 hS35 => ?_)
    obtain ⟨hp35, hr35⟩ := hr35
    have hKp35 := hKp23.tr (hp35.mono rfl)
    have f35_0 := hr35
    exact ret v35 H35 locs35 _ _ dX12_article_27 ⟨hKp35, trivial⟩ hC35 hS35
set_option maxRecDepth 100000 in
set_option maxHeartbeats 4000000 in
theorem m_X12_breach (l : Launch) (X : xW) (Γ : Nat → Option Nat) (H0 : Heap) (hC0 : Conf X Γ H0) (h0 : Nat) (g0 : Γ h0 = some 11) (p1 : Int32) {a1 : Int} (e1 : p1.toInt = a1) (ca : Nat) (gca : Γ ca = some 64) (uc : ∀ a, Γ a = some 64 → a = ca) : Ctr l X Γ yX12_breach cX12_breach 2 (some .int) 1 [.ref h0, .int p1] H0 (QI X Γ (fun v H1 => Kp X Γ [1, 6, 7, 8, 9, 10, 11, 12, 14, 15, 16, 17, 19, 22, 24] H0 H1 ∧ (True))) := by
  refine q_enterI (own := "SnowFortsModel") (by decide) rfl (Nat.le_of_ble_eq_true rfl) ?_
  intro p e s m args below meth c ls Qz E hl ret hS0
  have hx := E.1; have hb := E.2.1
  have hKp0 : Kp X Γ [1, 6, 7, 8, 9, 10, 11, 12, 14, 15, 16, 17, 19, 22, 24] H0 H0 := Kp.rf
  have hl : lv_has ls 2 [(0, .ref h0), (1, .int p1)] := hl
  refine lv_aload_n hx hb dX12_breach_0 rfl (lv_at hl 0 rfl) ?_
  refine lv_iconst (v := 0) hx hb dX12_breach_1 rfl ?_
  refine q_put E hC0 hS0 g0 fp_RX12_69 tv_F rfl rfl dX12_breach_2 (fun H21 locs21 hC21 hS21 U21 => ?_)
  have hKp21 := Kp.upO E g0 fp_RX12_69 rfl U21 hKp0
  have e22 := up_I U21
  refine lv_aload_n hx hb dX12_breach_5 rfl (lv_at hl 0 rfl) ?_
  refine lv_iconst (v := 0) hx hb dX12_breach_6 rfl ?_
  refine q_put E hC21 hS21 g0 fp_RX12_72 tv_F rfl rfl dX12_breach_7 (fun H23 locs23 hC23 hS23 U23 => ?_)
  have hKp23 := Kp.upO E g0 fp_RX12_72 rfl U23 hKp21
  have e24 := up_I U23
  refine lv_iload_n hx hb dX12_breach_10 rfl (lv_at hl 1 rfl) ?_
  refine lv_i2l (v := p1.toInt64) hx hb dX12_breach_11 rfl (lv_topl (fun v25 ev25 => ?_))
  have ev25i : v25.toInt = a1 := l_ofi ev25.symm e1
  refine lv_lconst (v := 0) hx hb dX12_breach_12 rfl ?_
  refine lv_ldc2 (v := 4) hx hb E.2.2.2.1 (E.2.2.2.2.1 _ w_1721) dX12_breach_13 ?_
  refine q_goIp (q_runS (As := [.long v25, .long 0, .long 4]) (rest := []) E hS23 (m_X12_isIn l X Γ H23 hC23 v25 (a0 := a1) ev25i 0 (a1 := 0) (show (0 : Int64).toInt = 0 from by decide) 4 (a2 := 4) (show (4 : Int64).toInt = 4 from by decide)) cw_X12_isIn cl_RX12_104 rfl hl.1 rfl (Nat.zero_le _) (by decide) dX12_breach_16) hS23 (fun v26 locs26 hr26 hS26 => ?_)
  rcases hr26 with ⟨rfl, f26a0, f26a1⟩ | ⟨rfl, f26b⟩
  · refine q_if_ne hx hb (a := 1) (by decide) (tgt := 28) dX12_breach_19 rfl (fun c27 => ?_) (fun c27 => absurd c27 (by omega))
    refine lv_aload_n hx hb dX12_breach_28 rfl (lv_at hl 0 rfl) ?_
    refine q_getC E hC23 g0 fa_RX12_35 uc dX12_breach_29 ?_
    refine lv_iconst (v := 4) hx hb dX12_breach_32 rfl ?_
    refine q_cald E hC23 (lo := -2147483648) (hi := 2147483647) gca (a := 4) (show (4 : Int32).toInt = 4 from by decide) (by omega) (by omega) (cr_c3 (by omega) (by omega)) dX12_breach_33 (fun v28 ev28 _ _ => ?_)
    refine q_if_ne hx hb (a := v28.toInt) rfl (tgt := 44) dX12_breach_34 rfl (fun c29 => ?_) (fun c29 => ?_)
    · refine lv_iload_n hx hb dX12_breach_44 rfl (lv_at hl 1 rfl) ?_
      refine lv_iconst (v := 3) hx hb dX12_breach_45 rfl ?_
      refine q_icmp_ge hx hb (a := a1) (b := 3) e1 (by decide) (tgt := 61) dX12_breach_46 rfl (fun c30 => ?_) (fun c30 => ?_)
      · refine lv_iload_n hx hb dX12_breach_61 rfl (lv_at hl 1 rfl) ?_
        refine lv_iconst (v := 3) hx hb dX12_breach_62 rfl ?_
        refine q_icmp_ne hx hb (a := a1) (b := 3) e1 (by decide) (tgt := 79) dX12_breach_63 rfl (fun c31 => ?_) (fun c31 => ?_)
        · refine lv_aload_n hx hb dX12_breach_79 rfl (lv_at hl 0 rfl) ?_
          refine q_getC E hC23 g0 fa_RX12_35 uc dX12_breach_80 ?_
          refine lv_bipush (v := 11) hx hb dX12_breach_83 rfl ?_
          refine q_cald E hC23 (lo := -2147483648) (hi := 2147483647) gca (a := 11) (show (11 : Int32).toInt = 11 from by decide) (by omega) (by omega) (cr_c3 (by omega) (by omega)) dX12_breach_85 (fun v32 ev32 _ _ => ?_)
          refine lv_bipush (v := 6) hx hb dX12_breach_86 rfl ?_
          refine lv_idiv hx hb dX12_breach_88 (by decide) (lv_topi (fun v33 ev33 => ?_))
          exact ret v33 H23 locs26 _ _ dX12_breach_89 ⟨hKp23, trivial⟩ hC23 hS26
        · refine lv_aload_n hx hb dX12_breach_66 rfl (lv_at hl 0 rfl) ?_
          refine q_getC E hC23 g0 fa_RX12_35 uc dX12_breach_67 ?_
          refine lv_bipush (v := 11) hx hb dX12_breach_70 rfl ?_
          refine q_cald E hC23 (lo := -2147483648) (hi := 2147483647) gca (a := 11) (show (11 : Int32).toInt = 11 from by decide) (by omega) (by omega) (cr_c3 (by omega) (by omega)) dX12_breach_72 (fun v34 ev34 _ _ => ?_)
          refine lv_bipush (v := 6) hx hb dX12_breach_73 rfl ?_
          refine lv_irem hx hb dX12_breach_75 (by decide) (lv_topi (fun v35 ev35 => ?_))
          have ev35b := i_remB ev35 rfl (show (6 : Int32).toInt = 6 from by decide) (by decide)
          refine lv_goto (tgt := 89) hx hb dX12_breach_76 rfl ?_
          exact ret v35 H23 locs26 _ _ dX12_breach_89 ⟨hKp23, trivial⟩ hC23 hS26
      · refine lv_aload_n hx hb dX12_breach_49 rfl (lv_at hl 0 rfl) ?_
        refine q_getC E hC23 g0 fa_RX12_35 uc dX12_breach_50 ?_
        refine lv_bipush (v := 8) hx hb dX12_breach_53 rfl ?_
        refine lv_iload_n hx hb dX12_breach_55 rfl (lv_at hl 1 rfl) ?_
        refine lv_iadd hx hb dX12_breach_56 (lv_topi (fun v36 ev36 => ?_))
        have ev36i : v36.toInt = (8 + a1) := i_add ev36 (by decide) e1 (by omega) (by omega)
        refine q_cald E hC23 (lo := -2147483648) (hi := 2147483647) gca (a := (8 + a1)) ev36i (by omega) (by omega) (cr_c3 (by omega) (by omega)) dX12_breach_57 (fun v37 ev37 _ _ => ?_)
        refine lv_goto (tgt := 89) hx hb dX12_breach_58 rfl ?_
        exact ret v37 H23 locs26 _ _ dX12_breach_89 ⟨hKp23, trivial⟩ hC23 hS26
    · refine lv_aload_n hx hb dX12_breach_37 rfl (lv_at hl 0 rfl) ?_
      refine lv_bipush (v := 8) hx hb dX12_breach_38 rfl ?_
      refine q_goI (q_runV (As := [.int 8]) (rest := []) E hC23 hS26 (m_X12_refuse l X Γ H23 hC23 h0 g0 8 (a1 := 8) (by decide) ca gca uc) cw_X12_refuse cl_RX12_298 g0 ⟨rfl, rfl⟩ rfl hl.1 rfl (Nat.zero_le _) (by decide) dX12_breach_40) hS26 (fun v38 H38 locs38 hr38 hC38 hS38 => ?_)
      obtain ⟨hp38, hr38⟩ := hr38
      have hKp38 := hKp23.tr (hp38.mono rfl)
      have f38_0 := hr38
      exact ret v38 H38 locs38 _ _ dX12_breach_43 ⟨hKp38, trivial⟩ hC38 hS38
  · refine q_if_ne hx hb (a := 0) (by decide) (tgt := 28) dX12_breach_19 rfl (fun c39 => absurd c39 (by omega)) (fun c39 => ?_)
    refine lv_aload_n hx hb dX12_breach_22 rfl (lv_at hl 0 rfl) ?_
    refine lv_iconst (v := 5) hx hb dX12_breach_23 rfl ?_
    refine q_goI (q_runV (As := [.int 5]) (rest := []) E hC23 hS26 (m_X12_refuse l X Γ H23 hC23 h0 g0 5 (a1 := 5) (by decide) ca gca uc) cw_X12_refuse cl_RX12_298 g0 ⟨rfl, rfl⟩ rfl hl.1 rfl (Nat.zero_le _) (by decide) dX12_breach_24) hS26 (fun v40 H40 locs40 hr40 hC40 hS40 => ?_)
    obtain ⟨hp40, hr40⟩ := hr40
    have hKp40 := hKp23.tr (hp40.mono rfl)
    have f40_0 := hr40
    exact ret v40 H40 locs40 _ _ dX12_breach_27 ⟨hKp40, trivial⟩ hC40 hS40
set_option maxRecDepth 100000 in
set_option maxHeartbeats 4000000 in
theorem m_X12_falls (l : Launch) (X : xW) (Γ : Nat → Option Nat) (H0 : Heap) (hC0 : Conf X Γ H0) (h0 : Nat) (g0 : Γ h0 = some 11) (p1 : Int32) {a1 : Int} (e1 : p1.toInt = a1) (ca : Nat) (gca : Γ ca = some 64) (uc : ∀ a, Γ a = some 64 → a = ca) (r0 : 0 ≤ a1) (r1 : a1 ≤ 80) : Ctr l X Γ yX12_falls cX12_falls 7 (some .int) 1 [.ref h0, .int p1] H0 (QI X Γ (fun v H1 => Kp X Γ [1, 6, 7, 8, 9, 10, 11, 12, 14, 16, 17, 19, 22, 24] H0 H1 ∧ (True))) := by
  refine q_enterI (own := "SnowFortsModel") (by decide) rfl (Nat.le_of_ble_eq_true rfl) ?_
  intro p e s m args below meth c ls Qz E hl ret hS0
  have hx := E.1; have hb := E.2.1
  have hKp0 : Kp X Γ [1, 6, 7, 8, 9, 10, 11, 12, 14, 16, 17, 19, 22, 24] H0 H0 := Kp.rf
  have hl : lv_has ls 7 [(0, .ref h0), (1, .int p1)] := hl
  refine lv_iconst (v := 0) hx hb dX12_falls_0 rfl ?_
  refine lv_istore_n hx hb dX12_falls_1 rfl hl (by decide) rfl (fun ls hl => ?_)
  have hl : lv_has ls 7 [(2, .int 0), (0, .ref h0), (1, .int p1)] := hl
  refine lv_iconst (v := 0) hx hb dX12_falls_2 rfl ?_
  refine lv_istore_n hx hb dX12_falls_3 rfl hl (by decide) rfl (fun ls hl => ?_)
  have hl : lv_has ls 7 [(3, .int 0), (2, .int 0), (0, .ref h0), (1, .int p1)] := hl
  have L4 : ∀ (n23 : Nat) (H23 : Heap) (locs23 : List Loc) (v21 : Int32) (z21 : Int) (v22 : Int32) (z22 : Int) (ls : Array Slot), (6 - z21).toNat < n23 → v21.toInt = z21 → v22.toInt = z22 → z21 ≤ 6 → 0 ≤ z21 → Conf X Γ H23 → va_S (AΓ Γ) H0 H23 locs23 → Kp X Γ [1, 6, 7, 8, 9, 10, 11, 12, 14, 16, 17, 19, 22, 24] H0 H23 → lv_has ls 7 [(3, .int v21), (2, .int v22), (0, .ref h0), (1, .int p1)] → W p l e (rmL 1) s m args below meth c H23 locs23 0 0 Qz (F0 m 4 ls []) := by
    intro n23
    induction n23 with
    | zero => intro H23 locs23 v21 z21 v22 z22 ls hm23 ev21 ev22 iv23_0 iv23_1 hC23 hS23 hKp23 hl; exact absurd hm23 (Nat.not_lt_zero _)
    | succ n23 ih23 =>
      intro H23 locs23 v21 z21 v22 z22 ls hm23 ev21 ev22 iv23_0 iv23_1 hC23 hS23 hKp23 hl
      refine lv_iload_n hx hb dX12_falls_4 rfl (lv_at hl 0 rfl) ?_
      refine lv_aload_n hx hb dX12_falls_5 rfl (lv_at hl 2 rfl) ?_
      refine q_getC E hC23 g0 fa_RX12_35 uc dX12_falls_6 ?_
      refine lv_iconst (v := 1) hx hb dX12_falls_9 rfl ?_
      refine q_cald E hC23 (lo := 0) (hi := 6) gca (a := 1) (show (1 : Int32).toInt = 1 from by decide) (by omega) (by omega) (cr_c0 (by omega) (by omega)) dX12_falls_10 (fun v24 ev24 lv24 uv24 => ?_)
      refine q_icmp_ge hx hb (a := z21) (b := v24.toInt) ev21 rfl (tgt := 99) dX12_falls_11 rfl (fun c25 => ?_) (fun c25 => ?_)
      · refine lv_aload_n hx hb dX12_falls_99 rfl (lv_at hl 2 rfl) ?_
        refine q_getC E hC23 g0 fa_RX12_35 uc dX12_falls_100 ?_
        refine lv_bipush (v := 6) hx hb dX12_falls_103 rfl ?_
        refine lv_dup2_11 hx hb dX12_falls_105 rfl rfl ?_
        refine q_cald E hC23 (lo := -2147483648) (hi := 2147483647) gca (a := 6) (show (6 : Int32).toInt = 6 from by decide) (by omega) (by omega) (cr_c3 (by omega) (by omega)) dX12_falls_106 (fun v26 ev26 _ _ => ?_)
        refine lv_iload_n hx hb dX12_falls_107 rfl (lv_at hl 1 rfl) ?_
        refine lv_iadd hx hb dX12_falls_108 (lv_topi (fun v27 ev27 => ?_))
        refine q_cast E hC23 hS23 gca (a := 6) (show (6 : Int32).toInt = 6 from by decide) (by omega) (by omega) (cs_c3 (a := 6) (by omega) (by omega)) dX12_falls_109 (fun H28 locs28 hC28 hS28 U28 => ?_)
        have hKp28 := Kp.upD gca rfl rfl (fun _ => ⟨fun _ => nd1 (by omega) (by omega), fun _ => by unfold dpu; omega, fun _ => by unfold dpn; omega⟩) U28 hKp23
        have e29 := up_I U28
        refine lv_iload_n hx hb dX12_falls_110 rfl (lv_at hl 1 rfl) ?_
        exact ret v22 H28 locs28 _ _ dX12_falls_111 ⟨hKp28, trivial⟩ hC28 hS28
      · refine lv_iconst (v := 0) hx hb dX12_falls_14 rfl ?_
        refine lv_istore hx hb dX12_falls_15 hl (by decide) rfl (fun ls hl => ?_)
        have hl : lv_has ls 7 [(4, .int 0), (3, .int v21), (2, .int v22), (0, .ref h0), (1, .int p1)] := hl
        have L17 : ∀ (n32 : Nat) (H32 : Heap) (locs32 : List Loc) (v30 : Int32) (z30 : Int) (v31 : Int32) (z31 : Int) (ls : Array Slot), (6 - z30).toNat < n32 → v30.toInt = z30 → v31.toInt = z31 → z30 ≤ 6 → 0 ≤ z30 → Conf X Γ H32 → va_S (AΓ Γ) H0 H32 locs32 → Kp X Γ [1, 6, 7, 8, 9, 10, 11, 12, 14, 16, 17, 19, 22, 24] H0 H32 → lv_has ls 7 [(4, .int v30), (3, .int v21), (2, .int v31), (0, .ref h0), (1, .int p1)] → W p l e (rmL 1) s m args below meth c H32 locs32 0 0 Qz (F0 m 17 ls []) := by
          intro n32
          induction n32 with
          | zero => intro H32 locs32 v30 z30 v31 z31 ls hm32 ev30 ev31 iv32_0 iv32_1 hC32 hS32 hKp32 hl; exact absurd hm32 (Nat.not_lt_zero _)
          | succ n32 ih32 =>
            intro H32 locs32 v30 z30 v31 z31 ls hm32 ev30 ev31 iv32_0 iv32_1 hC32 hS32 hKp32 hl
            refine lv_iload hx hb dX12_falls_17 (lv_at hl 0 rfl) ?_
            refine lv_aload_n hx hb dX12_falls_19 rfl (lv_at hl 3 rfl) ?_
            refine q_getC E hC32 g0 fa_RX12_35 uc dX12_falls_20 ?_
            refine lv_iconst (v := 0) hx hb dX12_falls_23 rfl ?_
            refine q_cald E hC32 (lo := 0) (hi := 6) gca (a := 0) (show (0 : Int32).toInt = 0 from by decide) (by omega) (by omega) (cr_c0 (by omega) (by omega)) dX12_falls_24 (fun v33 ev33 lv33 uv33 => ?_)
            refine q_icmp_ge hx hb (a := z30) (b := v33.toInt) ev30 rfl (tgt := 93) dX12_falls_25 rfl (fun c34 => ?_) (fun c34 => ?_)
            · obtain ⟨v35, ev35⟩ : ∃ z, z = v21 + Int32.ofInt 1 := ⟨_, rfl⟩
              have ev35i : v35.toInt = (z21 + 1) := i_add ev35 ev21 (by decide) (by omega) (by omega)
              refine lv_iinc hx hb dX12_falls_93 hl (k := 1) rfl ev35.symm (by decide) rfl (fun ls hl => ?_)
              have hl : lv_has ls 7 [(3, .int v35), (4, .int v30), (2, .int v31), (0, .ref h0), (1, .int p1)] := hl
              refine lv_goto (tgt := 4) hx hb dX12_falls_96 rfl ?_
              exact ih23 H32 locs32 v35 ((z21 + 1)) v31 (z31) ls (by omega) ev35i ev31 (by omega) (by omega) hC32 hS32 hKp32 (lv_sub hl [0, 2, 3, 4] rfl)
            · refine lv_bipush (v := 26) hx hb dX12_falls_28 rfl ?_
              refine lv_iload hx hb dX12_falls_30 (lv_at hl 0 rfl) ?_
              refine lv_iload_n hx hb dX12_falls_32 rfl (lv_at hl 1 rfl) ?_
              refine q_goIp (q_runS (As := [.int v30, .int v21]) (rest := [.int 26]) E hS32 (m_X12_at2 l X Γ H32 hC32 v30 (a0 := z30) ev30 v21 (a1 := z21) ev21 (by omega) (by omega) (by omega) (by omega)) cw_X12_at2 cl_RX12_292 rfl hl.1 rfl (show _ ≤ _ from by simp [Value.category]) (by decide) dX12_falls_33) hS32 (fun v36 locs36 hr36 hS36 => ?_)
              have f36_0 := hr36
              refine lv_iadd hx hb dX12_falls_36 (lv_topi (fun v37 ev37 => ?_))
              have ev37i : v37.toInt = (26 + v36.toInt) := i_add ev37 (by decide) rfl (by omega) (by omega)
              refine lv_istore hx hb dX12_falls_37 hl (by decide) rfl (fun ls hl => ?_)
              have hl : lv_has ls 7 [(5, .int v37), (4, .int v30), (3, .int v21), (2, .int v31), (0, .ref h0), (1, .int p1)] := hl
              refine lv_iconst (v := 0) hx hb dX12_falls_39 rfl ?_
              refine lv_aload_n hx hb dX12_falls_40 rfl (lv_at hl 4 rfl) ?_
              refine q_getC E hC32 g0 fa_RX12_35 uc dX12_falls_41 ?_
              refine lv_iload hx hb dX12_falls_44 (lv_at hl 0 rfl) ?_
              refine q_cald E hC32 (lo := 0) (hi := 99) gca (a := (26 + v36.toInt)) ev37i (by omega) (by omega) (cr_c26 (by omega) (by omega)) dX12_falls_46 (fun v38 ev38 lv38 uv38 => ?_)
              refine lv_iload_n hx hb dX12_falls_47 rfl (lv_at hl 5 rfl) ?_
              refine lv_iadd hx hb dX12_falls_48 (lv_topi (fun v39 ev39 => ?_))
              have ev39i : v39.toInt = (v38.toInt + a1) := i_add ev39 rfl e1 (by omega) (by omega)
              refine lv_bipush (v := 99) hx hb dX12_falls_49 rfl ?_
              refine lv_isub hx hb dX12_falls_51 (lv_topi (fun v40 ev40 => ?_))
              have ev40i : v40.toInt = ((v38.toInt + a1) - 99) := i_sub ev40 ev39i (by decide) (by omega) (by omega)
              refine q_mmax E hl.1 w_1731 mathw_max (a := 0) (b := ((v38.toInt + a1) - 99)) (show (0 : Int32).toInt = 0 from by decide) ev40i (by decide) (Nat.zero_le _) dX12_falls_52 (fun v41 mv41a mv41b mv41c => ?_)
              refine lv_istore hx hb dX12_falls_55 hl (by decide) rfl (fun ls hl => ?_)
              have hl : lv_has ls 7 [(6, .int v41), (5, .int v37), (4, .int v30), (3, .int v21), (2, .int v31), (0, .ref h0), (1, .int p1)] := hl
              refine lv_aload_n hx hb dX12_falls_57 rfl (lv_at hl 5 rfl) ?_
              refine q_getC E hC32 g0 fa_RX12_35 uc dX12_falls_58 ?_
              refine lv_iload hx hb dX12_falls_61 (lv_at hl 1 rfl) ?_
              refine lv_dup2_11 hx hb dX12_falls_63 rfl rfl ?_
              refine q_cald E hC32 (lo := 0) (hi := 99) gca (a := (26 + v36.toInt)) ev37i (by omega) (by omega) (cr_c26 (by omega) (by omega)) dX12_falls_64 (fun v42 ev42 lv42 uv42 => ?_)
              have qv42 := ev38.symm.trans ev42; subst qv42
              refine lv_iload_n hx hb dX12_falls_65 rfl (lv_at hl 6 rfl) ?_
              refine lv_iload hx hb dX12_falls_66 (lv_at hl 0 rfl) ?_
              refine lv_isub hx hb dX12_falls_68 (lv_topi (fun v43 ev43 => ?_))
              have ev43i : v43.toInt = (a1 - v41.toInt) := i_sub ev43 e1 rfl (by omega) (by omega)
              refine lv_iadd hx hb dX12_falls_69 (lv_topi (fun v44 ev44 => ?_))
              have ev44i : v44.toInt = (v38.toInt + (a1 - v41.toInt)) := i_add ev44 rfl ev43i (by omega) (by omega)
              refine q_cast E hC32 hS36 gca (a := (26 + v36.toInt)) ev37i (by omega) (by omega) (cs_c26 (a := (26 + v36.toInt)) (b := (v38.toInt + (a1 - v41.toInt))) (by omega) (by omega) ev44i (by omega) (by omega)) dX12_falls_70 (fun H45 locs45 hC45 hS45 U45 => ?_)
              have hKp45 := Kp.upD gca rfl rfl (fun _ => ⟨fun _ => nd2 (by omega) (by omega), fun _ => by unfold dpu; omega, fun _ => by unfold dpn; omega⟩) U45 hKp32
              have e46 := up_I U45
              refine lv_iload_n hx hb dX12_falls_71 rfl (lv_at hl 4 rfl) ?_
              refine lv_iload hx hb dX12_falls_72 (lv_at hl 0 rfl) ?_
              refine lv_iadd hx hb dX12_falls_74 (lv_topi (fun v47 ev47 => ?_))
              refine lv_istore_n hx hb dX12_falls_75 rfl hl (by decide) rfl (fun ls hl => ?_)
              have hl : lv_has ls 7 [(2, .int v47), (6, .int v41), (5, .int v37), (4, .int v30), (3, .int v21), (0, .ref h0), (1, .int p1)] := hl
              refine lv_aload_n hx hb dX12_falls_76 rfl (lv_at hl 5 rfl) ?_
              refine q_getC E hC45 g0 fa_RX12_35 uc dX12_falls_77 ?_
              refine lv_bipush (v := 7) hx hb dX12_falls_80 rfl ?_
              refine lv_dup2_11 hx hb dX12_falls_82 rfl rfl ?_
              refine q_cald E hC45 (lo := -2147483648) (hi := 2147483647) gca (a := 7) (show (7 : Int32).toInt = 7 from by decide) (by omega) (by omega) (cr_c3 (by omega) (by omega)) dX12_falls_83 (fun v48 ev48 _ _ => ?_)
              refine lv_iload_n hx hb dX12_falls_84 rfl (lv_at hl 6 rfl) ?_
              refine lv_iadd hx hb dX12_falls_85 (lv_topi (fun v49 ev49 => ?_))
              refine q_cast E hC45 hS45 gca (a := 7) (show (7 : Int32).toInt = 7 from by decide) (by omega) (by omega) (cs_c3 (a := 7) (by omega) (by omega)) dX12_falls_86 (fun H50 locs50 hC50 hS50 U50 => ?_)
              have hKp50 := Kp.upD gca rfl rfl (fun _ => ⟨fun _ => nd1 (by omega) (by omega), fun _ => by unfold dpu; omega, fun _ => by unfold dpn; omega⟩) U50 hKp45
              have e51 := up_I U50
              obtain ⟨v52, ev52⟩ : ∃ z, z = v30 + Int32.ofInt 1 := ⟨_, rfl⟩
              have ev52i : v52.toInt = (z30 + 1) := i_add ev52 ev30 (by decide) (by omega) (by omega)
              refine lv_iinc hx hb dX12_falls_87 hl (k := 3) rfl ev52.symm (by decide) rfl (fun ls hl => ?_)
              have hl : lv_has ls 7 [(4, .int v52), (2, .int v47), (6, .int v41), (5, .int v37), (3, .int v21), (0, .ref h0), (1, .int p1)] := hl
              refine lv_goto (tgt := 17) hx hb dX12_falls_90 rfl ?_
              exact ih32 H50 locs50 v52 ((z30 + 1)) v47 (v47.toInt) ls (by omega) ev52i rfl (by omega) (by omega) hC50 hS50 hKp50 (lv_sub hl [0, 4, 1, 5, 6] rfl)
        exact L17 _ H23 locs23 0 0 v22 z22 ls (Nat.lt_succ_self _) (by decide) ev22 (by omega) (by omega) hC23 hS23 hKp23 hl
  exact L4 _ H0 [] 0 0 0 0 ls (Nat.lt_succ_self _) (by decide) (by decide) (by omega) (by omega) hC0 hS0 hKp0 hl
set_option maxRecDepth 100000 in
set_option maxHeartbeats 4000000 in
theorem m_X12_fall (l : Launch) (X : xW) (Γ : Nat → Option Nat) (H0 : Heap) (hC0 : Conf X Γ H0) (h0 : Nat) (g0 : Γ h0 = some 11) (p1 : Int32) {a1 : Int} (e1 : p1.toInt = a1) (ca : Nat) (gca : Γ ca = some 64) (uc : ∀ a, Γ a = some 64 → a = ca) : Ctr l X Γ yX12_fall cX12_fall 2 (some .int) 2 [.ref h0, .int p1] H0 (QI X Γ (fun v H1 => Kp X Γ [1, 6, 7, 8, 9, 10, 11, 12, 14, 16, 17, 19, 22, 24] H0 H1 ∧ (True))) := by
  refine q_enterI (own := "SnowFortsModel") (by decide) rfl (Nat.le_of_ble_eq_true rfl) ?_
  intro p e s m args below meth c ls Qz E hl ret hS0
  have hx := E.1; have hb := E.2.1
  have hKp0 : Kp X Γ [1, 6, 7, 8, 9, 10, 11, 12, 14, 16, 17, 19, 22, 24] H0 H0 := Kp.rf
  have hl : lv_has ls 2 [(0, .ref h0), (1, .int p1)] := hl
  refine lv_aload_n hx hb dX12_fall_0 rfl (lv_at hl 0 rfl) ?_
  refine lv_iconst (v := 0) hx hb dX12_fall_1 rfl ?_
  refine q_put E hC0 hS0 g0 fp_RX12_69 tv_F rfl rfl dX12_fall_2 (fun H21 locs21 hC21 hS21 U21 => ?_)
  have hKp21 := Kp.upO E g0 fp_RX12_69 rfl U21 hKp0
  have e22 := up_I U21
  refine lv_aload_n hx hb dX12_fall_5 rfl (lv_at hl 0 rfl) ?_
  refine lv_iconst (v := 0) hx hb dX12_fall_6 rfl ?_
  refine q_put E hC21 hS21 g0 fp_RX12_72 tv_F rfl rfl dX12_fall_7 (fun H23 locs23 hC23 hS23 U23 => ?_)
  have hKp23 := Kp.upO E g0 fp_RX12_72 rfl U23 hKp21
  have e24 := up_I U23
  refine lv_iload_n hx hb dX12_fall_10 rfl (lv_at hl 1 rfl) ?_
  refine lv_i2l (v := p1.toInt64) hx hb dX12_fall_11 rfl (lv_topl (fun v25 ev25 => ?_))
  have ev25i : v25.toInt = a1 := l_ofi ev25.symm e1
  refine lv_lconst (v := 0) hx hb dX12_fall_12 rfl ?_
  refine lv_ldc2 (v := 40) hx hb E.2.2.2.1 (E.2.2.2.2.1 _ w_1726) dX12_fall_13 ?_
  refine q_goIp (q_runS (As := [.long v25, .long 0, .long 40]) (rest := []) E hS23 (m_X12_isIn l X Γ H23 hC23 v25 (a0 := a1) ev25i 0 (a1 := 0) (show (0 : Int64).toInt = 0 from by decide) 40 (a2 := 40) (show (40 : Int64).toInt = 40 from by decide)) cw_X12_isIn cl_RX12_104 rfl hl.1 rfl (Nat.zero_le _) (by decide) dX12_fall_16) hS23 (fun v26 locs26 hr26 hS26 => ?_)
  rcases hr26 with ⟨rfl, f26a0, f26a1⟩ | ⟨rfl, f26b⟩
  · refine q_if_eq hx hb (a := 1) (by decide) (tgt := 30) dX12_fall_19 rfl (fun c27 => absurd c27 (by omega)) (fun c27 => ?_)
    refine lv_aload_n hx hb dX12_fall_22 rfl (lv_at hl 0 rfl) ?_
    refine lv_iload_n hx hb dX12_fall_23 rfl (lv_at hl 1 rfl) ?_
    refine q_goI (q_runV (As := [.int p1]) (rest := []) E hC23 hS26 (m_X12_falls l X Γ H23 hC23 h0 g0 p1 (a1 := a1) e1 ca gca uc (by omega) (by omega)) cw_X12_falls cl_RX12_317 g0 ⟨rfl, rfl⟩ rfl hl.1 rfl (Nat.zero_le _) (by decide) dX12_fall_24) hS26 (fun v28 H28 locs28 hr28 hC28 hS28 => ?_)
    obtain ⟨hp28, hr28⟩ := hr28
    have hKp28 := hKp23.tr (hp28.mono rfl)
    refine lv_goto (tgt := 35) hx hb dX12_fall_27 rfl ?_
    exact ret v28 H28 locs28 _ _ dX12_fall_35 ⟨hKp28, trivial⟩ hC28 hS28
  · refine q_if_eq hx hb (a := 0) (by decide) (tgt := 30) dX12_fall_19 rfl (fun c29 => ?_) (fun c29 => absurd c29 (by omega))
    refine lv_aload_n hx hb dX12_fall_30 rfl (lv_at hl 0 rfl) ?_
    refine lv_iconst (v := 5) hx hb dX12_fall_31 rfl ?_
    refine q_goI (q_runV (As := [.int 5]) (rest := []) E hC23 hS26 (m_X12_refuse l X Γ H23 hC23 h0 g0 5 (a1 := 5) (by decide) ca gca uc) cw_X12_refuse cl_RX12_298 g0 ⟨rfl, rfl⟩ rfl hl.1 rfl (Nat.zero_le _) (by decide) dX12_fall_32) hS26 (fun v30 H30 locs30 hr30 hC30 hS30 => ?_)
    obtain ⟨hp30, hr30⟩ := hr30
    have hKp30 := hKp23.tr (hp30.mono rfl)
    have f30_0 := hr30
    exact ret v30 H30 locs30 _ _ dX12_fall_35 ⟨hKp30, trivial⟩ hC30 hS30
set_option maxRecDepth 100000 in
set_option maxHeartbeats 4000000 in
theorem m_X12_thaws (l : Launch) (X : xW) (Γ : Nat → Option Nat) (H0 : Heap) (hC0 : Conf X Γ H0) (h0 : Nat) (g0 : Γ h0 = some 11) (p1 : Int32) {a1 : Int} (e1 : p1.toInt = a1) (ca : Nat) (gca : Γ ca = some 64) (uc : ∀ a, Γ a = some 64 → a = ca) (r0 : 0 ≤ a1) (r1 : a1 ≤ 40) : Ctr l X Γ yX12_thaws cX12_thaws 9 (some .int) 1 [.ref h0, .int p1] H0 (QI X Γ (fun v H1 => Kp X Γ [1, 6, 7, 8, 9, 10, 11, 12, 14, 16, 17, 19, 22, 24] H0 H1 ∧ (True))) := by
  refine q_enterI (own := "SnowFortsModel") (by decide) rfl (Nat.le_of_ble_eq_true rfl) ?_
  intro p e s m args below meth c ls Qz E hl ret hS0
  have hx := E.1; have hb := E.2.1
  have hKp0 : Kp X Γ [1, 6, 7, 8, 9, 10, 11, 12, 14, 16, 17, 19, 22, 24] H0 H0 := Kp.rf
  have hl : lv_has ls 9 [(0, .ref h0), (1, .int p1)] := hl
  refine lv_iconst (v := 0) hx hb dX12_thaws_0 rfl ?_
  refine lv_istore_n hx hb dX12_thaws_1 rfl hl (by decide) rfl (fun ls hl => ?_)
  have hl : lv_has ls 9 [(2, .int 0), (0, .ref h0), (1, .int p1)] := hl
  refine lv_iconst (v := 0) hx hb dX12_thaws_2 rfl ?_
  refine lv_istore_n hx hb dX12_thaws_3 rfl hl (by decide) rfl (fun ls hl => ?_)
  have hl : lv_has ls 9 [(3, .int 0), (2, .int 0), (0, .ref h0), (1, .int p1)] := hl
  have L4 : ∀ (n23 : Nat) (H23 : Heap) (locs23 : List Loc) (v21 : Int32) (z21 : Int) (v22 : Int32) (z22 : Int) (ls : Array Slot), (6 - z21).toNat < n23 → v21.toInt = z21 → v22.toInt = z22 → z21 ≤ 6 → 0 ≤ z21 → Conf X Γ H23 → va_S (AΓ Γ) H0 H23 locs23 → Kp X Γ [1, 6, 7, 8, 9, 10, 11, 12, 14, 16, 17, 19, 22, 24] H0 H23 → lv_has ls 9 [(3, .int v21), (2, .int v22), (0, .ref h0), (1, .int p1)] → W p l e (rmL 1) s m args below meth c H23 locs23 0 0 Qz (F0 m 4 ls []) := by
    intro n23
    induction n23 with
    | zero => intro H23 locs23 v21 z21 v22 z22 ls hm23 ev21 ev22 iv23_0 iv23_1 hC23 hS23 hKp23 hl; exact absurd hm23 (Nat.not_lt_zero _)
    | succ n23 ih23 =>
      intro H23 locs23 v21 z21 v22 z22 ls hm23 ev21 ev22 iv23_0 iv23_1 hC23 hS23 hKp23 hl
      refine lv_iload_n hx hb dX12_thaws_4 rfl (lv_at hl 0 rfl) ?_
      refine lv_aload_n hx hb dX12_thaws_5 rfl (lv_at hl 2 rfl) ?_
      refine q_getC E hC23 g0 fa_RX12_35 uc dX12_thaws_6 ?_
      refine lv_iconst (v := 1) hx hb dX12_thaws_9 rfl ?_
      refine q_cald E hC23 (lo := 0) (hi := 6) gca (a := 1) (show (1 : Int32).toInt = 1 from by decide) (by omega) (by omega) (cr_c0 (by omega) (by omega)) dX12_thaws_10 (fun v24 ev24 lv24 uv24 => ?_)
      refine q_icmp_ge hx hb (a := z21) (b := v24.toInt) ev21 rfl (tgt := 180) dX12_thaws_11 rfl (fun c25 => ?_) (fun c25 => ?_)
      · refine lv_aload_n hx hb dX12_thaws_180 rfl (lv_at hl 2 rfl) ?_
        refine q_getC E hC23 g0 fa_RX12_35 uc dX12_thaws_181 ?_
        refine lv_iconst (v := 5) hx hb dX12_thaws_184 rfl ?_
        refine lv_dup2_11 hx hb dX12_thaws_185 rfl rfl ?_
        refine q_cald E hC23 (lo := -2147483648) (hi := 2147483647) gca (a := 5) (show (5 : Int32).toInt = 5 from by decide) (by omega) (by omega) (cr_c3 (by omega) (by omega)) dX12_thaws_186 (fun v26 ev26 _ _ => ?_)
        refine lv_iload_n hx hb dX12_thaws_187 rfl (lv_at hl 1 rfl) ?_
        refine lv_iadd hx hb dX12_thaws_188 (lv_topi (fun v27 ev27 => ?_))
        refine q_cast E hC23 hS23 gca (a := 5) (show (5 : Int32).toInt = 5 from by decide) (by omega) (by omega) (cs_c3 (a := 5) (by omega) (by omega)) dX12_thaws_189 (fun H28 locs28 hC28 hS28 U28 => ?_)
        have hKp28 := Kp.upD gca rfl rfl (fun _ => ⟨fun _ => nd1 (by omega) (by omega), fun _ => by unfold dpu; omega, fun _ => by unfold dpn; omega⟩) U28 hKp23
        have e29 := up_I U28
        refine lv_iload_n hx hb dX12_thaws_190 rfl (lv_at hl 1 rfl) ?_
        exact ret v22 H28 locs28 _ _ dX12_thaws_191 ⟨hKp28, trivial⟩ hC28 hS28
      · refine lv_iconst (v := 0) hx hb dX12_thaws_14 rfl ?_
        refine lv_istore hx hb dX12_thaws_15 hl (by decide) rfl (fun ls hl => ?_)
        have hl : lv_has ls 9 [(4, .int 0), (3, .int v21), (2, .int v22), (0, .ref h0), (1, .int p1)] := hl
        have L17 : ∀ (n32 : Nat) (H32 : Heap) (locs32 : List Loc) (v30 : Int32) (z30 : Int) (v31 : Int32) (z31 : Int) (ls : Array Slot), (6 - z30).toNat < n32 → v30.toInt = z30 → v31.toInt = z31 → z30 ≤ 6 → 0 ≤ z30 → Conf X Γ H32 → va_S (AΓ Γ) H0 H32 locs32 → Kp X Γ [1, 6, 7, 8, 9, 10, 11, 12, 14, 16, 17, 19, 22, 24] H0 H32 → lv_has ls 9 [(4, .int v30), (3, .int v21), (2, .int v31), (0, .ref h0), (1, .int p1)] → W p l e (rmL 1) s m args below meth c H32 locs32 0 0 Qz (F0 m 17 ls []) := by
          intro n32
          induction n32 with
          | zero => intro H32 locs32 v30 z30 v31 z31 ls hm32 ev30 ev31 iv32_0 iv32_1 hC32 hS32 hKp32 hl; exact absurd hm32 (Nat.not_lt_zero _)
          | succ n32 ih32 =>
            intro H32 locs32 v30 z30 v31 z31 ls hm32 ev30 ev31 iv32_0 iv32_1 hC32 hS32 hKp32 hl
            refine lv_iload hx hb dX12_thaws_17 (lv_at hl 0 rfl) ?_
            refine lv_aload_n hx hb dX12_thaws_19 rfl (lv_at hl 3 rfl) ?_
            refine q_getC E hC32 g0 fa_RX12_35 uc dX12_thaws_20 ?_
            refine lv_iconst (v := 0) hx hb dX12_thaws_23 rfl ?_
            refine q_cald E hC32 (lo := 0) (hi := 6) gca (a := 0) (show (0 : Int32).toInt = 0 from by decide) (by omega) (by omega) (cr_c0 (by omega) (by omega)) dX12_thaws_24 (fun v33 ev33 lv33 uv33 => ?_)
            refine q_icmp_ge hx hb (a := z30) (b := v33.toInt) ev30 rfl (tgt := 174) dX12_thaws_25 rfl (fun c34 => ?_) (fun c34 => ?_)
            · obtain ⟨v35, ev35⟩ : ∃ z, z = v21 + Int32.ofInt 1 := ⟨_, rfl⟩
              have ev35i : v35.toInt = (z21 + 1) := i_add ev35 ev21 (by decide) (by omega) (by omega)
              refine lv_iinc hx hb dX12_thaws_174 hl (k := 1) rfl ev35.symm (by decide) rfl (fun ls hl => ?_)
              have hl : lv_has ls 9 [(3, .int v35), (4, .int v30), (2, .int v31), (0, .ref h0), (1, .int p1)] := hl
              refine lv_goto (tgt := 4) hx hb dX12_thaws_177 rfl ?_
              exact ih23 H32 locs32 v35 ((z21 + 1)) v31 (z31) ls (by omega) ev35i ev31 (by omega) (by omega) hC32 hS32 hKp32 (lv_sub hl [0, 2, 3, 4] rfl)
            · refine lv_iload hx hb dX12_thaws_28 (lv_at hl 0 rfl) ?_
              refine lv_iload_n hx hb dX12_thaws_30 rfl (lv_at hl 1 rfl) ?_
              refine q_goIp (q_runS (As := [.int v30, .int v21]) (rest := []) E hS32 (m_X12_at2 l X Γ H32 hC32 v30 (a0 := z30) ev30 v21 (a1 := z21) ev21 (by omega) (by omega) (by omega) (by omega)) cw_X12_at2 cl_RX12_292 rfl hl.1 rfl (Nat.zero_le _) (by decide) dX12_thaws_31) hS32 (fun v36 locs36 hr36 hS36 => ?_)
              have f36_0 := hr36
              refine lv_istore hx hb dX12_thaws_34 hl (by decide) rfl (fun ls hl => ?_)
              have hl : lv_has ls 9 [(5, .int v36), (4, .int v30), (3, .int v21), (2, .int v31), (0, .ref h0), (1, .int p1)] := hl
              refine lv_iload_n hx hb dX12_thaws_36 rfl (lv_at hl 5 rfl) ?_
              refine lv_aload_n hx hb dX12_thaws_37 rfl (lv_at hl 4 rfl) ?_
              refine q_getC E hC32 g0 fa_RX12_35 uc dX12_thaws_38 ?_
              refine lv_bipush (v := 98) hx hb dX12_thaws_41 rfl ?_
              refine lv_iload hx hb dX12_thaws_43 (lv_at hl 0 rfl) ?_
              refine lv_iadd hx hb dX12_thaws_45 (lv_topi (fun v37 ev37 => ?_))
              have ev37i : v37.toInt = (98 + v36.toInt) := i_add ev37 (by decide) rfl (by omega) (by omega)
              refine q_cald E hC32 (lo := 0) (hi := 9) gca (a := (98 + v36.toInt)) ev37i (by omega) (by omega) (cr_c98 (by omega) (by omega)) dX12_thaws_46 (fun v38 ev38 lv38 uv38 => ?_)
              refine lv_iadd hx hb dX12_thaws_47 (lv_topi (fun v39 ev39 => ?_))
              have ev39i : v39.toInt = (a1 + v38.toInt) := i_add ev39 e1 rfl (by omega) (by omega)
              refine lv_istore hx hb dX12_thaws_48 hl (by decide) rfl (fun ls hl => ?_)
              have hl : lv_has ls 9 [(6, .int v39), (5, .int v36), (4, .int v30), (3, .int v21), (2, .int v31), (0, .ref h0), (1, .int p1)] := hl
              refine lv_iload hx hb dX12_thaws_50 (lv_at hl 0 rfl) ?_
              refine lv_aload_n hx hb dX12_thaws_52 rfl (lv_at hl 5 rfl) ?_
              refine q_getC E hC32 g0 fa_RX12_35 uc dX12_thaws_53 ?_
              refine lv_bipush (v := 26) hx hb dX12_thaws_56 rfl ?_
              refine lv_iload hx hb dX12_thaws_58 (lv_at hl 1 rfl) ?_
              refine lv_iadd hx hb dX12_thaws_60 (lv_topi (fun v40 ev40 => ?_))
              have ev40i : v40.toInt = (26 + v36.toInt) := i_add ev40 (by decide) rfl (by omega) (by omega)
              refine q_cald E hC32 (lo := 0) (hi := 99) gca (a := (26 + v36.toInt)) ev40i (by omega) (by omega) (cr_c26 (by omega) (by omega)) dX12_thaws_61 (fun v41 ev41 lv41 uv41 => ?_)
              refine q_mmin E hl.1 w_1740 mathw_min (a := (a1 + v38.toInt)) (b := v41.toInt) ev39i rfl (by decide) (Nat.zero_le _) dX12_thaws_62 (fun v42 mv42a mv42b mv42c => ?_)
              refine lv_istore hx hb dX12_thaws_65 hl (by decide) rfl (fun ls hl => ?_)
              have hl : lv_has ls 9 [(7, .int v42), (6, .int v39), (5, .int v36), (4, .int v30), (3, .int v21), (2, .int v31), (0, .ref h0), (1, .int p1)] := hl
              refine lv_aload_n hx hb dX12_thaws_67 rfl (lv_at hl 6 rfl) ?_
              refine q_getC E hC32 g0 fa_RX12_35 uc dX12_thaws_68 ?_
              refine lv_bipush (v := 26) hx hb dX12_thaws_71 rfl ?_
              refine lv_iload hx hb dX12_thaws_73 (lv_at hl 2 rfl) ?_
              refine lv_iadd hx hb dX12_thaws_75 (lv_topi (fun v43 ev43 => ?_))
              have ev43i : v43.toInt = (26 + v36.toInt) := i_add ev43 (by decide) rfl (by omega) (by omega)
              refine lv_dup2_11 hx hb dX12_thaws_76 rfl rfl ?_
              refine q_cald E hC32 (lo := 0) (hi := 99) gca (a := (26 + v36.toInt)) ev43i (by omega) (by omega) (cr_c26 (by omega) (by omega)) dX12_thaws_77 (fun v44 ev44 lv44 uv44 => ?_)
              have qv44 := ev41.symm.trans ev44; subst qv44
              refine lv_iload hx hb dX12_thaws_78 (lv_at hl 0 rfl) ?_
              refine lv_isub hx hb dX12_thaws_80 (lv_topi (fun v45 ev45 => ?_))
              have ev45i : v45.toInt = (v41.toInt - v42.toInt) := i_sub ev45 rfl rfl (by omega) (by omega)
              refine q_cast E hC32 hS36 gca (a := (26 + v36.toInt)) ev43i (by omega) (by omega) (cs_c26 (a := (26 + v36.toInt)) (b := (v41.toInt - v42.toInt)) (by omega) (by omega) ev45i (by omega) (by omega)) dX12_thaws_81 (fun H46 locs46 hC46 hS46 U46 => ?_)
              have hKp46 := Kp.upD gca rfl rfl (fun _ => ⟨fun _ => nd2 (by omega) (by omega), fun _ => by unfold dpu; omega, fun _ => by unfold dpn; omega⟩) U46 hKp32
              have e47 := up_I U46
              refine lv_aload_n hx hb dX12_thaws_82 rfl (lv_at hl 6 rfl) ?_
              refine q_getC E hC46 g0 fa_RX12_35 uc dX12_thaws_83 ?_
              refine lv_sipush (v := 170) hx hb dX12_thaws_86 rfl ?_
              refine lv_iload hx hb dX12_thaws_89 (lv_at hl 2 rfl) ?_
              refine lv_iadd hx hb dX12_thaws_91 (lv_topi (fun v48 ev48 => ?_))
              have ev48i : v48.toInt = (170 + v36.toInt) := i_add ev48 (by decide) rfl (by omega) (by omega)
              refine q_cald E hC46 (lo := -2147483648) (hi := 2147483647) gca (a := (170 + v36.toInt)) ev48i (by omega) (by omega) (cr_c134 (by omega) (by omega)) dX12_thaws_92 (fun v49 ev49 _ _ => ?_)
              refine lv_iconst (v := 1) hx hb dX12_thaws_93 rfl ?_
              refine q_icmp_ne hx hb (a := v49.toInt) (b := 1) rfl (by decide) (tgt := 101) dX12_thaws_94 rfl (fun c50 => ?_) (fun c50 => ?_)
              · refine lv_iload hx hb dX12_thaws_101 (lv_at hl 1 rfl) ?_
                refine lv_iload hx hb dX12_thaws_103 (lv_at hl 0 rfl) ?_
                refine lv_isub hx hb dX12_thaws_105 (lv_topi (fun v51 ev51 => ?_))
                have ev51i : v51.toInt = ((a1 + v38.toInt) - v42.toInt) := i_sub ev51 ev39i rfl (by omega) (by omega)
                refine lv_aload_n hx hb dX12_thaws_106 rfl (lv_at hl 6 rfl) ?_
                refine q_getC E hC46 g0 fa_RX12_35 uc dX12_thaws_107 ?_
                refine lv_bipush (v := 62) hx hb dX12_thaws_110 rfl ?_
                refine lv_iload hx hb dX12_thaws_112 (lv_at hl 2 rfl) ?_
                refine lv_iadd hx hb dX12_thaws_114 (lv_topi (fun v52 ev52 => ?_))
                have ev52i : v52.toInt = (62 + v36.toInt) := i_add ev52 (by decide) rfl (by omega) (by omega)
                refine q_cald E hC46 (lo := 0) (hi := 99) gca (a := (62 + v36.toInt)) ev52i (by omega) (by omega) (cr_c26 (by omega) (by omega)) dX12_thaws_115 (fun v53 ev53 lv53 uv53 => ?_)
                refine q_mmin E hl.1 w_1740 mathw_min (a := ((a1 + v38.toInt) - v42.toInt)) (b := v53.toInt) ev51i rfl (by decide) (Nat.zero_le _) dX12_thaws_116 (fun v54 mv54a mv54b mv54c => ?_)
                refine lv_istore hx hb dX12_thaws_119 hl (by decide) rfl (fun ls hl => ?_)
                have hl : lv_has ls 9 [(8, .int v54), (7, .int v42), (6, .int v39), (5, .int v36), (4, .int v30), (3, .int v21), (2, .int v31), (0, .ref h0), (1, .int p1)] := hl
                refine lv_aload_n hx hb dX12_thaws_121 rfl (lv_at hl 7 rfl) ?_
                refine q_getC E hC46 g0 fa_RX12_35 uc dX12_thaws_122 ?_
                refine lv_bipush (v := 62) hx hb dX12_thaws_125 rfl ?_
                refine lv_iload hx hb dX12_thaws_127 (lv_at hl 3 rfl) ?_
                refine lv_iadd hx hb dX12_thaws_129 (lv_topi (fun v55 ev55 => ?_))
                have ev55i : v55.toInt = (62 + v36.toInt) := i_add ev55 (by decide) rfl (by omega) (by omega)
                refine lv_dup2_11 hx hb dX12_thaws_130 rfl rfl ?_
                refine q_cald E hC46 (lo := 0) (hi := 99) gca (a := (62 + v36.toInt)) ev55i (by omega) (by omega) (cr_c26 (by omega) (by omega)) dX12_thaws_131 (fun v56 ev56 lv56 uv56 => ?_)
                have qv56 := ev53.symm.trans ev56; subst qv56
                refine lv_iload hx hb dX12_thaws_132 (lv_at hl 0 rfl) ?_
                refine lv_isub hx hb dX12_thaws_134 (lv_topi (fun v57 ev57 => ?_))
                have ev57i : v57.toInt = (v53.toInt - v54.toInt) := i_sub ev57 rfl rfl (by omega) (by omega)
                refine q_cast E hC46 hS46 gca (a := (62 + v36.toInt)) ev55i (by omega) (by omega) (cs_c26 (a := (62 + v36.toInt)) (b := (v53.toInt - v54.toInt)) (by omega) (by omega) ev57i (by omega) (by omega)) dX12_thaws_135 (fun H58 locs58 hC58 hS58 U58 => ?_)
                have hKp58 := Kp.upD gca rfl rfl (fun _ => ⟨fun _ => nd2 (by omega) (by omega), fun _ => by unfold dpu; omega, fun _ => by unfold dpn; omega⟩) U58 hKp46
                have e59 := up_I U58
                refine lv_aload_n hx hb dX12_thaws_136 rfl (lv_at hl 7 rfl) ?_
                refine q_getC E hC58 g0 fa_RX12_35 uc dX12_thaws_137 ?_
                refine lv_sipush (v := 170) hx hb dX12_thaws_140 rfl ?_
                refine lv_iload hx hb dX12_thaws_143 (lv_at hl 3 rfl) ?_
                refine lv_iadd hx hb dX12_thaws_145 (lv_topi (fun v60 ev60 => ?_))
                have ev60i : v60.toInt = (170 + v36.toInt) := i_add ev60 (by decide) rfl (by omega) (by omega)
                refine lv_iconst (v := 0) hx hb dX12_thaws_146 rfl ?_
                refine q_cast E hC58 hS58 gca (a := (170 + v36.toInt)) ev60i (by omega) (by omega) (cs_c134 (a := (170 + v36.toInt)) (by omega) (by omega)) dX12_thaws_147 (fun H61 locs61 hC61 hS61 U61 => ?_)
                have hKp61 := Kp.upD gca rfl rfl (fun _ => ⟨fun _ => nd2 (by omega) (by omega), fun _ => by unfold dpu; omega, fun _ => by unfold dpn; omega⟩) U61 hKp58
                have e62 := up_I U61
                refine lv_aload_n hx hb dX12_thaws_148 rfl (lv_at hl 7 rfl) ?_
                refine q_getC E hC61 g0 fa_RX12_35 uc dX12_thaws_149 ?_
                refine lv_sipush (v := 206) hx hb dX12_thaws_152 rfl ?_
                refine lv_iload hx hb dX12_thaws_155 (lv_at hl 3 rfl) ?_
                refine lv_iadd hx hb dX12_thaws_157 (lv_topi (fun v63 ev63 => ?_))
                have ev63i : v63.toInt = (206 + v36.toInt) := i_add ev63 (by decide) rfl (by omega) (by omega)
                refine lv_iconst (v := 0) hx hb dX12_thaws_158 rfl ?_
                refine q_cast E hC61 hS61 gca (a := (206 + v36.toInt)) ev63i (by omega) (by omega) (cs_c134 (a := (206 + v36.toInt)) (by omega) (by omega)) dX12_thaws_159 (fun H64 locs64 hC64 hS64 U64 => ?_)
                have hKp64 := Kp.upD gca rfl rfl (fun _ => ⟨fun _ => nd2 (by omega) (by omega), fun _ => by unfold dpu; omega, fun _ => by unfold dpn; omega⟩) U64 hKp61
                have e65 := up_I U64
                refine lv_iload_n hx hb dX12_thaws_160 rfl (lv_at hl 6 rfl) ?_
                refine lv_iload hx hb dX12_thaws_161 (lv_at hl 1 rfl) ?_
                refine lv_iload hx hb dX12_thaws_163 (lv_at hl 0 rfl) ?_
                refine lv_iadd hx hb dX12_thaws_165 (lv_topi (fun v66 ev66 => ?_))
                have ev66i : v66.toInt = (v42.toInt + v54.toInt) := i_add ev66 rfl rfl (by omega) (by omega)
                refine lv_iadd hx hb dX12_thaws_166 (lv_topi (fun v67 ev67 => ?_))
                refine lv_istore_n hx hb dX12_thaws_167 rfl hl (by decide) rfl (fun ls hl => ?_)
                have hl : lv_has ls 9 [(2, .int v67), (8, .int v54), (7, .int v42), (6, .int v39), (5, .int v36), (4, .int v30), (3, .int v21), (0, .ref h0), (1, .int p1)] := hl
                obtain ⟨v68, ev68⟩ : ∃ z, z = v30 + Int32.ofInt 1 := ⟨_, rfl⟩
                have ev68i : v68.toInt = (z30 + 1) := i_add ev68 ev30 (by decide) (by omega) (by omega)
                refine lv_iinc hx hb dX12_thaws_168 hl (k := 5) rfl ev68.symm (by decide) rfl (fun ls hl => ?_)
                have hl : lv_has ls 9 [(4, .int v68), (2, .int v67), (8, .int v54), (7, .int v42), (6, .int v39), (5, .int v36), (3, .int v21), (0, .ref h0), (1, .int p1)] := hl
                refine lv_goto (tgt := 17) hx hb dX12_thaws_171 rfl ?_
                exact ih32 H64 locs64 v68 ((z30 + 1)) v67 (v67.toInt) ls (by omega) ev68i rfl (by omega) (by omega) hC64 hS64 hKp64 (lv_sub hl [0, 6, 1, 7, 8] rfl)
              · refine lv_iconst (v := 0) hx hb dX12_thaws_97 rfl ?_
                refine lv_goto (tgt := 119) hx hb dX12_thaws_98 rfl ?_
                refine lv_istore hx hb dX12_thaws_119 hl (by decide) rfl (fun ls hl => ?_)
                have hl : lv_has ls 9 [(8, .int 0), (7, .int v42), (6, .int v39), (5, .int v36), (4, .int v30), (3, .int v21), (2, .int v31), (0, .ref h0), (1, .int p1)] := hl
                refine lv_aload_n hx hb dX12_thaws_121 rfl (lv_at hl 7 rfl) ?_
                refine q_getC E hC46 g0 fa_RX12_35 uc dX12_thaws_122 ?_
                refine lv_bipush (v := 62) hx hb dX12_thaws_125 rfl ?_
                refine lv_iload hx hb dX12_thaws_127 (lv_at hl 3 rfl) ?_
                refine lv_iadd hx hb dX12_thaws_129 (lv_topi (fun v69 ev69 => ?_))
                have ev69i : v69.toInt = (62 + v36.toInt) := i_add ev69 (by decide) rfl (by omega) (by omega)
                refine lv_dup2_11 hx hb dX12_thaws_130 rfl rfl ?_
                refine q_cald E hC46 (lo := 0) (hi := 99) gca (a := (62 + v36.toInt)) ev69i (by omega) (by omega) (cr_c26 (by omega) (by omega)) dX12_thaws_131 (fun v70 ev70 lv70 uv70 => ?_)
                refine lv_iload hx hb dX12_thaws_132 (lv_at hl 0 rfl) ?_
                refine lv_isub hx hb dX12_thaws_134 (lv_topi (fun v71 ev71 => ?_))
                have ev71i : v71.toInt = (v70.toInt - 0) := i_sub ev71 rfl (by decide) (by omega) (by omega)
                refine q_cast E hC46 hS46 gca (a := (62 + v36.toInt)) ev69i (by omega) (by omega) (cs_c26 (a := (62 + v36.toInt)) (b := (v70.toInt - 0)) (by omega) (by omega) ev71i (by omega) (by omega)) dX12_thaws_135 (fun H72 locs72 hC72 hS72 U72 => ?_)
                have hKp72 := Kp.upD gca rfl rfl (fun _ => ⟨fun _ => nd2 (by omega) (by omega), fun _ => by unfold dpu; omega, fun _ => by unfold dpn; omega⟩) U72 hKp46
                have e73 := up_I U72
                refine lv_aload_n hx hb dX12_thaws_136 rfl (lv_at hl 7 rfl) ?_
                refine q_getC E hC72 g0 fa_RX12_35 uc dX12_thaws_137 ?_
                refine lv_sipush (v := 170) hx hb dX12_thaws_140 rfl ?_
                refine lv_iload hx hb dX12_thaws_143 (lv_at hl 3 rfl) ?_
                refine lv_iadd hx hb dX12_thaws_145 (lv_topi (fun v74 ev74 => ?_))
                have ev74i : v74.toInt = (170 + v36.toInt) := i_add ev74 (by decide) rfl (by omega) (by omega)
                refine lv_iconst (v := 0) hx hb dX12_thaws_146 rfl ?_
                refine q_cast E hC72 hS72 gca (a := (170 + v36.toInt)) ev74i (by omega) (by omega) (cs_c134 (a := (170 + v36.toInt)) (by omega) (by omega)) dX12_thaws_147 (fun H75 locs75 hC75 hS75 U75 => ?_)
                have hKp75 := Kp.upD gca rfl rfl (fun _ => ⟨fun _ => nd2 (by omega) (by omega), fun _ => by unfold dpu; omega, fun _ => by unfold dpn; omega⟩) U75 hKp72
                have e76 := up_I U75
                refine lv_aload_n hx hb dX12_thaws_148 rfl (lv_at hl 7 rfl) ?_
                refine q_getC E hC75 g0 fa_RX12_35 uc dX12_thaws_149 ?_
                refine lv_sipush (v := 206) hx hb dX12_thaws_152 rfl ?_
                refine lv_iload hx hb dX12_thaws_155 (lv_at hl 3 rfl) ?_
                refine lv_iadd hx hb dX12_thaws_157 (lv_topi (fun v77 ev77 => ?_))
                have ev77i : v77.toInt = (206 + v36.toInt) := i_add ev77 (by decide) rfl (by omega) (by omega)
                refine lv_iconst (v := 0) hx hb dX12_thaws_158 rfl ?_
                refine q_cast E hC75 hS75 gca (a := (206 + v36.toInt)) ev77i (by omega) (by omega) (cs_c134 (a := (206 + v36.toInt)) (by omega) (by omega)) dX12_thaws_159 (fun H78 locs78 hC78 hS78 U78 => ?_)
                have hKp78 := Kp.upD gca rfl rfl (fun _ => ⟨fun _ => nd2 (by omega) (by omega), fun _ => by unfold dpu; omega, fun _ => by unfold dpn; omega⟩) U78 hKp75
                have e79 := up_I U78
                refine lv_iload_n hx hb dX12_thaws_160 rfl (lv_at hl 6 rfl) ?_
                refine lv_iload hx hb dX12_thaws_161 (lv_at hl 1 rfl) ?_
                refine lv_iload hx hb dX12_thaws_163 (lv_at hl 0 rfl) ?_
                refine lv_iadd hx hb dX12_thaws_165 (lv_topi (fun v80 ev80 => ?_))
                have ev80i : v80.toInt = (v42.toInt + 0) := i_add ev80 rfl (by decide) (by omega) (by omega)
                refine lv_iadd hx hb dX12_thaws_166 (lv_topi (fun v81 ev81 => ?_))
                refine lv_istore_n hx hb dX12_thaws_167 rfl hl (by decide) rfl (fun ls hl => ?_)
                have hl : lv_has ls 9 [(2, .int v81), (8, .int 0), (7, .int v42), (6, .int v39), (5, .int v36), (4, .int v30), (3, .int v21), (0, .ref h0), (1, .int p1)] := hl
                obtain ⟨v82, ev82⟩ : ∃ z, z = v30 + Int32.ofInt 1 := ⟨_, rfl⟩
                have ev82i : v82.toInt = (z30 + 1) := i_add ev82 ev30 (by decide) (by omega) (by omega)
                refine lv_iinc hx hb dX12_thaws_168 hl (k := 5) rfl ev82.symm (by decide) rfl (fun ls hl => ?_)
                have hl : lv_has ls 9 [(4, .int v82), (2, .int v81), (8, .int 0), (7, .int v42), (6, .int v39), (5, .int v36), (3, .int v21), (0, .ref h0), (1, .int p1)] := hl
                refine lv_goto (tgt := 17) hx hb dX12_thaws_171 rfl ?_
                exact ih32 H78 locs78 v82 ((z30 + 1)) v81 (v81.toInt) ls (by omega) ev82i rfl (by omega) (by omega) hC78 hS78 hKp78 (lv_sub hl [0, 6, 1, 7, 8] rfl)
        exact L17 _ H23 locs23 0 0 v22 z22 ls (Nat.lt_succ_self _) (by decide) ev22 (by omega) (by omega) hC23 hS23 hKp23 hl
  exact L4 _ H0 [] 0 0 0 0 ls (Nat.lt_succ_self _) (by decide) (by decide) (by omega) (by omega) hC0 hS0 hKp0 hl
set_option maxRecDepth 100000 in
set_option maxHeartbeats 4000000 in
theorem m_X12_thaw (l : Launch) (X : xW) (Γ : Nat → Option Nat) (H0 : Heap) (hC0 : Conf X Γ H0) (h0 : Nat) (g0 : Γ h0 = some 11) (p1 : Int32) {a1 : Int} (e1 : p1.toInt = a1) (ca : Nat) (gca : Γ ca = some 64) (uc : ∀ a, Γ a = some 64 → a = ca) : Ctr l X Γ yX12_thaw cX12_thaw 2 (some .int) 2 [.ref h0, .int p1] H0 (QI X Γ (fun v H1 => Kp X Γ [1, 6, 7, 8, 9, 10, 11, 12, 14, 16, 17, 19, 22, 24] H0 H1 ∧ (True))) := by
  refine q_enterI (own := "SnowFortsModel") (by decide) rfl (Nat.le_of_ble_eq_true rfl) ?_
  intro p e s m args below meth c ls Qz E hl ret hS0
  have hx := E.1; have hb := E.2.1
  have hKp0 : Kp X Γ [1, 6, 7, 8, 9, 10, 11, 12, 14, 16, 17, 19, 22, 24] H0 H0 := Kp.rf
  have hl : lv_has ls 2 [(0, .ref h0), (1, .int p1)] := hl
  refine lv_aload_n hx hb dX12_thaw_0 rfl (lv_at hl 0 rfl) ?_
  refine lv_iconst (v := 0) hx hb dX12_thaw_1 rfl ?_
  refine q_put E hC0 hS0 g0 fp_RX12_69 tv_F rfl rfl dX12_thaw_2 (fun H21 locs21 hC21 hS21 U21 => ?_)
  have hKp21 := Kp.upO E g0 fp_RX12_69 rfl U21 hKp0
  have e22 := up_I U21
  refine lv_aload_n hx hb dX12_thaw_5 rfl (lv_at hl 0 rfl) ?_
  refine lv_iconst (v := 0) hx hb dX12_thaw_6 rfl ?_
  refine q_put E hC21 hS21 g0 fp_RX12_72 tv_F rfl rfl dX12_thaw_7 (fun H23 locs23 hC23 hS23 U23 => ?_)
  have hKp23 := Kp.upO E g0 fp_RX12_72 rfl U23 hKp21
  have e24 := up_I U23
  refine lv_iload_n hx hb dX12_thaw_10 rfl (lv_at hl 1 rfl) ?_
  refine lv_i2l (v := p1.toInt64) hx hb dX12_thaw_11 rfl (lv_topl (fun v25 ev25 => ?_))
  have ev25i : v25.toInt = a1 := l_ofi ev25.symm e1
  refine lv_lconst (v := 0) hx hb dX12_thaw_12 rfl ?_
  refine lv_ldc2 (v := 40) hx hb E.2.2.2.1 (E.2.2.2.2.1 _ w_1726) dX12_thaw_13 ?_
  refine q_goIp (q_runS (As := [.long v25, .long 0, .long 40]) (rest := []) E hS23 (m_X12_isIn l X Γ H23 hC23 v25 (a0 := a1) ev25i 0 (a1 := 0) (show (0 : Int64).toInt = 0 from by decide) 40 (a2 := 40) (show (40 : Int64).toInt = 40 from by decide)) cw_X12_isIn cl_RX12_104 rfl hl.1 rfl (Nat.zero_le _) (by decide) dX12_thaw_16) hS23 (fun v26 locs26 hr26 hS26 => ?_)
  rcases hr26 with ⟨rfl, f26a0, f26a1⟩ | ⟨rfl, f26b⟩
  · refine q_if_eq hx hb (a := 1) (by decide) (tgt := 30) dX12_thaw_19 rfl (fun c27 => absurd c27 (by omega)) (fun c27 => ?_)
    refine lv_aload_n hx hb dX12_thaw_22 rfl (lv_at hl 0 rfl) ?_
    refine lv_iload_n hx hb dX12_thaw_23 rfl (lv_at hl 1 rfl) ?_
    refine q_goI (q_runV (As := [.int p1]) (rest := []) E hC23 hS26 (m_X12_thaws l X Γ H23 hC23 h0 g0 p1 (a1 := a1) e1 ca gca uc (by omega) (by omega)) cw_X12_thaws cl_RX12_323 g0 ⟨rfl, rfl⟩ rfl hl.1 rfl (Nat.zero_le _) (by decide) dX12_thaw_24) hS26 (fun v28 H28 locs28 hr28 hC28 hS28 => ?_)
    obtain ⟨hp28, hr28⟩ := hr28
    have hKp28 := hKp23.tr (hp28.mono rfl)
    refine lv_goto (tgt := 35) hx hb dX12_thaw_27 rfl ?_
    exact ret v28 H28 locs28 _ _ dX12_thaw_35 ⟨hKp28, trivial⟩ hC28 hS28
  · refine q_if_eq hx hb (a := 0) (by decide) (tgt := 30) dX12_thaw_19 rfl (fun c29 => ?_) (fun c29 => absurd c29 (by omega))
    refine lv_aload_n hx hb dX12_thaw_30 rfl (lv_at hl 0 rfl) ?_
    refine lv_iconst (v := 5) hx hb dX12_thaw_31 rfl ?_
    refine q_goI (q_runV (As := [.int 5]) (rest := []) E hC23 hS26 (m_X12_refuse l X Γ H23 hC23 h0 g0 5 (a1 := 5) (by decide) ca gca uc) cw_X12_refuse cl_RX12_298 g0 ⟨rfl, rfl⟩ rfl hl.1 rfl (Nat.zero_le _) (by decide) dX12_thaw_32) hS26 (fun v30 H30 locs30 hr30 hC30 hS30 => ?_)
    obtain ⟨hp30, hr30⟩ := hr30
    have hKp30 := hKp23.tr (hp30.mono rfl)
    have f30_0 := hr30
    exact ret v30 H30 locs30 _ _ dX12_thaw_35 ⟨hKp30, trivial⟩ hC30 hS30
set_option maxRecDepth 100000 in
set_option maxHeartbeats 4000000 in
theorem m_X12_isOwned (l : Launch) (X : xW) (Γ : Nat → Option Nat) (H0 : Heap) (hC0 : Conf X Γ H0) (h0 : Nat) (g0 : Γ h0 = some 11) (p1 : Int32) {a1 : Int} (e1 : p1.toInt = a1) (p2 : Int32) {a2 : Int} (e2 : p2.toInt = a2) (ca : Nat) (gca : Γ ca = some 64) (uc : ∀ a, Γ a = some 64 → a = ca) : Ctr l X Γ yX12_isOwned cX12_isOwned 3 (some .boolean) 2 [.ref h0, .int p1, .int p2] H0 (QI X Γ (fun v H1 => H1 = H0 ∧ ((v = 1 ∧ (0 ≤ a1 ∧ a1 ≤ 5 ∧ 0 ≤ a2 ∧ a2 ≤ 5)) ∨ (v = 0 ∧ (True))))) := by
  refine q_enterZ (own := "SnowFortsModel") (by decide) rfl (Nat.le_of_ble_eq_true rfl) ?_
  intro p e s m args below meth c ls Qz E hl ret hS0
  have hx := E.1; have hb := E.2.1
  have hl : lv_has ls 3 [(0, .ref h0), (1, .int p1), (2, .int p2)] := hl
  refine lv_aload_n hx hb dX12_isOwned_0 rfl (lv_at hl 0 rfl) ?_
  refine lv_iload_n hx hb dX12_isOwned_1 rfl (lv_at hl 1 rfl) ?_
  refine lv_iload_n hx hb dX12_isOwned_2 rfl (lv_at hl 2 rfl) ?_
  refine q_goIp (q_runV (As := [.int p1, .int p2]) (rest := []) E hC0 hS0 (m_X12_isCell l X Γ H0 hC0 h0 g0 p1 (a1 := a1) e1 p2 (a2 := a2) e2 ca gca uc) cw_X12_isCell cl_RX12_301 g0 ⟨rfl, rfl⟩ rfl hl.1 rfl (Nat.zero_le _) (by decide) dX12_isOwned_3) hS0 (fun v21 locs21 hr21 hS21 => ?_)
  rcases hr21 with ⟨rfl, f21a0, f21a1, f21a2, f21a3, f21a4, f21a5⟩ | ⟨rfl, f21b⟩
  · refine q_if_eq hx hb (a := 1) (by decide) (tgt := 27) dX12_isOwned_6 rfl (fun c22 => absurd c22 (by omega)) (fun c22 => ?_)
    refine lv_aload_n hx hb dX12_isOwned_9 rfl (lv_at hl 0 rfl) ?_
    refine lv_iload_n hx hb dX12_isOwned_10 rfl (lv_at hl 1 rfl) ?_
    refine q_goIp (q_runV (As := [.int p1]) (rest := []) E hC0 hS21 (m_X12_halfOf l X Γ H0 hC0 h0 g0 p1 (a1 := a1) e1 ca gca uc) cw_X12_halfOf cl_RX12_270 g0 ⟨rfl, rfl⟩ rfl hl.1 rfl (Nat.zero_le _) (by decide) dX12_isOwned_11) hS21 (fun v23 locs23 hr23 hS23 => ?_)
    obtain ⟨f23_0, f23_1⟩ := hr23
    refine lv_aload_n hx hb dX12_isOwned_14 rfl (lv_at hl 0 rfl) ?_
    refine q_getC E hC0 g0 fa_RX12_35 uc dX12_isOwned_15 ?_
    refine lv_iconst (v := 2) hx hb dX12_isOwned_18 rfl ?_
    refine q_cald E hC0 (lo := 0) (hi := 2) gca (a := 2) (show (2 : Int32).toInt = 2 from by decide) (by omega) (by omega) (cr_c2 (by omega) (by omega)) dX12_isOwned_19 (fun v24 ev24 lv24 uv24 => ?_)
    refine q_icmp_ge hx hb (a := v23.toInt) (b := v24.toInt) rfl rfl (tgt := 27) dX12_isOwned_20 rfl (fun c25 => ?_) (fun c25 => ?_)
    · refine lv_iconst (v := 0) hx hb dX12_isOwned_27 rfl ?_
      exact ret 0 H0 locs23 _ _ dX12_isOwned_28 (Or.inl rfl) ⟨rfl, Or.inr ⟨rfl, trivial⟩⟩ hC0 hS23
    · refine lv_iconst (v := 1) hx hb dX12_isOwned_23 rfl ?_
      refine lv_goto (tgt := 28) hx hb dX12_isOwned_24 rfl ?_
      exact ret 1 H0 locs23 _ _ dX12_isOwned_28 (Or.inr rfl) ⟨rfl, Or.inl ⟨rfl, by omega, by omega, by omega, by omega⟩⟩ hC0 hS23
  · refine q_if_eq hx hb (a := 0) (by decide) (tgt := 27) dX12_isOwned_6 rfl (fun c26 => ?_) (fun c26 => absurd c26 (by omega))
    refine lv_iconst (v := 0) hx hb dX12_isOwned_27 rfl ?_
    exact ret 0 H0 locs21 _ _ dX12_isOwned_28 (Or.inl rfl) ⟨rfl, Or.inr ⟨rfl, trivial⟩⟩ hC0 hS21
set_option maxRecDepth 100000 in
set_option maxHeartbeats 4000000 in
theorem m_X12_isHand (l : Launch) (X : xW) (Γ : Nat → Option Nat) (H0 : Heap) (hC0 : Conf X Γ H0) (h0 : Nat) (g0 : Γ h0 = some 11) (p1 : Int32) {a1 : Int} (e1 : p1.toInt = a1) (p2 : Int32) {a2 : Int} (e2 : p2.toInt = a2) (ca : Nat) (gca : Γ ca = some 64) (uc : ∀ a, Γ a = some 64 → a = ca) (r0 : 0 ≤ a1) (r1 : a1 ≤ 1) : Ctr l X Γ yX12_isHand cX12_isHand 3 (some .boolean) 0 [.ref h0, .int p1, .int p2] H0 (QI X Γ (fun v H1 => H1 = H0 ∧ ((v = 1 ∧ (a2 ≤ (sI H0 ca (12 + a1).toNat).toInt - (sI H0 ca (14 + a1).toNat).toInt ∧ (sI H0 ca (12 + a1).toNat).toInt ≤ 40)) ∨ (v = 0 ∧ (True))))) := by
  refine q_enterZ (own := "SnowFortsModel") (by decide) rfl (Nat.le_of_ble_eq_true rfl) ?_
  intro p e s m args below meth c ls Qz E hl ret hS0
  have hx := E.1; have hb := E.2.1
  have hl : lv_has ls 3 [(0, .ref h0), (1, .int p1), (2, .int p2)] := hl
  refine lv_aload_n hx hb dX12_isHand_0 rfl (lv_at hl 0 rfl) ?_
  refine q_getC E hC0 g0 fa_RX12_35 uc dX12_isHand_1 ?_
  refine lv_bipush (v := 12) hx hb dX12_isHand_4 rfl ?_
  refine lv_iload_n hx hb dX12_isHand_6 rfl (lv_at hl 1 rfl) ?_
  refine lv_iadd hx hb dX12_isHand_7 (lv_topi (fun v21 ev21 => ?_))
  have ev21i : v21.toInt = (12 + a1) := i_add ev21 (by decide) e1 (by omega) (by omega)
  refine q_cald E hC0 (lo := 0) (hi := 40) gca (a := (12 + a1)) ev21i (by omega) (by omega) (cr_c12 (by omega) (by omega)) dX12_isHand_8 (fun v22 ev22 lv22 uv22 => ?_)
  have m23 : (sI H0 ca ((12 + a1) : Int).toNat).toInt = v22.toInt := congrArg Int32.toInt ev22
  refine lv_aload_n hx hb dX12_isHand_9 rfl (lv_at hl 0 rfl) ?_
  refine q_getC E hC0 g0 fa_RX12_35 uc dX12_isHand_10 ?_
  refine lv_bipush (v := 14) hx hb dX12_isHand_13 rfl ?_
  refine lv_iload_n hx hb dX12_isHand_15 rfl (lv_at hl 1 rfl) ?_
  refine lv_iadd hx hb dX12_isHand_16 (lv_topi (fun v24 ev24 => ?_))
  have ev24i : v24.toInt = (14 + a1) := i_add ev24 (by decide) e1 (by omega) (by omega)
  refine q_cald E hC0 (lo := 0) (hi := 40) gca (a := (14 + a1)) ev24i (by omega) (by omega) (cr_c12 (by omega) (by omega)) dX12_isHand_17 (fun v25 ev25 lv25 uv25 => ?_)
  have m26 : (sI H0 ca ((14 + a1) : Int).toNat).toInt = v25.toInt := congrArg Int32.toInt ev25
  refine lv_isub hx hb dX12_isHand_18 (lv_topi (fun v27 ev27 => ?_))
  have ev27i : v27.toInt = (v22.toInt - v25.toInt) := i_sub ev27 rfl rfl (by omega) (by omega)
  refine lv_iload_n hx hb dX12_isHand_19 rfl (lv_at hl 2 rfl) ?_
  have c28 := i_rng p2; rw [show p2.toInt = a2 from e2] at c28
  refine q_icmp_lt hx hb (a := (v22.toInt - v25.toInt)) (b := a2) ev27i e2 (tgt := 27) dX12_isHand_20 rfl (fun c29 => ?_) (fun c29 => ?_)
  · refine lv_iconst (v := 0) hx hb dX12_isHand_27 rfl ?_
    exact ret 0 H0 [] _ _ dX12_isHand_28 (Or.inl rfl) ⟨rfl, Or.inr ⟨rfl, trivial⟩⟩ hC0 hS0
  · refine lv_iconst (v := 1) hx hb dX12_isHand_23 rfl ?_
    refine lv_goto (tgt := 28) hx hb dX12_isHand_24 rfl ?_
    exact ret 1 H0 [] _ _ dX12_isHand_28 (Or.inr rfl) ⟨rfl, Or.inl ⟨rfl, by omega, by omega⟩⟩ hC0 hS0
