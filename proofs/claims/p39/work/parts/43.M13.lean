set_option maxRecDepth 100000 in
set_option maxHeartbeats 4000000 in
theorem m_X12_hiding (l : Launch) (X : xW) (Γ : Nat → Option Nat) (H0 : Heap) (hC0 : Conf X Γ H0) (h0 : Nat) (g0 : Γ h0 = some 11) (p1 : Int32) {a1 : Int} (e1 : p1.toInt = a1) (ca : Nat) (gca : Γ ca = some 64) (uc : ∀ a, Γ a = some 64 → a = ca) : Ctr l X Γ yX12_hiding cX12_hiding 2 (some .int) 2 [.ref h0, .int p1] H0 (QI X Γ (fun v H1 => Kp X Γ [1, 6, 7, 8, 9, 10, 11, 12, 14, 15, 16, 17, 19, 22, 24, 26, 28] H0 H1 ∧ (True))) := by
  refine q_enterI (own := "SnowFortsModel") (by decide) rfl (Nat.le_of_ble_eq_true rfl) ?_
  intro p e s m args below meth c ls Qz E hl ret hS0
  have hx := E.1; have hb := E.2.1
  have hKp0 : Kp X Γ [1, 6, 7, 8, 9, 10, 11, 12, 14, 15, 16, 17, 19, 22, 24, 26, 28] H0 H0 := Kp.rf
  have hl : lv_has ls 2 [(0, .ref h0), (1, .int p1)] := hl
  refine lv_aload_n hx hb dX12_hiding_0 rfl (lv_at hl 0 rfl) ?_
  refine lv_iconst (v := 0) hx hb dX12_hiding_1 rfl ?_
  refine q_put E hC0 hS0 g0 fp_RX12_69 tv_F rfl rfl dX12_hiding_2 (fun H21 locs21 hC21 hS21 U21 => ?_)
  have hKp21 := Kp.upO E g0 fp_RX12_69 rfl U21 hKp0
  have e22 := up_I U21
  refine lv_aload_n hx hb dX12_hiding_5 rfl (lv_at hl 0 rfl) ?_
  refine lv_iconst (v := 0) hx hb dX12_hiding_6 rfl ?_
  refine q_put E hC21 hS21 g0 fp_RX12_72 tv_F rfl rfl dX12_hiding_7 (fun H23 locs23 hC23 hS23 U23 => ?_)
  have hKp23 := Kp.upO E g0 fp_RX12_72 rfl U23 hKp21
  have e24 := up_I U23
  refine lv_iload_n hx hb dX12_hiding_10 rfl (lv_at hl 1 rfl) ?_
  refine lv_i2l (v := p1.toInt64) hx hb dX12_hiding_11 rfl (lv_topl (fun v25 ev25 => ?_))
  have ev25i : v25.toInt = a1 := l_ofi ev25.symm e1
  refine lv_lconst (v := 0) hx hb dX12_hiding_12 rfl ?_
  refine lv_lconst (v := 1) hx hb dX12_hiding_13 rfl ?_
  refine q_goIp (q_runS (As := [.long v25, .long 0, .long 1]) (rest := []) E hS23 (m_X12_isIn l X Γ H23 hC23 v25 (a0 := a1) ev25i 0 (a1 := 0) (show (0 : Int64).toInt = 0 from by decide) 1 (a2 := 1) (show (1 : Int64).toInt = 1 from by decide)) cw_X12_isIn cl_RX12_104 rfl hl.1 rfl (Nat.zero_le _) (by decide) dX12_hiding_14) hS23 (fun v26 locs26 hr26 hS26 => ?_)
  rcases hr26 with ⟨rfl, f26a0, f26a1⟩ | ⟨rfl, f26b⟩
  · refine q_if_eq hx hb (a := 1) (by decide) (tgt := 28) dX12_hiding_17 rfl (fun c27 => absurd c27 (by omega)) (fun c27 => ?_)
    refine lv_aload_n hx hb dX12_hiding_20 rfl (lv_at hl 0 rfl) ?_
    refine lv_iload_n hx hb dX12_hiding_21 rfl (lv_at hl 1 rfl) ?_
    refine q_goIp (q_runV (As := [.int p1]) (rest := []) E hC23 hS26 (m_X12_hidingOf l X Γ H23 hC23 h0 g0 p1 (a1 := a1) e1 ca gca uc) cw_X12_hidingOf cl_RX12_389 g0 ⟨rfl, rfl⟩ rfl hl.1 rfl (Nat.zero_le _) (by decide) dX12_hiding_22) hS26 (fun v28 locs28 hr28 hS28 => ?_)
    refine lv_goto (tgt := 33) hx hb dX12_hiding_25 rfl ?_
    exact ret v28 H23 locs28 _ _ dX12_hiding_33 ⟨hKp23, trivial⟩ hC23 hS28
  · refine q_if_eq hx hb (a := 0) (by decide) (tgt := 28) dX12_hiding_17 rfl (fun c29 => ?_) (fun c29 => absurd c29 (by omega))
    refine lv_aload_n hx hb dX12_hiding_28 rfl (lv_at hl 0 rfl) ?_
    refine lv_iconst (v := 5) hx hb dX12_hiding_29 rfl ?_
    refine q_goI (q_runV (As := [.int 5]) (rest := []) E hC23 hS26 (m_X12_refuse l X Γ H23 hC23 h0 g0 5 (a1 := 5) (by decide) ca gca uc) cw_X12_refuse cl_RX12_298 g0 ⟨rfl, rfl⟩ rfl hl.1 rfl (Nat.zero_le _) (by decide) dX12_hiding_30) hS26 (fun v30 H30 locs30 hr30 hC30 hS30 => ?_)
    obtain ⟨hp30, hr30⟩ := hr30
    have hKp30 := hKp23.tr (hp30.mono rfl)
    have f30_0 := hr30
    exact ret v30 H30 locs30 _ _ dX12_hiding_33 ⟨hKp30, trivial⟩ hC30 hS30
set_option maxRecDepth 100000 in
set_option maxHeartbeats 4000000 in
theorem m_X12_sure (l : Launch) (X : xW) (Γ : Nat → Option Nat) (H0 : Heap) (hC0 : Conf X Γ H0) (h0 : Nat) (g0 : Γ h0 = some 11) (p1 : Int32) {a1 : Int} (e1 : p1.toInt = a1) (p2 : Int32) {a2 : Int} (e2 : p2.toInt = a2) (ca : Nat) (gca : Γ ca = some 64) (uc : ∀ a, Γ a = some 64 → a = ca) : Ctr l X Γ yX12_sure cX12_sure 4 (some .int) 2 [.ref h0, .int p1, .int p2] H0 (QI X Γ (fun v H1 => Kp X Γ [1, 6, 7, 8, 9, 10, 11, 12, 14, 15, 16, 17, 19, 22, 24, 26, 28] H0 H1 ∧ (True))) := by
  refine q_enterI (own := "SnowFortsModel") (by decide) rfl (Nat.le_of_ble_eq_true rfl) ?_
  intro p e s m args below meth c ls Qz E hl ret hS0
  have hx := E.1; have hb := E.2.1
  have hKp0 : Kp X Γ [1, 6, 7, 8, 9, 10, 11, 12, 14, 15, 16, 17, 19, 22, 24, 26, 28] H0 H0 := Kp.rf
  have hl : lv_has ls 4 [(0, .ref h0), (1, .int p1), (2, .int p2)] := hl
  refine lv_aload_n hx hb dX12_sure_0 rfl (lv_at hl 0 rfl) ?_
  refine lv_iconst (v := 0) hx hb dX12_sure_1 rfl ?_
  refine q_put E hC0 hS0 g0 fp_RX12_69 tv_F rfl rfl dX12_sure_2 (fun H21 locs21 hC21 hS21 U21 => ?_)
  have hKp21 := Kp.upO E g0 fp_RX12_69 rfl U21 hKp0
  have e22 := up_I U21
  refine lv_aload_n hx hb dX12_sure_5 rfl (lv_at hl 0 rfl) ?_
  refine lv_iconst (v := 0) hx hb dX12_sure_6 rfl ?_
  refine q_put E hC21 hS21 g0 fp_RX12_72 tv_F rfl rfl dX12_sure_7 (fun H23 locs23 hC23 hS23 U23 => ?_)
  have hKp23 := Kp.upO E g0 fp_RX12_72 rfl U23 hKp21
  have e24 := up_I U23
  refine lv_iload_n hx hb dX12_sure_10 rfl (lv_at hl 1 rfl) ?_
  refine lv_i2l (v := p1.toInt64) hx hb dX12_sure_11 rfl (lv_topl (fun v25 ev25 => ?_))
  have ev25i : v25.toInt = a1 := l_ofi ev25.symm e1
  refine lv_lconst (v := 0) hx hb dX12_sure_12 rfl ?_
  refine lv_lconst (v := 1) hx hb dX12_sure_13 rfl ?_
  refine q_goIp (q_runS (As := [.long v25, .long 0, .long 1]) (rest := []) E hS23 (m_X12_isIn l X Γ H23 hC23 v25 (a0 := a1) ev25i 0 (a1 := 0) (show (0 : Int64).toInt = 0 from by decide) 1 (a2 := 1) (show (1 : Int64).toInt = 1 from by decide)) cw_X12_isIn cl_RX12_104 rfl hl.1 rfl (Nat.zero_le _) (by decide) dX12_sure_14) hS23 (fun v26 locs26 hr26 hS26 => ?_)
  rcases hr26 with ⟨rfl, f26a0, f26a1⟩ | ⟨rfl, f26b⟩
  · refine q_if_eq hx hb (a := 1) (by decide) (tgt := 32) dX12_sure_17 rfl (fun c27 => absurd c27 (by omega)) (fun c27 => ?_)
    refine lv_iload_n hx hb dX12_sure_20 rfl (lv_at hl 2 rfl) ?_
    refine lv_i2l (v := p2.toInt64) hx hb dX12_sure_21 rfl (lv_topl (fun v28 ev28 => ?_))
    have ev28i : v28.toInt = a2 := l_ofi ev28.symm e2
    refine lv_lconst (v := 1) hx hb dX12_sure_22 rfl ?_
    refine lv_ldc2 (v := 18) hx hb E.2.2.2.1 (E.2.2.2.2.1 _ w_1888) dX12_sure_23 ?_
    refine q_goIp (q_runS (As := [.long v28, .long 1, .long 18]) (rest := []) E hS26 (m_X12_isIn l X Γ H23 hC23 v28 (a0 := a2) ev28i 1 (a1 := 1) (show (1 : Int64).toInt = 1 from by decide) 18 (a2 := 18) (show (18 : Int64).toInt = 18 from by decide)) cw_X12_isIn cl_RX12_104 rfl hl.1 rfl (Nat.zero_le _) (by decide) dX12_sure_26) hS26 (fun v29 locs29 hr29 hS29 => ?_)
    rcases hr29 with ⟨rfl, f29a0, f29a1⟩ | ⟨rfl, f29b⟩
    · refine q_if_ne hx hb (a := 1) (by decide) (tgt := 38) dX12_sure_29 rfl (fun c30 => ?_) (fun c30 => absurd c30 (by omega))
      refine lv_aload_n hx hb dX12_sure_38 rfl (lv_at hl 0 rfl) ?_
      refine lv_iload_n hx hb dX12_sure_39 rfl (lv_at hl 1 rfl) ?_
      refine q_goIp (q_runV (As := [.int p1]) (rest := []) E hC23 hS29 (m_X12_hidingOf l X Γ H23 hC23 h0 g0 p1 (a1 := a1) e1 ca gca uc) cw_X12_hidingOf cl_RX12_389 g0 ⟨rfl, rfl⟩ rfl hl.1 rfl (Nat.zero_le _) (by decide) dX12_sure_40) hS29 (fun v31 locs31 hr31 hS31 => ?_)
      refine lv_istore_n hx hb dX12_sure_43 rfl hl (by decide) rfl (fun ls hl => ?_)
      replace hl : lv_has ls 4 [(3, .int v31), (0, .ref h0), (1, .int p1), (2, .int p2)] := hl
      refine lv_iload_n hx hb dX12_sure_44 rfl (lv_at hl 3 rfl) ?_
      refine lv_iload_n hx hb dX12_sure_45 rfl (lv_at hl 0 rfl) ?_
      have c32 := i_rng v31; rw [show v31.toInt = v31.toInt from rfl] at c32
      refine q_icmp_le hx hb (a := a2) (b := v31.toInt) e2 rfl (tgt := 58) dX12_sure_46 rfl (fun c33 => ?_) (fun c33 => ?_)
      · refine lv_iload_n hx hb dX12_sure_58 rfl (lv_at hl 0 rfl) ?_
        refine lv_iload_n hx hb dX12_sure_59 rfl (lv_at hl 3 rfl) ?_
        refine lv_isub hx hb dX12_sure_60 (lv_topi (fun v34 ev34 => ?_))
        have ev34i : v34.toInt = (v31.toInt - a2) := i_sub ev34 rfl e2 (by omega) (by omega)
        refine lv_iconst (v := 1) hx hb dX12_sure_61 rfl ?_
        refine lv_iadd hx hb dX12_sure_62 (lv_topi (fun v35 ev35 => ?_))
        have ev35i : v35.toInt = ((v31.toInt - a2) + 1) := i_add ev35 ev34i (by decide) (by omega) (by omega)
        exact ret v35 H23 locs31 _ _ dX12_sure_63 ⟨hKp23, trivial⟩ hC23 hS31
      · refine lv_aload_n hx hb dX12_sure_49 rfl (lv_at hl 1 rfl) ?_
        refine lv_bipush (v := 9) hx hb dX12_sure_50 rfl ?_
        refine q_goI (q_runV (As := [.int 9]) (rest := []) E hC23 hS31 (m_X12_refuse l X Γ H23 hC23 h0 g0 9 (a1 := 9) (by decide) ca gca uc) cw_X12_refuse cl_RX12_298 g0 ⟨rfl, rfl⟩ rfl hl.1 rfl (Nat.zero_le _) (by decide) dX12_sure_52) hS31 (fun v36 H36 locs36 hr36 hC36 hS36 => ?_)
        obtain ⟨hp36, hr36⟩ := hr36
        have hKp36 := hKp23.tr (hp36.mono rfl)
        have f36_0 := hr36
        refine lv_goto (tgt := 63) hx hb dX12_sure_55 rfl ?_
        exact ret v36 H36 locs36 _ _ dX12_sure_63 ⟨hKp36, trivial⟩ hC36 hS36
    · refine q_if_ne hx hb (a := 0) (by decide) (tgt := 38) dX12_sure_29 rfl (fun c37 => absurd c37 (by omega)) (fun c37 => ?_)
      refine lv_aload_n hx hb dX12_sure_32 rfl (lv_at hl 0 rfl) ?_
      refine lv_iconst (v := 5) hx hb dX12_sure_33 rfl ?_
      refine q_goI (q_runV (As := [.int 5]) (rest := []) E hC23 hS29 (m_X12_refuse l X Γ H23 hC23 h0 g0 5 (a1 := 5) (by decide) ca gca uc) cw_X12_refuse cl_RX12_298 g0 ⟨rfl, rfl⟩ rfl hl.1 rfl (Nat.zero_le _) (by decide) dX12_sure_34) hS29 (fun v38 H38 locs38 hr38 hC38 hS38 => ?_)
      obtain ⟨hp38, hr38⟩ := hr38
      have hKp38 := hKp23.tr (hp38.mono rfl)
      have f38_0 := hr38
      exact ret v38 H38 locs38 _ _ dX12_sure_37 ⟨hKp38, trivial⟩ hC38 hS38
  · refine q_if_eq hx hb (a := 0) (by decide) (tgt := 32) dX12_sure_17 rfl (fun c39 => ?_) (fun c39 => absurd c39 (by omega))
    refine lv_aload_n hx hb dX12_sure_32 rfl (lv_at hl 0 rfl) ?_
    refine lv_iconst (v := 5) hx hb dX12_sure_33 rfl ?_
    refine q_goI (q_runV (As := [.int 5]) (rest := []) E hC23 hS26 (m_X12_refuse l X Γ H23 hC23 h0 g0 5 (a1 := 5) (by decide) ca gca uc) cw_X12_refuse cl_RX12_298 g0 ⟨rfl, rfl⟩ rfl hl.1 rfl (Nat.zero_le _) (by decide) dX12_sure_34) hS26 (fun v40 H40 locs40 hr40 hC40 hS40 => ?_)
    obtain ⟨hp40, hr40⟩ := hr40
    have hKp40 := hKp23.tr (hp40.mono rfl)
    have f40_0 := hr40
    exact ret v40 H40 locs40 _ _ dX12_sure_37 ⟨hKp40, trivial⟩ hC40 hS40
set_option maxRecDepth 100000 in
set_option maxHeartbeats 4000000 in
theorem m_X12_isTray (l : Launch) (X : xW) (Γ : Nat → Option Nat) (H0 : Heap) (hC0 : Conf X Γ H0) (h0 : Nat) (g0 : Γ h0 = some 11) (p1 : Int32) {a1 : Int} (e1 : p1.toInt = a1) (ca : Nat) (gca : Γ ca = some 64) (uc : ∀ a, Γ a = some 64 → a = ca) : Ctr l X Γ yX12_isTray cX12_isTray 2 (some .boolean) 1 [.ref h0, .int p1] H0 (QI X Γ (fun v H1 => H1 = H0 ∧ ((v = 1 ∧ (0 ≤ a1 ∧ a1 ≤ 3)) ∨ (v = 0 ∧ (a1 < 0 ∨ 3 < a1))))) := by
  refine q_enterZ (own := "SnowFortsModel") (by decide) rfl (Nat.le_of_ble_eq_true rfl) ?_
  intro p e s m args below meth c ls Qz E hl ret hS0
  have hx := E.1; have hb := E.2.1
  have hl : lv_has ls 2 [(0, .ref h0), (1, .int p1)] := hl
  refine lv_iload_n hx hb dX12_isTray_0 rfl (lv_at hl 1 rfl) ?_
  refine lv_i2l (v := p1.toInt64) hx hb dX12_isTray_1 rfl (lv_topl (fun v21 ev21 => ?_))
  have ev21i : v21.toInt = a1 := l_ofi ev21.symm e1
  refine lv_lconst (v := 0) hx hb dX12_isTray_2 rfl ?_
  refine lv_ldc2 (v := 3) hx hb E.2.2.2.1 (E.2.2.2.2.1 _ w_1716) dX12_isTray_3 ?_
  refine q_goIp (q_runS (As := [.long v21, .long 0, .long 3]) (rest := []) E hS0 (m_X12_isIn l X Γ H0 hC0 v21 (a0 := a1) ev21i 0 (a1 := 0) (show (0 : Int64).toInt = 0 from by decide) 3 (a2 := 3) (show (3 : Int64).toInt = 3 from by decide)) cw_X12_isIn cl_RX12_104 rfl hl.1 rfl (Nat.zero_le _) (by decide) dX12_isTray_6) hS0 (fun v22 locs22 hr22 hS22 => ?_)
  rcases hr22 with ⟨rfl, f22a0, f22a1⟩ | ⟨rfl, f22b⟩
  · exact ret 1 H0 locs22 _ _ dX12_isTray_9 (Or.inr rfl) ⟨rfl, Or.inl ⟨rfl, by omega, by omega⟩⟩ hC0 hS22
  · exact ret 0 H0 locs22 _ _ dX12_isTray_9 (Or.inl rfl) ⟨rfl, Or.inr ⟨rfl, by omega⟩⟩ hC0 hS22
set_option maxRecDepth 100000 in
set_option maxHeartbeats 4000000 in
theorem m_X12_numberOf (l : Launch) (X : xW) (Γ : Nat → Option Nat) (H0 : Heap) (hC0 : Conf X Γ H0) (h0 : Nat) (g0 : Γ h0 = some 11) (p1 : Int32) {a1 : Int} (e1 : p1.toInt = a1) (p2 : Int32) {a2 : Int} (e2 : p2.toInt = a2) (ca : Nat) (gca : Γ ca = some 64) (uc : ∀ a, Γ a = some 64 → a = ca) (tm ts : Nat) (gtm : Γ tm = some 61) (utm : ∀ a, Γ a = some 61 → a = tm) (gts : Γ ts = some 60) (uts : ∀ a, Γ a = some 60 → a = ts) (na : Nat) (gna : Γ na = some 62) (una : ∀ a, Γ a = some 62 → a = na) (r0 : 0 ≤ a1) (r1 : a1 ≤ 3) (r2 : 0 ≤ a2) (r3 : a2 ≤ 59) : Ctr l X Γ yX12_numberOf cX12_numberOf 3 (some .long) 0 [.ref h0, .int p1, .int p2] H0 (QJ X Γ (fun v H1 => H1 = H0 ∧ ((v = nM na H0 (a1 : Int).toNat (a2 : Int).toNat)))) := by
  refine q_enterJ (own := "SnowFortsModel") (by decide) rfl (Nat.le_of_ble_eq_true rfl) ?_
  intro p e s m args below meth c ls Qz E hl ret hS0
  have hx := E.1; have hb := E.2.1
  have hl : lv_has ls 3 [(0, .ref h0), (1, .int p1), (2, .int p2)] := hl
  refine lv_aload_n hx hb dX12_numberOf_0 rfl (lv_at hl 0 rfl) ?_
  refine q_getU E hC0 g0 fa_RX12_20 una dX12_numberOf_1 ?_
  refine lv_bipush (v := 60) hx hb dX12_numberOf_4 rfl ?_
  refine lv_iload_n hx hb dX12_numberOf_6 rfl (lv_at hl 1 rfl) ?_
  refine lv_imul hx hb dX12_numberOf_7 (lv_topi (fun v21 ev21 => ?_))
  have ev21i : v21.toInt = (60 * a1) := i_mul ev21 (by decide) e1 (by omega) (by omega)
  refine lv_iload_n hx hb dX12_numberOf_8 rfl (lv_at hl 2 rfl) ?_
  refine lv_iadd hx hb dX12_numberOf_9 (lv_topi (fun v22 ev22 => ?_))
  have ev22i : v22.toInt = ((60 * a1) + a2) := i_add ev22 ev21i e2 (by omega) (by omega)
  refine q_lald2 E hC0 gna rfl rfl (fun _ => rfl) (a := ((60 * a1) + a2)) ev22i (by omega) (by omega) dX12_numberOf_10 (fun v23 ev23 => ?_)
  have hno : v23 = nM na H0 (a1 : Int).toNat (a2 : Int).toNat := ev23.symm.trans (congrArg (sJ H0 na) (show ((60 * a1) + a2 : Int).toNat = 60 * (a1 : Int).toNat + (a2 : Int).toNat from by omega))
  exact ret v23 H0 [] _ _ dX12_numberOf_11 ⟨rfl, hno⟩ hC0 hS0
