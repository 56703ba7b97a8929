set_option maxRecDepth 100000 in
set_option maxHeartbeats 4000000 in
theorem m_X12_hiding (l : Launch) (X : xW) (Γ : Nat → Option Nat) (H0 : Heap) (hC0 : Conf X Γ H0) (h0 : Nat) (g0 : Γ h0 = some 11) (p1 : Int32) {a1 : Int} (e1 : p1.toInt = a1) (ca : Nat) (gca : Γ ca = some 64) (uc : ∀ a, Γ a = some 64 → a = ca) : Ctr l X Γ yX12_hiding cX12_hiding 2 (some .int) 2 [.ref h0, .int p1] H0 (QI X Γ (fun v H1 => Kp X Γ [1, 6, 7, 8, 9, 10, 11, 12, 14, 15, 16, 17, 19, 22, 24] H0 H1 ∧ (True))) := by
  refine q_enterI (own := "SnowFortsModel") (by decide) rfl (Nat.le_of_ble_eq_true rfl) ?_
  intro p e s m args below meth c ls Qz E hl ret hS0
  have hx := E.1; have hb := E.2.1
  have hKp0 : Kp X Γ [1, 6, 7, 8, 9, 10, 11, 12, 14, 15, 16, 17, 19, 22, 24] H0 H0 := Kp.rf
  have hl : lv_has ls 2 [(0, .ref h0), (1, .int p1)] := hl
  refine lv_aload_n hx hb dX12_hiding_0 rfl (lv_at hl 0 rfl) ?_
  refine lv_iconst (v := 0) hx hb dX12_hiding_1 rfl ?_
  refine q_put E hC0 hS0 g0 fp_RX12_69 tv_F rfl rfl dX12_hiding_2 (fun H21 locs21 hC21 hS21 U21 => ?_)
  have hKp21 := Kp.upO E g0 fp_RX12_69 rfl U21 hKp0
  have e22 := up_I U21
  refine lv_aload_n hx hb dX12_hiding_5 rfl (lv_at hl 0 rfl) ?_
  refine lv_iconst (v := 0) hx hb dX12_hiding_6 rfl ?_
  refine q_put E hC21 hS21 g0 fp_RX12_72 tv_F rfl rfl dX12_hiding_7 (fun H23 locs23 hC23 hS23 U23 => ?_)
  have hKp23 := Kp.upO E g0 fp_RX12_72 rfl U23 hKp21
  have e24 := up_I U23
  refine lv_iload_n hx hb dX12_hiding_10 rfl (lv_at hl 1 rfl) ?_
  refine lv_i2l (v := p1.toInt64) hx hb dX12_hiding_11 rfl (lv_topl (fun v25 ev25 => ?_))
  have ev25i : v25.toInt = a1 := l_ofi ev25.symm e1
  refine lv_lconst (v := 0) hx hb dX12_hiding_12 rfl ?_
  refine lv_lconst (v := 1) hx hb dX12_hiding_13 rfl ?_
  refine q_goIp (q_runS (As := [.long v25, .long 0, .long 1]) (rest := []) E hS23 (m_X12_isIn l X Γ H23 hC23 v25 (a0 := a1) ev25i 0 (a1 := 0) (show (0 : Int64).toInt = 0 from by decide) 1 (a2 := 1) (show (1 : Int64).toInt = 1 from by decide)) cw_X12_isIn cl_RX12_104 rfl hl.1 rfl (Nat.zero_le _) (by decide) dX12_hiding_14) hS23 (fun v26 locs26 hr26 hS26 => ?_)
  rcases hr26 with ⟨rfl, f26a0, f26a1⟩ | ⟨rfl, f26b⟩
  · refine q_if_eq hx hb (a := 1) (by decide) (tgt := 28) dX12_hiding_17 rfl (fun c27 => absurd c27 (by omega)) (fun c27 => ?_)
    refine lv_aload_n hx hb dX12_hiding_20 rfl (lv_at hl 0 rfl) ?_
    refine lv_iload_n hx hb dX12_hiding_21 rfl (lv_at hl 1 rfl) ?_
    refine q_goIp (q_runV (As := [.int p1]) (rest := []) E hC23 hS26 (m_X12_hidingOf l X Γ H23 hC23 h0 g0 p1 (a1 := a1) e1 ca gca uc) cw_X12_hidingOf cl_RX12_389 g0 ⟨rfl, rfl⟩ rfl hl.1 rfl (Nat.zero_le _) (by decide) dX12_hiding_22) hS26 (fun v28 locs28 hr28 hS28 => ?_)
    refine lv_goto (tgt := 33) hx hb dX12_hiding_25 rfl ?_
    exact ret v28 H23 locs28 _ _ dX12_hiding_33 ⟨hKp23, trivial⟩ hC23 hS28
  · refine q_if_eq hx hb (a := 0) (by decide) (tgt := 28) dX12_hiding_17 rfl (fun c29 => ?_) (fun c29 => absurd c29 (by omega))
    refine lv_aload_n hx hb dX12_hiding_28 rfl (lv_at hl 0 rfl) ?_
    refine lv_iconst (v := 5) hx hb dX12_hiding_29 rfl ?_
    refine q_goI (q_runV (As := [.int 5]) (rest := []) E hC23 hS26 (m_X12_refuse l X Γ H23 hC23 h0 g0 5 (a1 := 5) (by decide) ca gca uc) cw_X12_refuse cl_RX12_298 g0 ⟨rfl, rfl⟩ rfl hl.1 rfl (Nat.zero_le _) (by decide) dX12_hiding_30) hS26 (fun v30 H30 locs30 hr30 hC30 hS30 => ?_)
    obtain ⟨hp30, hr30⟩ := hr30
    have hKp30 := hKp23.tr (hp30.mono rfl)
    have f30_0 := hr30
    exact ret v30 H30 locs30 _ _ dX12_hiding_33 ⟨hKp30, trivial⟩ hC30 hS30
set_option maxRecDepth 100000 in
set_option maxHeartbeats 4000000 in
theorem m_X12_sure (l : Launch) (X : xW) (Γ : Nat → Option Nat) (H0 : Heap) (hC0 : Conf X Γ H0) (h0 : Nat) (g0 : Γ h0 = some 11) (p1 : Int32) {a1 : Int} (e1 : p1.toInt = a1) (p2 : Int32) {a2 : Int} (e2 : p2.toInt = a2) (ca : Nat) (gca : Γ ca = some 64) (uc : ∀ a, Γ a = some 64 → a = ca) : Ctr l X Γ yX12_sure cX12_sure 4 (some .int) 2 [.ref h0, .int p1, .int p2] H0 (QI X Γ (fun v H1 => Kp X Γ [1, 6, 7, 8, 9, 10, 11, 12, 14, 15, 16, 17, 19, 22, 24] H0 H1 ∧ (True))) := by
  refine q_enterI (own := "SnowFortsModel") (by decide) rfl (Nat.le_of_ble_eq_true rfl) ?_
  intro p e s m args below meth c ls Qz E hl ret hS0
  have hx := E.1; have hb := E.2.1
  have hKp0 : Kp X Γ [1, 6, 7, 8, 9, 10, 11, 12, 14, 15, 16, 17, 19, 22, 24] H0 H0 := Kp.rf
  have hl : lv_has ls 4 [(0, .ref h0), (1, .int p1), (2, .int p2)] := hl
  refine lv_aload_n hx hb dX12_sure_0 rfl (lv_at hl 0 rfl) ?_
  refine lv_iconst (v := 0) hx hb dX12_sure_1 rfl ?_
  refine q_put E hC0 hS0 g0 fp_RX12_69 tv_F rfl rfl dX12_sure_2 (fun H21 locs21 hC21 hS21 U21 => ?_)
  have hKp21 := Kp.upO E g0 fp_RX12_69 rfl U21 hKp0
  have e22 := up_I U21
  refine lv_aload_n hx hb dX12_sure_5 rfl (lv_at hl 0 rfl) ?_
  refine lv_iconst (v := 0) hx hb dX12_sure_6 rfl ?_
  refine q_put E hC21 hS21 g0 fp_RX12_72 tv_F rfl rfl dX12_sure_7 (fun H23 locs23 hC23 hS23 U23 => ?_)
  have hKp23 := Kp.upO E g0 fp_RX12_72 rfl U23 hKp21
  have e24 := up_I U23
  refine lv_iload_n hx hb dX12_sure_10 rfl (lv_at hl 1 rfl) ?_
  refine lv_i2l (v := p1.toInt64) hx hb dX12_sure_11 rfl (lv_topl (fun v25 ev25 => ?_))
  have ev25i : v25.toInt = a1 := l_ofi ev25.symm e1
  refine lv_lconst (v := 0) hx hb dX12_sure_12 rfl ?_
  refine lv_lconst (v := 1) hx hb dX12_sure_13 rfl ?_
  refine q_goIp (q_runS (As := [.long v25, .long 0, .long 1]) (rest := []) E hS23 (m_X12_isIn l X Γ H23 hC23 v25 (a0 := a1) ev25i 0 (a1 := 0) (show (0 : Int64).toInt = 0 from by decide) 1 (a2 := 1) (show (1 : Int64).toInt = 1 from by decide)) cw_X12_isIn cl_RX12_104 rfl hl.1 rfl (Nat.zero_le _) (by decide) dX12_sure_14) hS23 (fun v26 locs26 hr26 hS26 => ?_)
  rcases hr26 with ⟨rfl, f26a0, f26a1⟩ | ⟨rfl, f26b⟩
  · refine q_if_eq hx hb (a := 1) (by decide) (tgt := 32) dX12_sure_17 rfl (fun c27 => absurd c27 (by omega)) (fun c27 => ?_)
    refine lv_iload_n hx hb dX12_sure_20 rfl (lv_at hl 2 rfl) ?_
    refine lv_i2l (v := p2.toInt64) hx hb dX12_sure_21 rfl (lv_topl (fun v28 ev28 => ?_))
    have ev28i : v28.toInt = a2 := l_ofi ev28.symm e2
    refine lv_lconst (v := 1) hx hb dX12_sure_22 rfl ?_
    refine lv_ldc2 (v := 18) hx hb E.2.2.2.1 (E.2.2.2.2.1 _ w_1888) dX12_sure_23 ?_
    refine q_goIp (q_runS (As := [.long v28, .long 1, .long 18]) (rest := []) E hS26 (m_X12_isIn l X Γ H23 hC23 v28 (a0 := a2) ev28i 1 (a1 := 1) (show (1 : Int64).toInt = 1 from by decide) 18 (a2 := 18) (show (18 : Int64).toInt = 18 from by decide)) cw_X12_isIn cl_RX12_104 rfl hl.1 rfl (Nat.zero_le _) (by decide) dX12_sure_26) hS26 (fun v29 locs29 hr29 hS29 => ?_)
    rcases hr29 with ⟨rfl, f29a0, f29a1⟩ | ⟨rfl, f29b⟩
    · refine q_if_ne hx hb (a := 1) (by decide) (tgt := 38) dX12_sure_29 rfl (fun c30 => ?_) (fun c30 => absurd c30 (by omega))
      refine lv_aload_n hx hb dX12_sure_38 rfl (lv_at hl 0 rfl) ?_
      refine lv_iload_n hx hb dX12_sure_39 rfl (lv_at hl 1 rfl) ?_
      refine q_goIp (q_runV (As := [.int p1]) (rest := []) E hC23 hS29 (m_X12_hidingOf l X Γ H23 hC23 h0 g0 p1 (a1 := a1) e1 ca gca uc) cw_X12_hidingOf cl_RX12_389 g0 ⟨rfl, rfl⟩ rfl hl.1 rfl (Nat.zero_le _) (by decide) dX12_sure_40) hS29 (fun v31 locs31 hr31 hS31 => ?_)
      refine lv_istore_n hx hb dX12_sure_43 rfl hl (by decide) rfl (fun ls hl => ?_)
      have hl : lv_has ls 4 [(3, .int v31), (0, .ref h0), (1, .int p1), (2, .int p2)] := hl
      refine lv_iload_n hx hb dX12_sure_44 rfl (lv_at hl 3 rfl) ?_
      refine lv_iload_n hx hb dX12_sure_45 rfl (lv_at hl 0 rfl) ?_
      have c32 := i_rng v31; rw [show v31.toInt = v31.toInt from rfl] at c32
      refine q_icmp_le hx hb (a := a2) (b := v31.toInt) e2 rfl (tgt := 58) dX12_sure_46 rfl (fun c33 => ?_) (fun c33 => ?_)
      · refine lv_iload_n hx hb dX12_sure_58 rfl (lv_at hl 0 rfl) ?_
        refine lv_iload_n hx hb dX12_sure_59 rfl (lv_at hl 3 rfl) ?_
        refine lv_isub hx hb dX12_sure_60 (lv_topi (fun v34 ev34 => ?_))
        have ev34i : v34.toInt = (v31.toInt - a2) := i_sub ev34 rfl e2 (by omega) (by omega)
        refine lv_iconst (v := 1) hx hb dX12_sure_61 rfl ?_
        refine lv_iadd hx hb dX12_sure_62 (lv_topi (fun v35 ev35 => ?_))
        have ev35i : v35.toInt = ((v31.toInt - a2) + 1) := i_add ev35 ev34i (by decide) (by omega) (by omega)
        exact ret v35 H23 locs31 _ _ dX12_sure_63 ⟨hKp23, trivial⟩ hC23 hS31
      · refine lv_aload_n hx hb dX12_sure_49 rfl (lv_at hl 1 rfl) ?_
        refine lv_bipush (v := 9) hx hb dX12_sure_50 rfl ?_
        refine q_goI (q_runV (As := [.int 9]) (rest := []) E hC23 hS31 (m_X12_refuse l X Γ H23 hC23 h0 g0 9 (a1 := 9) (by decide) ca gca uc) cw_X12_refuse cl_RX12_298 g0 ⟨rfl, rfl⟩ rfl hl.1 rfl (Nat.zero_le _) (by decide) dX12_sure_52) hS31 (fun v36 H36 locs36 hr36 hC36 hS36 => ?_)
        obtain ⟨hp36, hr36⟩ := hr36
        have hKp36 := hKp23.tr (hp36.mono rfl)
        have f36_0 := hr36
        refine lv_goto (tgt := 63) hx hb dX12_sure_55 rfl ?_
        exact ret v36 H36 locs36 _ _ dX12_sure_63 ⟨hKp36, trivial⟩ hC36 hS36
    · refine q_if_ne hx hb (a := 0) (by decide) (tgt := 38) dX12_sure_29 rfl (fun c37 => absurd c37 (by omega)) (fun c37 => ?_)
      refine lv_aload_n hx hb dX12_sure_32 rfl (lv_at hl 0 rfl) ?_
      refine lv_iconst (v := 5) hx hb dX12_sure_33 rfl ?_
      refine q_goI (q_runV (As := [.int 5]) (rest := []) E hC23 hS29 (m_X12_refuse l X Γ H23 hC23 h0 g0 5 (a1 := 5) (by decide) ca gca uc) cw_X12_refuse cl_RX12_298 g0 ⟨rfl, rfl⟩ rfl hl.1 rfl (Nat.zero_le _) (by decide) dX12_sure_34) hS29 (fun v38 H38 locs38 hr38 hC38 hS38 => ?_)
      obtain ⟨hp38, hr38⟩ := hr38
      have hKp38 := hKp23.tr (hp38.mono rfl)
      have f38_0 := hr38
      exact ret v38 H38 locs38 _ _ dX12_sure_37 ⟨hKp38, trivial⟩ hC38 hS38
  · refine q_if_eq hx hb (a := 0) (by decide) (tgt := 32) dX12_sure_17 rfl (fun c39 => ?_) (fun c39 => absurd c39 (by omega))
    refine lv_aload_n hx hb dX12_sure_32 rfl (lv_at hl 0 rfl) ?_
    refine lv_iconst (v := 5) hx hb dX12_sure_33 rfl ?_
    refine q_goI (q_runV (As := [.int 5]) (rest := []) E hC23 hS26 (m_X12_refuse l X Γ H23 hC23 h0 g0 5 (a1 := 5) (by decide) ca gca uc) cw_X12_refuse cl_RX12_298 g0 ⟨rfl, rfl⟩ rfl hl.1 rfl (Nat.zero_le _) (by decide) dX12_sure_34) hS26 (fun v40 H40 locs40 hr40 hC40 hS40 => ?_)
    obtain ⟨hp40, hr40⟩ := hr40
    have hKp40 := hKp23.tr (hp40.mono rfl)
    have f40_0 := hr40
    exact ret v40 H40 locs40 _ _ dX12_sure_37 ⟨hKp40, trivial⟩ hC40 hS40
set_option maxRecDepth 100000 in
set_option maxHeartbeats 4000000 in
theorem m_X12_isTray (l : Launch) (X : xW) (Γ : Nat → Option Nat) (H0 : Heap) (hC0 : Conf X Γ H0) (h0 : Nat) (g0 : Γ h0 = some 11) (p1 : Int32) {a1 : Int} (e1 : p1.toInt = a1) (ca : Nat) (gca : Γ ca = some 64) (uc : ∀ a, Γ a = some 64 → a = ca) : Ctr l X Γ yX12_isTray cX12_isTray 2 (some .boolean) 1 [.ref h0, .int p1] H0 (QI X Γ (fun v H1 => H1 = H0 ∧ ((v = 1 ∧ (0 ≤ a1 ∧ a1 ≤ 3)) ∨ (v = 0 ∧ (a1 < 0 ∨ 3 < a1))))) := by
  refine q_enterZ (own := "SnowFortsModel") (by decide) rfl (Nat.le_of_ble_eq_true rfl) ?_
  intro p e s m args below meth c ls Qz E hl ret hS0
  have hx := E.1; have hb := E.2.1
  have hl : lv_has ls 2 [(0, .ref h0), (1, .int p1)] := hl
  refine lv_iload_n hx hb dX12_isTray_0 rfl (lv_at hl 1 rfl) ?_
  refine lv_i2l (v := p1.toInt64) hx hb dX12_isTray_1 rfl (lv_topl (fun v21 ev21 => ?_))
  have ev21i : v21.toInt = a1 := l_ofi ev21.symm e1
  refine lv_lconst (v := 0) hx hb dX12_isTray_2 rfl ?_
  refine lv_ldc2 (v := 3) hx hb E.2.2.2.1 (E.2.2.2.2.1 _ w_1716) dX12_isTray_3 ?_
  refine q_goIp (q_runS (As := [.long v21, .long 0, .long 3]) (rest := []) E hS0 (m_X12_isIn l X Γ H0 hC0 v21 (a0 := a1) ev21i 0 (a1 := 0) (show (0 : Int64).toInt = 0 from by decide) 3 (a2 := 3) (show (3 : Int64).toInt = 3 from by decide)) cw_X12_isIn cl_RX12_104 rfl hl.1 rfl (Nat.zero_le _) (by decide) dX12_isTray_6) hS0 (fun v22 locs22 hr22 hS22 => ?_)
  rcases hr22 with ⟨rfl, f22a0, f22a1⟩ | ⟨rfl, f22b⟩
  · exact ret 1 H0 locs22 _ _ dX12_isTray_9 (Or.inr rfl) ⟨rfl, Or.inl ⟨rfl, by omega, by omega⟩⟩ hC0 hS22
  · exact ret 0 H0 locs22 _ _ dX12_isTray_9 (Or.inl rfl) ⟨rfl, Or.inr ⟨rfl, by omega⟩⟩ hC0 hS22
set_option maxRecDepth 100000 in
set_option maxHeartbeats 4000000 in
theorem m_X12_numberOf (l : Launch) (X : xW) (Γ : Nat → Option Nat) (H0 : Heap) (hC0 : Conf X Γ H0) (h0 : Nat) (g0 : Γ h0 = some 11) (p1 : Int32) {a1 : Int} (e1 : p1.toInt = a1) (p2 : Int32) {a2 : Int} (e2 : p2.toInt = a2) (ca : Nat) (gca : Γ ca = some 64) (uc : ∀ a, Γ a = some 64 → a = ca) (r0 : 0 ≤ a1) (r1 : a1 ≤ 3) (r2 : 0 ≤ a2) (r3 : a2 ≤ 59) : Ctr l X Γ yX12_numberOf cX12_numberOf 3 (some .long) 0 [.ref h0, .int p1, .int p2] H0 (QJ X Γ (fun v H1 => H1 = H0 ∧ (True))) := by
  refine q_enterJ (own := "SnowFortsModel") (by decide) rfl (Nat.le_of_ble_eq_true rfl) ?_
  intro p e s m args below meth c ls Qz E hl ret hS0
  have hx := E.1; have hb := E.2.1
  have hl : lv_has ls 3 [(0, .ref h0), (1, .int p1), (2, .int p2)] := hl
  refine lv_aload_n hx hb dX12_numberOf_0 rfl (lv_at hl 0 rfl) ?_
  refine q_getR E hC0 g0 fa_RX12_20 dX12_numberOf_1 (fun q21 eq21 gq21 => ?_)
  refine lv_bipush (v := 60) hx hb dX12_numberOf_4 rfl ?_
  refine lv_iload_n hx hb dX12_numberOf_6 rfl (lv_at hl 1 rfl) ?_
  refine lv_imul hx hb dX12_numberOf_7 (lv_topi (fun v22 ev22 => ?_))
  have ev22i : v22.toInt = (60 * a1) := i_mul ev22 (by decide) e1 (by omega) (by omega)
  refine lv_iload_n hx hb dX12_numberOf_8 rfl (lv_at hl 2 rfl) ?_
  refine lv_iadd hx hb dX12_numberOf_9 (lv_topi (fun v23 ev23 => ?_))
  have ev23i : v23.toInt = ((60 * a1) + a2) := i_add ev23 ev22i e2 (by omega) (by omega)
  refine q_lald2 E hC0 gq21 rfl rfl (fun _ => rfl) (a := ((60 * a1) + a2)) ev23i (by omega) (by omega) dX12_numberOf_10 (fun v24 ev24 => ?_)
  exact ret v24 H0 [] _ _ dX12_numberOf_11 ⟨rfl, trivial⟩ hC0 hS0
set_option maxRecDepth 100000 in
set_option maxHeartbeats 4000000 in
theorem m_X12_works (l : Launch) (X : xW) (Γ : Nat → Option Nat) (H0 : Heap) (hC0 : Conf X Γ H0) (h0 : Nat) (g0 : Γ h0 = some 11) (p1 : Int32) {a1 : Int} (e1 : p1.toInt = a1) (p2 : Int32) {a2 : Int} (e2 : p2.toInt = a2) (p3 : Int32) {a3 : Int} (e3 : p3.toInt = a3) (ca : Nat) (gca : Γ ca = some 64) (uc : ∀ a, Γ a = some 64 → a = ca) : Ctr l X Γ yX12_works cX12_works 17 (some .long) 2 [.ref h0, .int p1, .int p2, .int p3] H0 (QJ X Γ (fun v H1 => Kp X Γ [1, 6, 7, 8, 10, 11, 12, 14, 15, 16, 17, 19, 22, 24] H0 H1 ∧ (True))) := by
  refine q_enterJ (own := "SnowFortsModel") (by decide) rfl (Nat.le_of_ble_eq_true rfl) ?_
  intro p e s m args below meth c ls Qz E hl ret hS0
  have hx := E.1; have hb := E.2.1
  have hKp0 : Kp X Γ [1, 6, 7, 8, 10, 11, 12, 14, 15, 16, 17, 19, 22, 24] H0 H0 := Kp.rf
  have hl : lv_has ls 17 [(0, .ref h0), (1, .int p1), (2, .int p2), (3, .int p3)] := hl
  refine lv_aload_n hx hb dX12_works_0 rfl (lv_at hl 0 rfl) ?_
  refine lv_iconst (v := 0) hx hb dX12_works_1 rfl ?_
  refine q_put E hC0 hS0 g0 fp_RX12_69 tv_F rfl rfl dX12_works_2 (fun H21 locs21 hC21 hS21 U21 => ?_)
  have hKp21 := Kp.upO E g0 fp_RX12_69 rfl U21 hKp0
  have e22 := up_I U21
  refine lv_aload_n hx hb dX12_works_5 rfl (lv_at hl 0 rfl) ?_
  refine lv_iconst (v := 0) hx hb dX12_works_6 rfl ?_
  refine q_put E hC21 hS21 g0 fp_RX12_72 tv_F rfl rfl dX12_works_7 (fun H23 locs23 hC23 hS23 U23 => ?_)
  have hKp23 := Kp.upO E g0 fp_RX12_72 rfl U23 hKp21
  have e24 := up_I U23
  refine lv_aload_n hx hb dX12_works_10 rfl (lv_at hl 0 rfl) ?_
  refine lv_iload_n hx hb dX12_works_11 rfl (lv_at hl 1 rfl) ?_
  refine q_goIp (q_runV (As := [.int p1]) (rest := []) E hC23 hS23 (m_X12_isTray l X Γ H23 hC23 h0 g0 p1 (a1 := a1) e1 ca gca uc) cw_X12_isTray cl_RX12_394 g0 ⟨rfl, rfl⟩ rfl hl.1 rfl (Nat.zero_le _) (by decide) dX12_works_12) hS23 (fun v25 locs25 hr25 hS25 => ?_)
  rcases hr25 with ⟨rfl, f25a0, f25a1⟩ | ⟨rfl, f25b⟩
  · refine q_if_eq hx hb (a := 1) (by decide) (tgt := 26) dX12_works_15 rfl (fun c26 => absurd c26 (by omega)) (fun c26 => ?_)
    refine lv_aload_n hx hb dX12_works_18 rfl (lv_at hl 0 rfl) ?_
    refine lv_iload_n hx hb dX12_works_19 rfl (lv_at hl 2 rfl) ?_
    refine q_goIp (q_runV (As := [.int p2]) (rest := []) E hC23 hS25 (m_X12_isTray l X Γ H23 hC23 h0 g0 p2 (a1 := a2) e2 ca gca uc) cw_X12_isTray cl_RX12_394 g0 ⟨rfl, rfl⟩ rfl hl.1 rfl (Nat.zero_le _) (by decide) dX12_works_20) hS25 (fun v27 locs27 hr27 hS27 => ?_)
    rcases hr27 with ⟨rfl, f27a0, f27a1⟩ | ⟨rfl, f27b⟩
    · refine q_if_ne hx hb (a := 1) (by decide) (tgt := 33) dX12_works_23 rfl (fun c28 => ?_) (fun c28 => absurd c28 (by omega))
      refine lv_aload_n hx hb dX12_works_33 rfl (lv_at hl 0 rfl) ?_
      refine q_getR E hC23 g0 fa_RX12_17 dX12_works_34 (fun q29 eq29 gq29 => ?_)
      refine lv_iload_n hx hb dX12_works_37 rfl (lv_at hl 1 rfl) ?_
      refine q_iald E hC23 gq29 rfl rfl (fun _ h => h) (i_in (a := a1) e1 (by omega) (by omega)) dX12_works_38 (fun v30 ev30 lv30 uv30 => ?_)
      refine q_if_lt hx hb (a := v30.toInt) rfl (tgt := 51) dX12_works_39 rfl (fun c31 => ?_) (fun c31 => ?_)
      · refine lv_aload_n hx hb dX12_works_51 rfl (lv_at hl 0 rfl) ?_
        refine lv_iconst (v := 3) hx hb dX12_works_52 rfl ?_
        refine q_goI (q_runV (As := [.int 3]) (rest := []) E hC23 hS27 (m_X12_refuse l X Γ H23 hC23 h0 g0 3 (a1 := 3) (by decide) ca gca uc) cw_X12_refuse cl_RX12_298 g0 ⟨rfl, rfl⟩ rfl hl.1 rfl (Nat.zero_le _) (by decide) dX12_works_53) hS27 (fun v32 H32 locs32 hr32 hC32 hS32 => ?_)
        obtain ⟨hp32, hr32⟩ := hr32
        have hKp32 := hKp23.tr (hp32.mono rfl)
        have f32_0 := hr32
        refine lv_i2l (v := v32.toInt64) hx hb dX12_works_56 rfl (lv_topl (fun v33 ev33 => ?_))
        have ev33i : v33.toInt = v32.toInt := l_ofi ev33.symm rfl
        exact ret v33 H32 locs32 _ _ dX12_works_57 ⟨hKp32, trivial⟩ hC32 hS32
      · refine lv_aload_n hx hb dX12_works_42 rfl (lv_at hl 0 rfl) ?_
        refine q_getR E hC23 g0 fa_RX12_17 dX12_works_43 (fun q34 eq34 gq34 => ?_)
        refine lv_iload_n hx hb dX12_works_46 rfl (lv_at hl 2 rfl) ?_
        refine q_iald E hC23 gq34 rfl rfl (fun _ h => h) (i_in (a := a2) e2 (by omega) (by omega)) dX12_works_47 (fun v35 ev35 lv35 uv35 => ?_)
        refine q_if_ge hx hb (a := v35.toInt) rfl (tgt := 58) dX12_works_48 rfl (fun c36 => ?_) (fun c36 => ?_)
        · refine lv_aload_n hx hb dX12_works_58 rfl (lv_at hl 0 rfl) ?_
          refine q_getR E hC23 g0 fa_RX12_17 dX12_works_59 (fun q37 eq37 gq37 => ?_)
          refine lv_iload_n hx hb dX12_works_62 rfl (lv_at hl 1 rfl) ?_
          refine q_iald E hC23 gq37 rfl rfl (fun _ h => h) (i_in (a := a1) e1 (by omega) (by omega)) dX12_works_63 (fun v38 ev38 lv38 uv38 => ?_)
          refine lv_iload_n hx hb dX12_works_64 rfl (lv_at hl 3 rfl) ?_
          have c39 := i_rng p3; rw [show p3.toInt = a3 from e3] at c39
          refine q_icmp_lt hx hb (a := v38.toInt) (b := a3) rfl e3 (tgt := 83) dX12_works_65 rfl (fun c40 => ?_) (fun c40 => ?_)
          · refine lv_aload_n hx hb dX12_works_83 rfl (lv_at hl 0 rfl) ?_
            refine lv_iconst (v := 4) hx hb dX12_works_84 rfl ?_
            refine q_goI (q_runV (As := [.int 4]) (rest := []) E hC23 hS27 (m_X12_refuse l X Γ H23 hC23 h0 g0 4 (a1 := 4) (by decide) ca gca uc) cw_X12_refuse cl_RX12_298 g0 ⟨rfl, rfl⟩ rfl hl.1 rfl (Nat.zero_le _) (by decide) dX12_works_85) hS27 (fun v41 H41 locs41 hr41 hC41 hS41 => ?_)
            obtain ⟨hp41, hr41⟩ := hr41
            have hKp41 := hKp23.tr (hp41.mono rfl)
            have f41_0 := hr41
            refine lv_i2l (v := v41.toInt64) hx hb dX12_works_88 rfl (lv_topl (fun v42 ev42 => ?_))
            have ev42i : v42.toInt = v41.toInt := l_ofi ev42.symm rfl
            exact ret v42 H41 locs41 _ _ dX12_works_89 ⟨hKp41, trivial⟩ hC41 hS41
          · refine lv_aload_n hx hb dX12_works_68 rfl (lv_at hl 0 rfl) ?_
            refine q_getR E hC23 g0 fa_RX12_17 dX12_works_69 (fun q43 eq43 gq43 => ?_)
            refine lv_iload_n hx hb dX12_works_72 rfl (lv_at hl 2 rfl) ?_
            refine q_iald E hC23 gq43 rfl rfl (fun _ h => h) (i_in (a := a2) e2 (by omega) (by omega)) dX12_works_73 (fun v44 ev44 lv44 uv44 => ?_)
            refine lv_i2l (v := v44.toInt64) hx hb dX12_works_74 rfl (lv_topl (fun v45 ev45 => ?_))
            have ev45i : v45.toInt = v44.toInt := l_ofi ev45.symm rfl
            refine lv_iload_n hx hb dX12_works_75 rfl (lv_at hl 3 rfl) ?_
            refine lv_i2l (v := p3.toInt64) hx hb dX12_works_76 rfl (lv_topl (fun v46 ev46 => ?_))
            have ev46i : v46.toInt = a3 := l_ofi ev46.symm e3
            refine lv_lconst (v := 1) hx hb dX12_works_77 rfl ?_
            refine lv_lsub hx hb dX12_works_78 (lv_topl (fun v47 ev47 => ?_))
            have ev47i : v47.toInt = (a3 - 1) := l_sub ev47 ev46i (show (1 : Int64).toInt = 1 from by decide) (by omega) (by omega)
            refine q_lcmp_ge hx hb (a := v44.toInt) (b := (a3 - 1)) ev45i ev47i (tgt := 90) dX12_works_79 dX12_works_80 rfl (fun c48 => ?_) (fun c48 => ?_)
            · refine lv_iload_n hx hb dX12_works_90 rfl (lv_at hl 3 rfl) ?_
              refine lv_i2l (v := p3.toInt64) hx hb dX12_works_91 rfl (lv_topl (fun v49 ev49 => ?_))
              have ev49i : v49.toInt = a3 := l_ofi ev49.symm e3
              refine lv_ldc2 (v := 2) hx hb E.2.2.2.1 (E.2.2.2.2.1 _ w_1897) dX12_works_92 ?_
              refine lv_ldc2 (v := 12) hx hb E.2.2.2.1 (E.2.2.2.2.1 _ w_1898) dX12_works_95 ?_
              refine q_goIp (q_runS (As := [.long v49, .long 2, .long 12]) (rest := []) E hS27 (m_X12_isIn l X Γ H23 hC23 v49 (a0 := a3) ev49i 2 (a1 := 2) (show (2 : Int64).toInt = 2 from by decide) 12 (a2 := 12) (show (12 : Int64).toInt = 12 from by decide)) cw_X12_isIn cl_RX12_104 rfl hl.1 rfl (Nat.zero_le _) (by decide) dX12_works_98) hS27 (fun v50 locs50 hr50 hS50 => ?_)
              rcases hr50 with ⟨rfl, f50a0, f50a1⟩ | ⟨rfl, f50b⟩
              · refine q_if_ne hx hb (a := 1) (by decide) (tgt := 111) dX12_works_101 rfl (fun c51 => ?_) (fun c51 => absurd c51 (by omega))
                refine lv_iconst (v := 0) hx hb dX12_works_111 rfl ?_
                refine lv_istore hx hb dX12_works_112 hl (by decide) rfl (fun ls hl => ?_)
                have hl : lv_has ls 17 [(4, .int 0), (0, .ref h0), (1, .int p1), (2, .int p2), (3, .int p3)] := hl
                have L114 : ∀ (n53 : Nat) (H53 : Heap) (locs53 : List Loc) (v52 : Int32) (z52 : Int) (ls : Array Slot), (a3 - z52).toNat < n53 → v52.toInt = z52 → 0 ≤ z52 → Conf X Γ H53 → va_S (AΓ Γ) H0 H53 locs53 → Kp X Γ [1, 6, 7, 8, 10, 11, 12, 14, 15, 16, 17, 19, 22, 24] H0 H53 → lv_has ls 17 [(4, .int v52), (0, .ref h0), (1, .int p1), (2, .int p2), (3, .int p3)] → W p l e (rmL 2) s m args below meth c H53 locs53 0 0 Qz (F0 m 114 ls []) := by
                  intro n53
                  induction n53 with
                  | zero => intro H53 locs53 v52 z52 ls hm53 ev52 iv53_0 hC53 hS53 hKp53 hl; exact absurd hm53 (Nat.not_lt_zero _)
                  | succ n53 ih53 =>
                    intro H53 locs53 v52 z52 ls hm53 ev52 iv53_0 hC53 hS53 hKp53 hl
                    refine lv_iload hx hb dX12_works_114 (lv_at hl 0 rfl) ?_
                    refine lv_iload_n hx hb dX12_works_116 rfl (lv_at hl 4 rfl) ?_
                    refine q_icmp_ge hx hb (a := z52) (b := a3) ev52 e3 (tgt := 175) dX12_works_117 rfl (fun c54 => ?_) (fun c54 => ?_)
                    · refine lv_lconst (v := 1) hx hb dX12_works_175 rfl ?_
                      refine lv_lstore hx hb dX12_works_176 hl (by decide) rfl (fun ls hl => ?_)
                      have hl : lv_has ls 17 [(4, .long 1), (0, .ref h0), (1, .int p1), (2, .int p2), (3, .int p3)] := hl
                      refine lv_iconst (v := 0) hx hb dX12_works_178 rfl ?_
                      refine lv_istore hx hb dX12_works_179 hl (by decide) rfl (fun ls hl => ?_)
                      have hl : lv_has ls 17 [(6, .int 0), (4, .long 1), (0, .ref h0), (1, .int p1), (2, .int p2), (3, .int p3)] := hl
                      refine lv_iconst (v := 0) hx hb dX12_works_181 rfl ?_
                      refine lv_istore hx hb dX12_works_182 hl (by decide) rfl (fun ls hl => ?_)
                      have hl : lv_has ls 17 [(7, .int 0), (6, .int 0), (4, .long 1), (0, .ref h0), (1, .int p1), (2, .int p2), (3, .int p3)] := hl
                      refine lv_iconst (v := 0) hx hb dX12_works_184 rfl ?_
                      refine lv_istore hx hb dX12_works_185 hl (by decide) rfl (fun ls hl => ?_)
                      have hl : lv_has ls 17 [(8, .int 0), (7, .int 0), (6, .int 0), (4, .long 1), (0, .ref h0), (1, .int p1), (2, .int p2), (3, .int p3)] := hl
                      refine lv_iconst (v := (-1)) hx hb dX12_works_187 rfl ?_
                      refine lv_istore hx hb dX12_works_188 hl (by decide) rfl (fun ls hl => ?_)
                      have hl : lv_has ls 17 [(9, .int (-1)), (8, .int 0), (7, .int 0), (6, .int 0), (4, .long 1), (0, .ref h0), (1, .int p1), (2, .int p2), (3, .int p3)] := hl
                      refine lv_iconst (v := 0) hx hb dX12_works_190 rfl ?_
                      refine lv_istore hx hb dX12_works_191 hl (by decide) rfl (fun ls hl => ?_)
                      have hl : lv_has ls 17 [(10, .int 0), (9, .int (-1)), (8, .int 0), (7, .int 0), (6, .int 0), (4, .long 1), (0, .ref h0), (1, .int p1), (2, .int p2), (3, .int p3)] := hl
                      have L193 : ∀ (n61 : Nat) (locs61 : List Loc) (v55 : Int32) (z55 : Int) (v56 : Int32) (z56 : Int) (v57 : Int32) (z57 : Int) (v58 : Int32) (z58 : Int) (v59 : Int32) (z59 : Int) (v60 : Int64) (z60 : Int) (ls : Array Slot), (a3 - 1 - z55).toNat < n61 → v55.toInt = z55 → v56.toInt = z56 → v57.toInt = z57 → v58.toInt = z58 → v59.toInt = z59 → v60.toInt = z60 → 0 ≤ z55 → 0 ≤ z55 → z55 ≤ 11 → va_S (AΓ Γ) H0 H53 locs61 → lv_has ls 17 [(10, .int v55), (9, .int v56), (8, .int v57), (7, .int v58), (6, .int v59), (4, .long v60), (0, .ref h0), (1, .int p1), (2, .int p2), (3, .int p3)] → W p l e (rmL 2) s m args below meth c H53 locs61 0 0 Qz (F0 m 193 ls []) := by
                        intro n61
                        induction n61 with
                        | zero => intro locs61 v55 z55 v56 z56 v57 z57 v58 z58 v59 z59 v60 z60 ls hm61 ev55 ev56 ev57 ev58 ev59 ev60 iv61_0 iv61_1 iv61_2 hS61 hl; exact absurd hm61 (Nat.not_lt_zero _)
                        | succ n61 ih61 =>
                          intro locs61 v55 z55 v56 z56 v57 z57 v58 z58 v59 z59 v60 z60 ls hm61 ev55 ev56 ev57 ev58 ev59 ev60 iv61_0 iv61_1 iv61_2 hS61 hl
                          refine lv_iload hx hb dX12_works_193 (lv_at hl 0 rfl) ?_
                          refine lv_iconst (v := 1) hx hb dX12_works_195 rfl ?_
                          refine lv_iadd hx hb dX12_works_196 (lv_topi (fun v62 ev62 => ?_))
                          have ev62i : v62.toInt = (z55 + 1) := i_add ev62 ev55 (by decide) (by omega) (by omega)
                          refine lv_iload_n hx hb dX12_works_197 rfl (lv_at hl 9 rfl) ?_
                          refine q_icmp_ge hx hb (a := (z55 + 1)) (b := a3) ev62i e3 (tgt := 332) dX12_works_198 rfl (fun c63 => ?_) (fun c63 => ?_)
                          · refine lv_aload_n hx hb dX12_works_332 rfl (lv_at hl 6 rfl) ?_
                            refine lv_lload hx hb dX12_works_333 (lv_at hl 5 rfl) ?_
                            refine lv_lconst (v := 0) hx hb dX12_works_335 rfl ?_
                            refine q_lcmp_le hx hb (a := z60) (b := 0) ev60 (show (0 : Int64).toInt = 0 from by decide) (tgt := 344) dX12_works_336 dX12_works_337 rfl (fun c64 => ?_) (fun c64 => ?_)
                            · refine lv_iconst (v := 0) hx hb dX12_works_344 rfl ?_
                              refine q_put E hC53 hS61 g0 fp_RX12_410 (tv_I (show (0 : Int32).toInt = 0 from by decide) (by omega) (by omega)) (z_of (z01 (show (0 : Int32).toInt = 0 from by decide) (by omega) (by omega))) (fit_B (z01 (show (0 : Int32).toInt = 0 from by decide) (by omega) (by omega))) dX12_works_345 (fun H65 locs65 hC65 hS65 U65 => ?_)
                              have hKp65 := Kp.upO E g0 fp_RX12_410 rfl U65 hKp53
                              have e66 := up_I U65
                              refine lv_aload_n hx hb dX12_works_348 rfl (lv_at hl 6 rfl) ?_
                              refine q_getR E hC65 g0 fa_RX12_53 dX12_works_349 (fun q67 eq67 gq67 => ?_)
                              refine lv_iconst (v := 0) hx hb dX12_works_352 rfl ?_
                              refine lv_iload hx hb dX12_works_353 (lv_at hl 4 rfl) ?_
                              refine q_iast E hC65 hS65 gq67 (by decide) rfl rfl (i_in (a := 0) (show (0 : Int32).toInt = 0 from by decide) (by omega) (by omega)) tv_F dX12_works_355 (fun H68 locs68 hC68 hS68 U68 => ?_)
                              have hKp68 := Kp.upA gq67 rfl (by decide) rfl U68 hKp65
                              refine lv_aload_n hx hb dX12_works_356 rfl (lv_at hl 6 rfl) ?_
                              refine q_getR E hC68 g0 fa_RX12_53 dX12_works_357 (fun q69 eq69 gq69 => ?_)
                              refine lv_iconst (v := 1) hx hb dX12_works_360 rfl ?_
                              refine lv_iload hx hb dX12_works_361 (lv_at hl 3 rfl) ?_
                              refine q_iast E hC68 hS68 gq69 (by decide) rfl rfl (i_in (a := 1) (show (1 : Int32).toInt = 1 from by decide) (by omega) (by omega)) tv_F dX12_works_363 (fun H70 locs70 hC70 hS70 U70 => ?_)
                              have hKp70 := Kp.upA gq69 rfl (by decide) rfl U70 hKp68
                              refine lv_aload_n hx hb dX12_works_364 rfl (lv_at hl 6 rfl) ?_
                              refine q_getR E hC70 g0 fa_RX12_53 dX12_works_365 (fun q71 eq71 gq71 => ?_)
                              refine lv_iconst (v := 2) hx hb dX12_works_368 rfl ?_
                              refine lv_iload hx hb dX12_works_369 (lv_at hl 2 rfl) ?_
                              refine q_iast E hC70 hS70 gq71 (by decide) rfl rfl (i_in (a := 2) (show (2 : Int32).toInt = 2 from by decide) (by omega) (by omega)) tv_F dX12_works_371 (fun H72 locs72 hC72 hS72 U72 => ?_)
                              have hKp72 := Kp.upA gq71 rfl (by decide) rfl U72 hKp70
                              refine lv_lload hx hb dX12_works_372 (lv_at hl 5 rfl) ?_
                              exact ret v60 H72 locs72 _ _ dX12_works_374 ⟨hKp72, trivial⟩ hC72 hS72
                            · refine lv_iconst (v := 1) hx hb dX12_works_340 rfl ?_
                              refine lv_goto (tgt := 345) hx hb dX12_works_341 rfl ?_
                              refine q_put E hC53 hS61 g0 fp_RX12_410 (tv_I (show (1 : Int32).toInt = 1 from by decide) (by omega) (by omega)) (z_of (z01 (show (1 : Int32).toInt = 1 from by decide) (by omega) (by omega))) (fit_B (z01 (show (1 : Int32).toInt = 1 from by decide) (by omega) (by omega))) dX12_works_345 (fun H73 locs73 hC73 hS73 U73 => ?_)
                              have hKp73 := Kp.upO E g0 fp_RX12_410 rfl U73 hKp53
                              have e74 := up_I U73
                              refine lv_aload_n hx hb dX12_works_348 rfl (lv_at hl 6 rfl) ?_
                              refine q_getR E hC73 g0 fa_RX12_53 dX12_works_349 (fun q75 eq75 gq75 => ?_)
                              refine lv_iconst (v := 0) hx hb dX12_works_352 rfl ?_
                              refine lv_iload hx hb dX12_works_353 (lv_at hl 4 rfl) ?_
                              refine q_iast E hC73 hS73 gq75 (by decide) rfl rfl (i_in (a := 0) (show (0 : Int32).toInt = 0 from by decide) (by omega) (by omega)) tv_F dX12_works_355 (fun H76 locs76 hC76 hS76 U76 => ?_)
                              have hKp76 := Kp.upA gq75 rfl (by decide) rfl U76 hKp73
                              refine lv_aload_n hx hb dX12_works_356 rfl (lv_at hl 6 rfl) ?_
                              refine q_getR E hC76 g0 fa_RX12_53 dX12_works_357 (fun q77 eq77 gq77 => ?_)
                              refine lv_iconst (v := 1) hx hb dX12_works_360 rfl ?_
                              refine lv_iload hx hb dX12_works_361 (lv_at hl 3 rfl) ?_
                              refine q_iast E hC76 hS76 gq77 (by decide) rfl rfl (i_in (a := 1) (show (1 : Int32).toInt = 1 from by decide) (by omega) (by omega)) tv_F dX12_works_363 (fun H78 locs78 hC78 hS78 U78 => ?_)
                              have hKp78 := Kp.upA gq77 rfl (by decide) rfl U78 hKp76
                              refine lv_aload_n hx hb dX12_works_364 rfl (lv_at hl 6 rfl) ?_
                              refine q_getR E hC78 g0 fa_RX12_53 dX12_works_365 (fun q79 eq79 gq79 => ?_)
                              refine lv_iconst (v := 2) hx hb dX12_works_368 rfl ?_
                              refine lv_iload hx hb dX12_works_369 (lv_at hl 2 rfl) ?_
                              refine q_iast E hC78 hS78 gq79 (by decide) rfl rfl (i_in (a := 2) (show (2 : Int32).toInt = 2 from by decide) (by omega) (by omega)) tv_F dX12_works_371 (fun H80 locs80 hC80 hS80 U80 => ?_)
                              have hKp80 := Kp.upA gq79 rfl (by decide) rfl U80 hKp78
                              refine lv_lload hx hb dX12_works_372 (lv_at hl 5 rfl) ?_
                              exact ret v60 H80 locs80 _ _ dX12_works_374 ⟨hKp80, trivial⟩ hC80 hS80
                          · refine lv_iconst (v := 0) hx hb dX12_works_201 rfl ?_
                            refine lv_istore hx hb dX12_works_202 hl (by decide) rfl (fun ls hl => ?_)
                            have hl : lv_has ls 17 [(11, .int 0), (10, .int v55), (9, .int v56), (8, .int v57), (7, .int v58), (6, .int v59), (4, .long v60), (0, .ref h0), (1, .int p1), (2, .int p2), (3, .int p3)] := hl
                            refine lv_iconst (v := 0) hx hb dX12_works_204 rfl ?_
                            refine lv_istore hx hb dX12_works_205 hl (by decide) rfl (fun ls hl => ?_)
                            have hl : lv_has ls 17 [(12, .int 0), (11, .int 0), (10, .int v55), (9, .int v56), (8, .int v57), (7, .int v58), (6, .int v59), (4, .long v60), (0, .ref h0), (1, .int p1), (2, .int p2), (3, .int p3)] := hl
                            refine lv_iconst (v := 0) hx hb dX12_works_207 rfl ?_
                            refine lv_istore hx hb dX12_works_208 hl (by decide) rfl (fun ls hl => ?_)
                            have hl : lv_has ls 17 [(13, .int 0), (12, .int 0), (11, .int 0), (10, .int v55), (9, .int v56), (8, .int v57), (7, .int v58), (6, .int v59), (4, .long v60), (0, .ref h0), (1, .int p1), (2, .int p2), (3, .int p3)] := hl
                            refine lv_bipush (v := 9) hx hb dX12_works_210 rfl ?_
                            refine lv_istore hx hb dX12_works_212 hl (by decide) rfl (fun ls hl => ?_)
                            have hl : lv_has ls 17 [(14, .int 9), (13, .int 0), (12, .int 0), (11, .int 0), (10, .int v55), (9, .int v56), (8, .int v57), (7, .int v58), (6, .int v59), (4, .long v60), (0, .ref h0), (1, .int p1), (2, .int p2), (3, .int p3)] := hl
                            have L214 : ∀ (n85 : Nat) (locs85 : List Loc) (v81 : Int32) (z81 : Int) (v82 : Int32) (z82 : Int) (v83 : Int32) (z83 : Int) (v84 : Int32) (z84 : Int) (ls : Array Slot), (z81 + 1).toNat < n85 → v81.toInt = z81 → v82.toInt = z82 → v83.toInt = z83 → v84.toInt = z84 → -1 ≤ z81 → z81 ≤ 9 → va_S (AΓ Γ) H0 H53 locs85 → lv_has ls 17 [(14, .int v81), (13, .int v82), (12, .int v83), (11, .int v84), (10, .int v55), (9, .int v56), (8, .int v57), (7, .int v58), (6, .int v59), (4, .long v60), (0, .ref h0), (1, .int p1), (2, .int p2), (3, .int p3)] → W p l e (rmL 2) s m args below meth c H53 locs85 0 0 Qz (F0 m 214 ls []) := by
                              intro n85
                              induction n85 with
                              | zero => intro locs85 v81 z81 v82 z82 v83 z83 v84 z84 ls hm85 ev81 ev82 ev83 ev84 iv85_0 iv85_1 hS85 hl; exact absurd hm85 (Nat.not_lt_zero _)
                              | succ n85 ih85 =>
                                intro locs85 v81 z81 v82 z82 v83 z83 v84 z84 ls hm85 ev81 ev82 ev83 ev84 iv85_0 iv85_1 hS85 hl
                                refine lv_iload hx hb dX12_works_214 (lv_at hl 0 rfl) ?_
                                refine q_if_lt hx hb (a := z81) ev81 (tgt := 289) dX12_works_216 rfl (fun c86 => ?_) (fun c86 => ?_)
                                · refine lv_lload hx hb dX12_works_289 (lv_at hl 9 rfl) ?_
                                  refine lv_iload hx hb dX12_works_291 (lv_at hl 3 rfl) ?_
                                  refine lv_i2l (v := v84.toInt64) hx hb dX12_works_293 rfl (lv_topl (fun v87 ev87 => ?_))
                                  have ev87i : v87.toInt = z84 := l_ofi ev87.symm ev84
                                  refine lv_lmul hx hb dX12_works_294 (lv_topl (fun v88 ev88 => ?_))
                                  refine lv_lstore hx hb dX12_works_295 hl (by decide) rfl (fun ls hl => ?_)
                                  have hl : lv_has ls 17 [(4, .long v88), (14, .int v81), (13, .int v82), (12, .int v83), (11, .int v84), (10, .int v55), (9, .int v56), (8, .int v57), (7, .int v58), (6, .int v59), (0, .ref h0), (1, .int p1), (2, .int p2), (3, .int p3)] := hl
                                  refine lv_iload hx hb dX12_works_297 (lv_at hl 9 rfl) ?_
                                  refine lv_iload hx hb dX12_works_299 (lv_at hl 3 rfl) ?_
                                  refine lv_iadd hx hb dX12_works_301 (lv_topi (fun v89 ev89 => ?_))
                                  refine lv_istore hx hb dX12_works_302 hl (by decide) rfl (fun ls hl => ?_)
                                  have hl : lv_has ls 17 [(6, .int v89), (4, .long v88), (14, .int v81), (13, .int v82), (12, .int v83), (11, .int v84), (10, .int v55), (9, .int v56), (8, .int v57), (7, .int v58), (0, .ref h0), (1, .int p1), (2, .int p2), (3, .int p3)] := hl
                                  refine lv_iload hx hb dX12_works_304 (lv_at hl 9 rfl) ?_
                                  refine lv_iload hx hb dX12_works_306 (lv_at hl 3 rfl) ?_
                                  refine lv_iadd hx hb dX12_works_308 (lv_topi (fun v90 ev90 => ?_))
                                  refine lv_istore hx hb dX12_works_309 hl (by decide) rfl (fun ls hl => ?_)
                                  have hl : lv_has ls 17 [(7, .int v90), (6, .int v89), (4, .long v88), (14, .int v81), (13, .int v82), (12, .int v83), (11, .int v84), (10, .int v55), (9, .int v56), (8, .int v57), (0, .ref h0), (1, .int p1), (2, .int p2), (3, .int p3)] := hl
                                  refine lv_iload hx hb dX12_works_311 (lv_at hl 5 rfl) ?_
                                  refine lv_iload hx hb dX12_works_313 (lv_at hl 8 rfl) ?_
                                  have c91 := i_rng v83; rw [show v83.toInt = z83 from ev83] at c91
                                  have c92 := i_rng v56; rw [show v56.toInt = z56 from ev56] at c92
                                  refine q_icmp_le hx hb (a := z83) (b := z56) ev83 ev56 (tgt := 326) dX12_works_315 rfl (fun c93 => ?_) (fun c93 => ?_)
                                  · obtain ⟨v94, ev94⟩ : ∃ z, z = v55 + Int32.ofInt 1 := ⟨_, rfl⟩
                                    have ev94i : v94.toInt = (z55 + 1) := i_add ev94 ev55 (by decide) (by omega) (by omega)
                                    refine lv_iinc hx hb dX12_works_326 hl (k := 7) rfl ev94.symm (by decide) rfl (fun ls hl => ?_)
                                    have hl : lv_has ls 17 [(10, .int v94), (7, .int v90), (6, .int v89), (4, .long v88), (14, .int v81), (13, .int v82), (12, .int v83), (11, .int v84), (9, .int v56), (8, .int v57), (0, .ref h0), (1, .int p1), (2, .int p2), (3, .int p3)] := hl
                                    refine lv_goto (tgt := 193) hx hb dX12_works_329 rfl ?_
                                    exact ih61 locs85 v94 ((z55 + 1)) v56 (z56) v57 (z57) v90 (v90.toInt) v89 (v89.toInt) v88 (v88.toInt) ls (by omega) ev94i ev56 ev57 rfl rfl rfl (by omega) (by omega) (by omega) hS85 (lv_sub hl [0, 8, 9, 1, 2, 3, 10, 11, 12, 13] rfl)
                                  · refine lv_iload hx hb dX12_works_318 (lv_at hl 5 rfl) ?_
                                    refine lv_istore hx hb dX12_works_320 hl (by decide) rfl (fun ls hl => ?_)
                                    have hl : lv_has ls 17 [(9, .int v83), (7, .int v90), (6, .int v89), (4, .long v88), (14, .int v81), (13, .int v82), (12, .int v83), (11, .int v84), (10, .int v55), (8, .int v57), (0, .ref h0), (1, .int p1), (2, .int p2), (3, .int p3)] := hl
                                    refine lv_iload hx hb dX12_works_322 (lv_at hl 8 rfl) ?_
                                    refine lv_istore hx hb dX12_works_324 hl (by decide) rfl (fun ls hl => ?_)
                                    have hl : lv_has ls 17 [(8, .int v55), (9, .int v83), (7, .int v90), (6, .int v89), (4, .long v88), (14, .int v81), (13, .int v82), (12, .int v83), (11, .int v84), (10, .int v55), (0, .ref h0), (1, .int p1), (2, .int p2), (3, .int p3)] := hl
                                    obtain ⟨v95, ev95⟩ : ∃ z, z = v55 + Int32.ofInt 1 := ⟨_, rfl⟩
                                    have ev95i : v95.toInt = (z55 + 1) := i_add ev95 ev55 (by decide) (by omega) (by omega)
                                    refine lv_iinc hx hb dX12_works_326 hl (k := 9) rfl ev95.symm (by decide) rfl (fun ls hl => ?_)
                                    have hl : lv_has ls 17 [(10, .int v95), (8, .int v55), (9, .int v83), (7, .int v90), (6, .int v89), (4, .long v88), (14, .int v81), (13, .int v82), (12, .int v83), (11, .int v84), (0, .ref h0), (1, .int p1), (2, .int p2), (3, .int p3)] := hl
                                    refine lv_goto (tgt := 193) hx hb dX12_works_329 rfl ?_
                                    exact ih61 locs85 v95 ((z55 + 1)) v83 (z83) v55 (z55) v90 (v90.toInt) v89 (v89.toInt) v88 (v88.toInt) ls (by omega) ev95i ev83 ev55 rfl rfl rfl (by omega) (by omega) (by omega) hS85 (lv_sub hl [0, 2, 1, 3, 4, 5, 10, 11, 12, 13] rfl)
                                · refine lv_lconst (v := 0) hx hb dX12_works_219 rfl ?_
                                  refine lv_aload_n hx hb dX12_works_220 rfl (lv_at hl 10 rfl) ?_
                                  refine lv_iload_n hx hb dX12_works_221 rfl (lv_at hl 11 rfl) ?_
                                  refine lv_iload hx hb dX12_works_222 (lv_at hl 4 rfl) ?_
                                  refine q_goJp (q_runV (As := [.int p1, .int v55]) (rest := [.long 0]) E hC53 hS85 (m_X12_numberOf l X Γ H53 hC53 h0 g0 p1 (a1 := a1) e1 v55 (a2 := z55) ev55 ca gca uc (by omega) (by omega) (by omega) (by omega)) cw_X12_numberOf cl_RX12_401 g0 ⟨rfl, rfl⟩ rfl hl.1 rfl (show _ ≤ _ from by simp [Value.category]) (by decide) dX12_works_224) hS85 (fun v96 locs96 hr96 hS96 => ?_)
                                  refine lv_iload hx hb dX12_works_227 (lv_at hl 0 rfl) ?_
                                  refine lv_i2l (v := v81.toInt64) hx hb dX12_works_229 rfl (lv_topl (fun v97 ev97 => ?_))
                                  have ev97i : v97.toInt = z81 := l_ofi ev97.symm ev81
                                  refine lv_ladd hx hb dX12_works_230 (lv_topl (fun v98 ev98 => ?_))
                                  refine lv_aload_n hx hb dX12_works_231 rfl (lv_at hl 10 rfl) ?_
                                  refine lv_iload_n hx hb dX12_works_232 rfl (lv_at hl 12 rfl) ?_
                                  refine lv_iload hx hb dX12_works_233 (lv_at hl 4 rfl) ?_
                                  refine q_goJp (q_runV (As := [.int p2, .int v55]) (rest := [.long v98, .long 0]) E hC53 hS96 (m_X12_numberOf l X Γ H53 hC53 h0 g0 p2 (a1 := a2) e2 v55 (a2 := z55) ev55 ca gca uc (by omega) (by omega) (by omega) (by omega)) cw_X12_numberOf cl_RX12_401 g0 ⟨rfl, rfl⟩ rfl hl.1 rfl (show _ ≤ _ from by simp [Value.category]) (by decide) dX12_works_235) hS96 (fun v99 locs99 hr99 hS99 => ?_)
                                  refine lv_lsub hx hb dX12_works_238 (lv_topl (fun v100 ev100 => ?_))
                                  refine q_mmaxJ E hl.1 w_1904 mathw_maxJ (by decide) (Nat.zero_le _) dX12_works_239 (fun v101 => ?_)
                                  refine lv_lstore hx hb dX12_works_242 hl (by decide) rfl (fun ls hl => ?_)
                                  have hl : lv_has ls 17 [(15, .long v101), (14, .int v81), (13, .int v82), (12, .int v83), (11, .int v84), (10, .int v55), (9, .int v56), (8, .int v57), (7, .int v58), (6, .int v59), (4, .long v60), (0, .ref h0), (1, .int p1), (2, .int p2), (3, .int p3)] := hl
                                  refine lv_lload hx hb dX12_works_244 (lv_at hl 0 rfl) ?_
                                  refine lv_aload_n hx hb dX12_works_246 rfl (lv_at hl 11 rfl) ?_
                                  refine lv_iload_n hx hb dX12_works_247 rfl (lv_at hl 12 rfl) ?_
                                  refine lv_iload hx hb dX12_works_248 (lv_at hl 5 rfl) ?_
                                  refine lv_iconst (v := 1) hx hb dX12_works_250 rfl ?_
                                  refine lv_iadd hx hb dX12_works_251 (lv_topi (fun v102 ev102 => ?_))
                                  have ev102i : v102.toInt = (z55 + 1) := i_add ev102 ev55 (by decide) (by omega) (by omega)
                                  refine q_goJp (q_runV (As := [.int p1, .int v102]) (rest := [.long v101]) E hC53 hS99 (m_X12_numberOf l X Γ H53 hC53 h0 g0 p1 (a1 := a1) e1 v102 (a2 := (z55 + 1)) ev102i ca gca uc (by omega) (by omega) (by omega) (by omega)) cw_X12_numberOf cl_RX12_401 g0 ⟨rfl, rfl⟩ rfl hl.1 rfl (show _ ≤ _ from by simp [Value.category]) (by decide) dX12_works_252) hS99 (fun v103 locs103 hr103 hS103 => ?_)
                                  refine q_lcmp_eq hx hb (a := v101.toInt) (b := v103.toInt) rfl rfl (tgt := 262) dX12_works_255 dX12_works_256 rfl (fun c104 => ?_) (fun c104 => ?_)
                                  · refine lv_iload hx hb dX12_works_262 (lv_at hl 4 rfl) ?_
                                    refine q_if_ne hx hb (a := z84) ev84 (tgt := 272) dX12_works_264 rfl (fun c105 => ?_) (fun c105 => ?_)
                                    · refine lv_iload hx hb dX12_works_272 (lv_at hl 2 rfl) ?_
                                      refine lv_istore hx hb dX12_works_274 hl (by decide) rfl (fun ls hl => ?_)
                                      have hl : lv_has ls 17 [(13, .int v82), (15, .long v101), (14, .int v81), (12, .int v83), (11, .int v84), (10, .int v55), (9, .int v56), (8, .int v57), (7, .int v58), (6, .int v59), (4, .long v60), (0, .ref h0), (1, .int p1), (2, .int p2), (3, .int p3)] := hl
                                      refine lv_iload hx hb dX12_works_276 (lv_at hl 2 rfl) ?_
                                      refine lv_istore hx hb dX12_works_278 hl (by decide) rfl (fun ls hl => ?_)
                                      have hl : lv_has ls 17 [(12, .int v81), (13, .int v82), (15, .long v101), (14, .int v81), (11, .int v84), (10, .int v55), (9, .int v56), (8, .int v57), (7, .int v58), (6, .int v59), (4, .long v60), (0, .ref h0), (1, .int p1), (2, .int p2), (3, .int p3)] := hl
                                      obtain ⟨v106, ev106⟩ : ∃ z, z = v84 + Int32.ofInt 1 := ⟨_, rfl⟩
                                      refine lv_iinc hx hb dX12_works_280 hl (k := 4) rfl ev106.symm (by decide) rfl (fun ls hl => ?_)
                                      have hl : lv_has ls 17 [(11, .int v106), (12, .int v81), (13, .int v82), (15, .long v101), (14, .int v81), (10, .int v55), (9, .int v56), (8, .int v57), (7, .int v58), (6, .int v59), (4, .long v60), (0, .ref h0), (1, .int p1), (2, .int p2), (3, .int p3)] := hl
                                      obtain ⟨v107, ev107⟩ : ∃ z, z = v81 + Int32.ofInt (-1) := ⟨_, rfl⟩
                                      have ev107i : v107.toInt = (z81 + (-1)) := i_add ev107 ev81 (by decide) (by omega) (by omega)
                                      refine lv_iinc hx hb dX12_works_283 hl (k := 4) rfl ev107.symm (by decide) rfl (fun ls hl => ?_)
                                      have hl : lv_has ls 17 [(14, .int v107), (11, .int v106), (12, .int v81), (13, .int v82), (15, .long v101), (10, .int v55), (9, .int v56), (8, .int v57), (7, .int v58), (6, .int v59), (4, .long v60), (0, .ref h0), (1, .int p1), (2, .int p2), (3, .int p3)] := hl
                                      refine lv_goto (tgt := 214) hx hb dX12_works_286 rfl ?_
                                      exact ih85 locs103 v107 ((z81 + (-1))) v82 (z82) v81 (z81) v106 (v106.toInt) ls (by omega) ev107i ev82 ev81 rfl (by omega) (by omega) hS103 (lv_sub hl [0, 3, 2, 1, 5, 6, 7, 8, 9, 10, 11, 12, 13, 14] rfl)
                                    · refine lv_iload hx hb dX12_works_267 (lv_at hl 1 rfl) ?_
                                      refine lv_goto (tgt := 274) hx hb dX12_works_269 rfl ?_
                                      refine lv_istore hx hb dX12_works_274 hl (by decide) rfl (fun ls hl => ?_)
                                      have hl : lv_has ls 17 [(13, .int v81), (15, .long v101), (14, .int v81), (12, .int v83), (11, .int v84), (10, .int v55), (9, .int v56), (8, .int v57), (7, .int v58), (6, .int v59), (4, .long v60), (0, .ref h0), (1, .int p1), (2, .int p2), (3, .int p3)] := hl
                                      refine lv_iload hx hb dX12_works_276 (lv_at hl 2 rfl) ?_
                                      refine lv_istore hx hb dX12_works_278 hl (by decide) rfl (fun ls hl => ?_)
                                      have hl : lv_has ls 17 [(12, .int v81), (13, .int v81), (15, .long v101), (14, .int v81), (11, .int v84), (10, .int v55), (9, .int v56), (8, .int v57), (7, .int v58), (6, .int v59), (4, .long v60), (0, .ref h0), (1, .int p1), (2, .int p2), (3, .int p3)] := hl
                                      obtain ⟨v108, ev108⟩ : ∃ z, z = v84 + Int32.ofInt 1 := ⟨_, rfl⟩
                                      have ev108i : v108.toInt = (z84 + 1) := i_add ev108 ev84 (by decide) (by omega) (by omega)
                                      refine lv_iinc hx hb dX12_works_280 hl (k := 4) rfl ev108.symm (by decide) rfl (fun ls hl => ?_)
                                      have hl : lv_has ls 17 [(11, .int v108), (12, .int v81), (13, .int v81), (15, .long v101), (14, .int v81), (10, .int v55), (9, .int v56), (8, .int v57), (7, .int v58), (6, .int v59), (4, .long v60), (0, .ref h0), (1, .int p1), (2, .int p2), (3, .int p3)] := hl
                                      obtain ⟨v109, ev109⟩ : ∃ z, z = v81 + Int32.ofInt (-1) := ⟨_, rfl⟩
                                      have ev109i : v109.toInt = (z81 + (-1)) := i_add ev109 ev81 (by decide) (by omega) (by omega)
                                      refine lv_iinc hx hb dX12_works_283 hl (k := 4) rfl ev109.symm (by decide) rfl (fun ls hl => ?_)
                                      have hl : lv_has ls 17 [(14, .int v109), (11, .int v108), (12, .int v81), (13, .int v81), (15, .long v101), (10, .int v55), (9, .int v56), (8, .int v57), (7, .int v58), (6, .int v59), (4, .long v60), (0, .ref h0), (1, .int p1), (2, .int p2), (3, .int p3)] := hl
                                      refine lv_goto (tgt := 214) hx hb dX12_works_286 rfl ?_
                                      exact ih85 locs103 v109 ((z81 + (-1))) v81 (z81) v81 (z81) v108 ((z84 + 1)) ls (by omega) ev109i ev81 ev81 ev108i (by omega) (by omega) hS103 (lv_sub hl [0, 3, 2, 1, 5, 6, 7, 8, 9, 10, 11, 12, 13, 14] rfl)
                                  · refine lv_goto (tgt := 283) hx hb dX12_works_259 rfl ?_
                                    obtain ⟨v110, ev110⟩ : ∃ z, z = v81 + Int32.ofInt (-1) := ⟨_, rfl⟩
                                    have ev110i : v110.toInt = (z81 + (-1)) := i_add ev110 ev81 (by decide) (by omega) (by omega)
                                    refine lv_iinc hx hb dX12_works_283 hl (k := 1) rfl ev110.symm (by decide) rfl (fun ls hl => ?_)
                                    have hl : lv_has ls 17 [(14, .int v110), (15, .long v101), (13, .int v82), (12, .int v83), (11, .int v84), (10, .int v55), (9, .int v56), (8, .int v57), (7, .int v58), (6, .int v59), (4, .long v60), (0, .ref h0), (1, .int p1), (2, .int p2), (3, .int p3)] := hl
                                    refine lv_goto (tgt := 214) hx hb dX12_works_286 rfl ?_
                                    exact ih85 locs103 v110 ((z81 + (-1))) v82 (z82) v83 (z83) v84 (z84) ls (by omega) ev110i ev82 ev83 ev84 (by omega) (by omega) hS103 (lv_sub hl [0, 2, 3, 4, 5, 6, 7, 8, 9, 10, 11, 12, 13, 14] rfl)
                            exact L214 _ locs61 9 9 0 0 0 0 0 0 ls (Nat.lt_succ_self _) (by decide) (by decide) (by decide) (by decide) (by omega) (by omega) hS61 hl
                      exact L193 _ locs53 0 0 (-1) (-1) 0 0 0 0 0 0 1 1 ls (Nat.lt_succ_self _) (by decide) (by decide) (by decide) (by decide) (by decide) (show (1 : Int64).toInt = 1 from by decide) (by omega) (by omega) (by omega) hS53 hl
                    · refine lv_aload_n hx hb dX12_works_120 rfl (lv_at hl 1 rfl) ?_
                      refine lv_iload_n hx hb dX12_works_121 rfl (lv_at hl 2 rfl) ?_
                      refine lv_iload hx hb dX12_works_122 (lv_at hl 0 rfl) ?_
                      refine q_goJp (q_runV (As := [.int p1, .int v52]) (rest := []) E hC53 hS53 (m_X12_numberOf l X Γ H53 hC53 h0 g0 p1 (a1 := a1) e1 v52 (a2 := z52) ev52 ca gca uc (by omega) (by omega) (by omega) (by omega)) cw_X12_numberOf cl_RX12_401 g0 ⟨rfl, rfl⟩ rfl hl.1 rfl (Nat.zero_le _) (by decide) dX12_works_124) hS53 (fun v111 locs111 hr111 hS111 => ?_)
                      refine lv_lconst (v := 0) hx hb dX12_works_127 rfl ?_
                      refine lv_ldc2 (v := 99) hx hb E.2.2.2.1 (E.2.2.2.2.1 _ w_1835) dX12_works_128 ?_
                      refine q_goIp (q_runS (As := [.long v111, .long 0, .long 99]) (rest := []) E hS111 (m_X12_isIn l X Γ H53 hC53 v111 (a0 := v111.toInt) rfl 0 (a1 := 0) (show (0 : Int64).toInt = 0 from by decide) 99 (a2 := 99) (show (99 : Int64).toInt = 99 from by decide)) cw_X12_isIn cl_RX12_104 rfl hl.1 rfl (Nat.zero_le _) (by decide) dX12_works_131) hS111 (fun v112 locs112 hr112 hS112 => ?_)
                      rcases hr112 with ⟨rfl, f112a0, f112a1⟩ | ⟨rfl, f112b⟩
                      · refine q_if_eq hx hb (a := 1) (by decide) (tgt := 162) dX12_works_134 rfl (fun c113 => absurd c113 (by omega)) (fun c113 => ?_)
                        refine lv_iload hx hb dX12_works_137 (lv_at hl 0 rfl) ?_
                        refine lv_iconst (v := 1) hx hb dX12_works_139 rfl ?_
                        refine lv_iadd hx hb dX12_works_140 (lv_topi (fun v114 ev114 => ?_))
                        have ev114i : v114.toInt = (z52 + 1) := i_add ev114 ev52 (by decide) (by omega) (by omega)
                        refine lv_iload_n hx hb dX12_works_141 rfl (lv_at hl 4 rfl) ?_
                        refine q_icmp_ge hx hb (a := (z52 + 1)) (b := a3) ev114i e3 (tgt := 169) dX12_works_142 rfl (fun c115 => ?_) (fun c115 => ?_)
                        · obtain ⟨v116, ev116⟩ : ∃ z, z = v52 + Int32.ofInt 1 := ⟨_, rfl⟩
                          have ev116i : v116.toInt = (z52 + 1) := i_add ev116 ev52 (by decide) (by omega) (by omega)
                          refine lv_iinc hx hb dX12_works_169 hl (k := 0) rfl ev116.symm (by decide) rfl (fun ls hl => ?_)
                          have hl : lv_has ls 17 [(4, .int v116), (0, .ref h0), (1, .int p1), (2, .int p2), (3, .int p3)] := hl
                          refine lv_goto (tgt := 114) hx hb dX12_works_172 rfl ?_
                          exact ih53 H53 locs112 v116 ((z52 + 1)) ls (by omega) ev116i (by omega) hC53 hS112 hKp53 hl
                        · refine lv_aload_n hx hb dX12_works_145 rfl (lv_at hl 1 rfl) ?_
                          refine lv_iload_n hx hb dX12_works_146 rfl (lv_at hl 3 rfl) ?_
                          refine lv_iload hx hb dX12_works_147 (lv_at hl 0 rfl) ?_
                          refine q_goJp (q_runV (As := [.int p2, .int v52]) (rest := []) E hC53 hS112 (m_X12_numberOf l X Γ H53 hC53 h0 g0 p2 (a1 := a2) e2 v52 (a2 := z52) ev52 ca gca uc (by omega) (by omega) (by omega) (by omega)) cw_X12_numberOf cl_RX12_401 g0 ⟨rfl, rfl⟩ rfl hl.1 rfl (Nat.zero_le _) (by decide) dX12_works_149) hS112 (fun v117 locs117 hr117 hS117 => ?_)
                          refine lv_lconst (v := 0) hx hb dX12_works_152 rfl ?_
                          refine lv_ldc2 (v := 20) hx hb E.2.2.2.1 (E.2.2.2.2.1 _ w_1903) dX12_works_153 ?_
                          refine q_goIp (q_runS (As := [.long v117, .long 0, .long 20]) (rest := []) E hS117 (m_X12_isIn l X Γ H53 hC53 v117 (a0 := v117.toInt) rfl 0 (a1 := 0) (show (0 : Int64).toInt = 0 from by decide) 20 (a2 := 20) (show (20 : Int64).toInt = 20 from by decide)) cw_X12_isIn cl_RX12_104 rfl hl.1 rfl (Nat.zero_le _) (by decide) dX12_works_156) hS117 (fun v118 locs118 hr118 hS118 => ?_)
                          rcases hr118 with ⟨rfl, f118a0, f118a1⟩ | ⟨rfl, f118b⟩
                          · refine q_if_ne hx hb (a := 1) (by decide) (tgt := 169) dX12_works_159 rfl (fun c119 => ?_) (fun c119 => absurd c119 (by omega))
                            obtain ⟨v120, ev120⟩ : ∃ z, z = v52 + Int32.ofInt 1 := ⟨_, rfl⟩
                            have ev120i : v120.toInt = (z52 + 1) := i_add ev120 ev52 (by decide) (by omega) (by omega)
                            refine lv_iinc hx hb dX12_works_169 hl (k := 0) rfl ev120.symm (by decide) rfl (fun ls hl => ?_)
                            have hl : lv_has ls 17 [(4, .int v120), (0, .ref h0), (1, .int p1), (2, .int p2), (3, .int p3)] := hl
                            refine lv_goto (tgt := 114) hx hb dX12_works_172 rfl ?_
                            exact ih53 H53 locs118 v120 ((z52 + 1)) ls (by omega) ev120i (by omega) hC53 hS118 hKp53 hl
                          · refine q_if_ne hx hb (a := 0) (by decide) (tgt := 169) dX12_works_159 rfl (fun c121 => absurd c121 (by omega)) (fun c121 => ?_)
                            refine lv_aload_n hx hb dX12_works_162 rfl (lv_at hl 1 rfl) ?_
                            refine lv_iconst (v := 5) hx hb dX12_works_163 rfl ?_
                            refine q_goI (q_runV (As := [.int 5]) (rest := []) E hC53 hS118 (m_X12_refuse l X Γ H53 hC53 h0 g0 5 (a1 := 5) (by decide) ca gca uc) cw_X12_refuse cl_RX12_298 g0 ⟨rfl, rfl⟩ rfl hl.1 rfl (Nat.zero_le _) (by decide) dX12_works_164) hS118 (fun v122 H122 locs122 hr122 hC122 hS122 => ?_)
                            obtain ⟨hp122, hr122⟩ := hr122
                            have hKp122 := hKp53.tr (hp122.mono rfl)
                            have f122_0 := hr122
                            refine lv_i2l (v := v122.toInt64) hx hb dX12_works_167 rfl (lv_topl (fun v123 ev123 => ?_))
                            have ev123i : v123.toInt = v122.toInt := l_ofi ev123.symm rfl
                            exact ret v123 H122 locs122 _ _ dX12_works_168 ⟨hKp122, trivial⟩ hC122 hS122
                      · refine q_if_eq hx hb (a := 0) (by decide) (tgt := 162) dX12_works_134 rfl (fun c124 => ?_) (fun c124 => absurd c124 (by omega))
                        refine lv_aload_n hx hb dX12_works_162 rfl (lv_at hl 1 rfl) ?_
                        refine lv_iconst (v := 5) hx hb dX12_works_163 rfl ?_
                        refine q_goI (q_runV (As := [.int 5]) (rest := []) E hC53 hS112 (m_X12_refuse l X Γ H53 hC53 h0 g0 5 (a1 := 5) (by decide) ca gca uc) cw_X12_refuse cl_RX12_298 g0 ⟨rfl, rfl⟩ rfl hl.1 rfl (Nat.zero_le _) (by decide) dX12_works_164) hS112 (fun v125 H125 locs125 hr125 hC125 hS125 => ?_)
                        obtain ⟨hp125, hr125⟩ := hr125
                        have hKp125 := hKp53.tr (hp125.mono rfl)
                        have f125_0 := hr125
                        refine lv_i2l (v := v125.toInt64) hx hb dX12_works_167 rfl (lv_topl (fun v126 ev126 => ?_))
                        have ev126i : v126.toInt = v125.toInt := l_ofi ev126.symm rfl
                        exact ret v126 H125 locs125 _ _ dX12_works_168 ⟨hKp125, trivial⟩ hC125 hS125
                exact L114 _ H23 locs50 0 0 ls (Nat.lt_succ_self _) (by decide) (by omega) hC23 hS50 hKp23 hl
              · refine q_if_ne hx hb (a := 0) (by decide) (tgt := 111) dX12_works_101 rfl (fun c127 => absurd c127 (by omega)) (fun c127 => ?_)
                refine lv_aload_n hx hb dX12_works_104 rfl (lv_at hl 0 rfl) ?_
                refine lv_iconst (v := 5) hx hb dX12_works_105 rfl ?_
                refine q_goI (q_runV (As := [.int 5]) (rest := []) E hC23 hS50 (m_X12_refuse l X Γ H23 hC23 h0 g0 5 (a1 := 5) (by decide) ca gca uc) cw_X12_refuse cl_RX12_298 g0 ⟨rfl, rfl⟩ rfl hl.1 rfl (Nat.zero_le _) (by decide) dX12_works_106) hS50 (fun v128 H128 locs128 hr128 hC128 hS128 => ?_)
                obtain ⟨hp128, hr128⟩ := hr128
                have hKp128 := hKp23.tr (hp128.mono rfl)
                have f128_0 := hr128
                refine lv_i2l (v := v128.toInt64) hx hb dX12_works_109 rfl (lv_topl (fun v129 ev129 => ?_))
                have ev129i : v129.toInt = v128.toInt := l_ofi ev129.symm rfl
                exact ret v129 H128 locs128 _ _ dX12_works_110 ⟨hKp128, trivial⟩ hC128 hS128
            · refine lv_aload_n hx hb dX12_works_83 rfl (lv_at hl 0 rfl) ?_
              refine lv_iconst (v := 4) hx hb dX12_works_84 rfl ?_
              refine q_goI (q_runV (As := [.int 4]) (rest := []) E hC23 hS27 (m_X12_refuse l X Γ H23 hC23 h0 g0 4 (a1 := 4) (by decide) ca gca uc) cw_X12_refuse cl_RX12_298 g0 ⟨rfl, rfl⟩ rfl hl.1 rfl (Nat.zero_le _) (by decide) dX12_works_85) hS27 (fun v130 H130 locs130 hr130 hC130 hS130 => ?_)
              obtain ⟨hp130, hr130⟩ := hr130
              have hKp130 := hKp23.tr (hp130.mono rfl)
              have f130_0 := hr130
              refine lv_i2l (v := v130.toInt64) hx hb dX12_works_88 rfl (lv_topl (fun v131 ev131 => ?_))
              have ev131i : v131.toInt = v130.toInt := l_ofi ev131.symm rfl
              exact ret v131 H130 locs130 _ _ dX12_works_89 ⟨hKp130, trivial⟩ hC130 hS130
        · refine lv_aload_n hx hb dX12_works_51 rfl (lv_at hl 0 rfl) ?_
          refine lv_iconst (v := 3) hx hb dX12_works_52 rfl ?_
          refine q_goI (q_runV (As := [.int 3]) (rest := []) E hC23 hS27 (m_X12_refuse l X Γ H23 hC23 h0 g0 3 (a1 := 3) (by decide) ca gca uc) cw_X12_refuse cl_RX12_298 g0 ⟨rfl, rfl⟩ rfl hl.1 rfl (Nat.zero_le _) (by decide) dX12_works_53) hS27 (fun v132 H132 locs132 hr132 hC132 hS132 => ?_)
          obtain ⟨hp132, hr132⟩ := hr132
          have hKp132 := hKp23.tr (hp132.mono rfl)
          have f132_0 := hr132
          refine lv_i2l (v := v132.toInt64) hx hb dX12_works_56 rfl (lv_topl (fun v133 ev133 => ?_))
          have ev133i : v133.toInt = v132.toInt := l_ofi ev133.symm rfl
          exact ret v133 H132 locs132 _ _ dX12_works_57 ⟨hKp132, trivial⟩ hC132 hS132
    · refine q_if_ne hx hb (a := 0) (by decide) (tgt := 33) dX12_works_23 rfl (fun c134 => absurd c134 (by omega)) (fun c134 => ?_)
      refine lv_aload_n hx hb dX12_works_26 rfl (lv_at hl 0 rfl) ?_
      refine lv_iconst (v := 1) hx hb dX12_works_27 rfl ?_
      refine q_goI (q_runV (As := [.int 1]) (rest := []) E hC23 hS27 (m_X12_refuse l X Γ H23 hC23 h0 g0 1 (a1 := 1) (by decide) ca gca uc) cw_X12_refuse cl_RX12_298 g0 ⟨rfl, rfl⟩ rfl hl.1 rfl (Nat.zero_le _) (by decide) dX12_works_28) hS27 (fun v135 H135 locs135 hr135 hC135 hS135 => ?_)
      obtain ⟨hp135, hr135⟩ := hr135
      have hKp135 := hKp23.tr (hp135.mono rfl)
      have f135_0 := hr135
      refine lv_i2l (v := v135.toInt64) hx hb dX12_works_31 rfl (lv_topl (fun v136 ev136 => ?_))
      have ev136i : v136.toInt = v135.toInt := l_ofi ev136.symm rfl
      exact ret v136 H135 locs135 _ _ dX12_works_32 ⟨hKp135, trivial⟩ hC135 hS135
  · refine q_if_eq hx hb (a := 0) (by decide) (tgt := 26) dX12_works_15 rfl (fun c137 => ?_) (fun c137 => absurd c137 (by omega))
    refine lv_aload_n hx hb dX12_works_26 rfl (lv_at hl 0 rfl) ?_
    refine lv_iconst (v := 1) hx hb dX12_works_27 rfl ?_
    refine q_goI (q_runV (As := [.int 1]) (rest := []) E hC23 hS25 (m_X12_refuse l X Γ H23 hC23 h0 g0 1 (a1 := 1) (by decide) ca gca uc) cw_X12_refuse cl_RX12_298 g0 ⟨rfl, rfl⟩ rfl hl.1 rfl (Nat.zero_le _) (by decide) dX12_works_28) hS25 (fun v138 H138 locs138 hr138 hC138 hS138 => ?_)
    obtain ⟨hp138, hr138⟩ := hr138
    have hKp138 := hKp23.tr (hp138.mono rfl)
    have f138_0 := hr138
    refine lv_i2l (v := v138.toInt64) hx hb dX12_works_31 rfl (lv_topl (fun v139 ev139 => ?_))
    have ev139i : v139.toInt = v138.toInt := l_ofi ev139.symm rfl
    exact ret v139 H138 locs138 _ _ dX12_works_32 ⟨hKp138, trivial⟩ hC138 hS138
set_option maxRecDepth 100000 in
set_option maxHeartbeats 4000000 in
theorem m_X12_worked (l : Launch) (X : xW) (Γ : Nat → Option Nat) (H0 : Heap) (hC0 : Conf X Γ H0) (h0 : Nat) (g0 : Γ h0 = some 11) (p1 : Int32) {a1 : Int} (e1 : p1.toInt = a1) (ca : Nat) (gca : Γ ca = some 64) (uc : ∀ a, Γ a = some 64 → a = ca) : Ctr l X Γ yX12_worked cX12_worked 2 (some .int) 1 [.ref h0, .int p1] H0 (QI X Γ (fun v H1 => Kp X Γ [1, 6, 7, 8, 9, 10, 11, 12, 14, 15, 16, 17, 19, 22, 24] H0 H1 ∧ (True))) := by
  refine q_enterI (own := "SnowFortsModel") (by decide) rfl (Nat.le_of_ble_eq_true rfl) ?_
  intro p e s m args below meth c ls Qz E hl ret hS0
  have hx := E.1; have hb := E.2.1
  have hKp0 : Kp X Γ [1, 6, 7, 8, 9, 10, 11, 12, 14, 15, 16, 17, 19, 22, 24] H0 H0 := Kp.rf
  have hl : lv_has ls 2 [(0, .ref h0), (1, .int p1)] := hl
  refine lv_aload_n hx hb dX12_worked_0 rfl (lv_at hl 0 rfl) ?_
  refine lv_iconst (v := 0) hx hb dX12_worked_1 rfl ?_
  refine q_put E hC0 hS0 g0 fp_RX12_69 tv_F rfl rfl dX12_worked_2 (fun H21 locs21 hC21 hS21 U21 => ?_)
  have hKp21 := Kp.upO E g0 fp_RX12_69 rfl U21 hKp0
  have e22 := up_I U21
  refine lv_aload_n hx hb dX12_worked_5 rfl (lv_at hl 0 rfl) ?_
  refine lv_iconst (v := 0) hx hb dX12_worked_6 rfl ?_
  refine q_put E hC21 hS21 g0 fp_RX12_72 tv_F rfl rfl dX12_worked_7 (fun H23 locs23 hC23 hS23 U23 => ?_)
  have hKp23 := Kp.upO E g0 fp_RX12_72 rfl U23 hKp21
  have e24 := up_I U23
  refine lv_iload_n hx hb dX12_worked_10 rfl (lv_at hl 1 rfl) ?_
  refine lv_i2l (v := p1.toInt64) hx hb dX12_worked_11 rfl (lv_topl (fun v25 ev25 => ?_))
  have ev25i : v25.toInt = a1 := l_ofi ev25.symm e1
  refine lv_lconst (v := 0) hx hb dX12_worked_12 rfl ?_
  refine lv_ldc2 (v := 2) hx hb E.2.2.2.1 (E.2.2.2.2.1 _ w_1897) dX12_worked_13 ?_
  refine q_goIp (q_runS (As := [.long v25, .long 0, .long 2]) (rest := []) E hS23 (m_X12_isIn l X Γ H23 hC23 v25 (a0 := a1) ev25i 0 (a1 := 0) (show (0 : Int64).toInt = 0 from by decide) 2 (a2 := 2) (show (2 : Int64).toInt = 2 from by decide)) cw_X12_isIn cl_RX12_104 rfl hl.1 rfl (Nat.zero_le _) (by decide) dX12_worked_16) hS23 (fun v26 locs26 hr26 hS26 => ?_)
  rcases hr26 with ⟨rfl, f26a0, f26a1⟩ | ⟨rfl, f26b⟩
  · refine q_if_ne hx hb (a := 1) (by decide) (tgt := 28) dX12_worked_19 rfl (fun c27 => ?_) (fun c27 => absurd c27 (by omega))
    refine lv_aload_n hx hb dX12_worked_28 rfl (lv_at hl 0 rfl) ?_
    refine q_getI E hC23 g0 fa_RX12_410 dX12_worked_29 (fun v28 ev28 lv28 uv28 => ?_)
    refine q_if_eq hx hb (a := v28.toInt) rfl (tgt := 44) dX12_worked_32 rfl (fun c29 => ?_) (fun c29 => ?_)
    · refine lv_aload_n hx hb dX12_worked_44 rfl (lv_at hl 0 rfl) ?_
      refine lv_bipush (v := 8) hx hb dX12_worked_45 rfl ?_
      refine q_goI (q_runV (As := [.int 8]) (rest := []) E hC23 hS26 (m_X12_refuse l X Γ H23 hC23 h0 g0 8 (a1 := 8) (by decide) ca gca uc) cw_X12_refuse cl_RX12_298 g0 ⟨rfl, rfl⟩ rfl hl.1 rfl (Nat.zero_le _) (by decide) dX12_worked_47) hS26 (fun v30 H30 locs30 hr30 hC30 hS30 => ?_)
      obtain ⟨hp30, hr30⟩ := hr30
      have hKp30 := hKp23.tr (hp30.mono rfl)
      have f30_0 := hr30
      exact ret v30 H30 locs30 _ _ dX12_worked_50 ⟨hKp30, trivial⟩ hC30 hS30
    · refine lv_aload_n hx hb dX12_worked_35 rfl (lv_at hl 0 rfl) ?_
      refine q_getR E hC23 g0 fa_RX12_53 dX12_worked_36 (fun q31 eq31 gq31 => ?_)
      refine lv_iload_n hx hb dX12_worked_39 rfl (lv_at hl 1 rfl) ?_
      refine q_iald E hC23 gq31 rfl rfl (fun _ h => h) (i_in (a := a1) e1 (by omega) (by omega)) dX12_worked_40 (fun v32 ev32 _ _ => ?_)
      refine lv_goto (tgt := 50) hx hb dX12_worked_41 rfl ?_
      exact ret v32 H23 locs26 _ _ dX12_worked_50 ⟨hKp23, trivial⟩ hC23 hS26
  · refine q_if_ne hx hb (a := 0) (by decide) (tgt := 28) dX12_worked_19 rfl (fun c33 => absurd c33 (by omega)) (fun c33 => ?_)
    refine lv_aload_n hx hb dX12_worked_22 rfl (lv_at hl 0 rfl) ?_
    refine lv_iconst (v := 5) hx hb dX12_worked_23 rfl ?_
    refine q_goI (q_runV (As := [.int 5]) (rest := []) E hC23 hS26 (m_X12_refuse l X Γ H23 hC23 h0 g0 5 (a1 := 5) (by decide) ca gca uc) cw_X12_refuse cl_RX12_298 g0 ⟨rfl, rfl⟩ rfl hl.1 rfl (Nat.zero_le _) (by decide) dX12_worked_24) hS26 (fun v34 H34 locs34 hr34 hC34 hS34 => ?_)
    obtain ⟨hp34, hr34⟩ := hr34
    have hKp34 := hKp23.tr (hp34.mono rfl)
    have f34_0 := hr34
    exact ret v34 H34 locs34 _ _ dX12_worked_27 ⟨hKp34, trivial⟩ hC34 hS34
set_option maxRecDepth 100000 in
set_option maxHeartbeats 4000000 in
theorem m_X12_isGame (l : Launch) (X : xW) (Γ : Nat → Option Nat) (H0 : Heap) (hC0 : Conf X Γ H0) (h0 : Nat) (g0 : Γ h0 = some 11) (p1 : Int32) {a1 : Int} (e1 : p1.toInt = a1) (p2 : Int32) {a2 : Int} (e2 : p2.toInt = a2) (p3 : Int32) {a3 : Int} (e3 : p3.toInt = a3) (p4 : Int32) {a4 : Int} (e4 : p4.toInt = a4) (ca : Nat) (gca : Γ ca = some 64) (uc : ∀ a, Γ a = some 64 → a = ca) : Ctr l X Γ yX12_isGame cX12_isGame 5 (some .boolean) 1 [.ref h0, .int p1, .int p2, .int p3, .int p4] H0 (QI X Γ (fun v H1 => H1 = H0 ∧ ((v = 1 ∧ (0 ≤ a1 ∧ a1 ≤ 12 ∧ 0 ≤ a2 ∧ a2 ≤ 12 ∧ 1 ≤ a3 ∧ a3 ≤ 4 ∧ 0 ≤ a4 ∧ a4 ≤ 4)) ∨ (v = 0 ∧ (True))))) := by
  refine q_enterZ (own := "SnowFortsModel") (by decide) rfl (Nat.le_of_ble_eq_true rfl) ?_
  intro p e s m args below meth c ls Qz E hl ret hS0
  have hx := E.1; have hb := E.2.1
  have hl : lv_has ls 5 [(0, .ref h0), (1, .int p1), (2, .int p2), (3, .int p3), (4, .int p4)] := hl
  refine lv_iload_n hx hb dX12_isGame_0 rfl (lv_at hl 1 rfl) ?_
  refine lv_i2l (v := p1.toInt64) hx hb dX12_isGame_1 rfl (lv_topl (fun v21 ev21 => ?_))
  have ev21i : v21.toInt = a1 := l_ofi ev21.symm e1
  refine lv_lconst (v := 0) hx hb dX12_isGame_2 rfl ?_
  refine lv_ldc2 (v := 12) hx hb E.2.2.2.1 (E.2.2.2.2.1 _ w_1898) dX12_isGame_3 ?_
  refine q_goIp (q_runS (As := [.long v21, .long 0, .long 12]) (rest := []) E hS0 (m_X12_isIn l X Γ H0 hC0 v21 (a0 := a1) ev21i 0 (a1 := 0) (show (0 : Int64).toInt = 0 from by decide) 12 (a2 := 12) (show (12 : Int64).toInt = 12 from by decide)) cw_X12_isIn cl_RX12_104 rfl hl.1 rfl (Nat.zero_le _) (by decide) dX12_isGame_6) hS0 (fun v22 locs22 hr22 hS22 => ?_)
  rcases hr22 with ⟨rfl, f22a0, f22a1⟩ | ⟨rfl, f22b⟩
  · refine q_if_eq hx hb (a := 1) (by decide) (tgt := 53) dX12_isGame_9 rfl (fun c23 => absurd c23 (by omega)) (fun c23 => ?_)
    refine lv_iload_n hx hb dX12_isGame_12 rfl (lv_at hl 2 rfl) ?_
    refine lv_i2l (v := p2.toInt64) hx hb dX12_isGame_13 rfl (lv_topl (fun v24 ev24 => ?_))
    have ev24i : v24.toInt = a2 := l_ofi ev24.symm e2
    refine lv_lconst (v := 0) hx hb dX12_isGame_14 rfl ?_
    refine lv_ldc2 (v := 12) hx hb E.2.2.2.1 (E.2.2.2.2.1 _ w_1898) dX12_isGame_15 ?_
    refine q_goIp (q_runS (As := [.long v24, .long 0, .long 12]) (rest := []) E hS22 (m_X12_isIn l X Γ H0 hC0 v24 (a0 := a2) ev24i 0 (a1 := 0) (show (0 : Int64).toInt = 0 from by decide) 12 (a2 := 12) (show (12 : Int64).toInt = 12 from by decide)) cw_X12_isIn cl_RX12_104 rfl hl.1 rfl (Nat.zero_le _) (by decide) dX12_isGame_18) hS22 (fun v25 locs25 hr25 hS25 => ?_)
    rcases hr25 with ⟨rfl, f25a0, f25a1⟩ | ⟨rfl, f25b⟩
    · refine q_if_eq hx hb (a := 1) (by decide) (tgt := 53) dX12_isGame_21 rfl (fun c26 => absurd c26 (by omega)) (fun c26 => ?_)
      refine lv_iload_n hx hb dX12_isGame_24 rfl (lv_at hl 3 rfl) ?_
      refine lv_i2l (v := p3.toInt64) hx hb dX12_isGame_25 rfl (lv_topl (fun v27 ev27 => ?_))
      have ev27i : v27.toInt = a3 := l_ofi ev27.symm e3
      refine lv_lconst (v := 1) hx hb dX12_isGame_26 rfl ?_
      refine lv_ldc2 (v := 4) hx hb E.2.2.2.1 (E.2.2.2.2.1 _ w_1721) dX12_isGame_27 ?_
      refine q_goIp (q_runS (As := [.long v27, .long 1, .long 4]) (rest := []) E hS25 (m_X12_isIn l X Γ H0 hC0 v27 (a0 := a3) ev27i 1 (a1 := 1) (show (1 : Int64).toInt = 1 from by decide) 4 (a2 := 4) (show (4 : Int64).toInt = 4 from by decide)) cw_X12_isIn cl_RX12_104 rfl hl.1 rfl (Nat.zero_le _) (by decide) dX12_isGame_30) hS25 (fun v28 locs28 hr28 hS28 => ?_)
      rcases hr28 with ⟨rfl, f28a0, f28a1⟩ | ⟨rfl, f28b⟩
      · refine q_if_eq hx hb (a := 1) (by decide) (tgt := 53) dX12_isGame_33 rfl (fun c29 => absurd c29 (by omega)) (fun c29 => ?_)
        refine lv_iload hx hb dX12_isGame_36 (lv_at hl 4 rfl) ?_
        refine lv_i2l (v := p4.toInt64) hx hb dX12_isGame_38 rfl (lv_topl (fun v30 ev30 => ?_))
        have ev30i : v30.toInt = a4 := l_ofi ev30.symm e4
        refine lv_lconst (v := 0) hx hb dX12_isGame_39 rfl ?_
        refine lv_ldc2 (v := 4) hx hb E.2.2.2.1 (E.2.2.2.2.1 _ w_1721) dX12_isGame_40 ?_
        refine q_goIp (q_runS (As := [.long v30, .long 0, .long 4]) (rest := []) E hS28 (m_X12_isIn l X Γ H0 hC0 v30 (a0 := a4) ev30i 0 (a1 := 0) (show (0 : Int64).toInt = 0 from by decide) 4 (a2 := 4) (show (4 : Int64).toInt = 4 from by decide)) cw_X12_isIn cl_RX12_104 rfl hl.1 rfl (Nat.zero_le _) (by decide) dX12_isGame_43) hS28 (fun v31 locs31 hr31 hS31 => ?_)
        rcases hr31 with ⟨rfl, f31a0, f31a1⟩ | ⟨rfl, f31b⟩
        · refine q_if_eq hx hb (a := 1) (by decide) (tgt := 53) dX12_isGame_46 rfl (fun c32 => absurd c32 (by omega)) (fun c32 => ?_)
          refine lv_iconst (v := 1) hx hb dX12_isGame_49 rfl ?_
          refine lv_goto (tgt := 54) hx hb dX12_isGame_50 rfl ?_
          exact ret 1 H0 locs31 _ _ dX12_isGame_54 (Or.inr rfl) ⟨rfl, Or.inl ⟨rfl, by omega, by omega, by omega, by omega, by omega, by omega, by omega, by omega⟩⟩ hC0 hS31
        · refine q_if_eq hx hb (a := 0) (by decide) (tgt := 53) dX12_isGame_46 rfl (fun c33 => ?_) (fun c33 => absurd c33 (by omega))
          refine lv_iconst (v := 0) hx hb dX12_isGame_53 rfl ?_
          exact ret 0 H0 locs31 _ _ dX12_isGame_54 (Or.inl rfl) ⟨rfl, Or.inr ⟨rfl, trivial⟩⟩ hC0 hS31
      · refine q_if_eq hx hb (a := 0) (by decide) (tgt := 53) dX12_isGame_33 rfl (fun c34 => ?_) (fun c34 => absurd c34 (by omega))
        refine lv_iconst (v := 0) hx hb dX12_isGame_53 rfl ?_
        exact ret 0 H0 locs28 _ _ dX12_isGame_54 (Or.inl rfl) ⟨rfl, Or.inr ⟨rfl, trivial⟩⟩ hC0 hS28
    · refine q_if_eq hx hb (a := 0) (by decide) (tgt := 53) dX12_isGame_21 rfl (fun c35 => ?_) (fun c35 => absurd c35 (by omega))
      refine lv_iconst (v := 0) hx hb dX12_isGame_53 rfl ?_
      exact ret 0 H0 locs25 _ _ dX12_isGame_54 (Or.inl rfl) ⟨rfl, Or.inr ⟨rfl, trivial⟩⟩ hC0 hS25
  · refine q_if_eq hx hb (a := 0) (by decide) (tgt := 53) dX12_isGame_9 rfl (fun c36 => ?_) (fun c36 => absurd c36 (by omega))
    refine lv_iconst (v := 0) hx hb dX12_isGame_53 rfl ?_
    exact ret 0 H0 locs22 _ _ dX12_isGame_54 (Or.inl rfl) ⟨rfl, Or.inr ⟨rfl, trivial⟩⟩ hC0 hS22
set_option maxRecDepth 100000 in
set_option maxHeartbeats 4000000 in
theorem m_X12_mostRaise (l : Launch) (X : xW) (Γ : Nat → Option Nat) (H0 : Heap) (hC0 : Conf X Γ H0) (p0 : Int32) {a0 : Int} (e0 : p0.toInt = a0) (p1 : Int32) {a1 : Int} (e1 : p1.toInt = a1) (p2 : Int32) {a2 : Int} (e2 : p2.toInt = a2) (p3 : Int32) {a3 : Int} (e3 : p3.toInt = a3) (r0 : 0 ≤ a0) (r1 : a0 ≤ 12) (r2 : 0 ≤ a1) (r3 : a1 ≤ 12) (r4 : 1 ≤ a2) (r5 : a2 ≤ 4) (r6 : 0 ≤ a3) (r7 : a3 ≤ 4) : Ctr l X Γ yX12_mostRaise cX12_mostRaise 4 (some .int) 1 [.int p0, .int p1, .int p2, .int p3] H0 (QI X Γ (fun v H1 => H1 = H0 ∧ ((v.toInt ≤ 12 - a0) ∧ (v.toInt ≤ a2) ∧ (v.toInt ≤ a1 + a3 - a0) ∧ (v.toInt = a2 ∨ v.toInt = 12 - a0 ∨ v.toInt = a1 + a3 - a0)))) := by
  refine q_enterI (own := "SnowFortsModel") (by decide) rfl (Nat.le_of_ble_eq_true rfl) ?_
  intro p e s m args below meth c ls Qz E hl ret hS0
  have hx := E.1; have hb := E.2.1
  have hl : lv_has ls 4 [(0, .int p0), (1, .int p1), (2, .int p2), (3, .int p3)] := hl
  refine lv_iload_n hx hb dX12_mostRaise_0 rfl (lv_at hl 2 rfl) ?_
  refine lv_bipush (v := 12) hx hb dX12_mostRaise_1 rfl ?_
  refine lv_iload_n hx hb dX12_mostRaise_3 rfl (lv_at hl 1 rfl) ?_
  refine lv_iload_n hx hb dX12_mostRaise_4 rfl (lv_at hl 3 rfl) ?_
  refine lv_iadd hx hb dX12_mostRaise_5 (lv_topi (fun v21 ev21 => ?_))
  have ev21i : v21.toInt = (a1 + a3) := i_add ev21 e1 e3 (by omega) (by omega)
  refine q_mmin E hl.1 w_1740 mathw_min (a := 12) (b := (a1 + a3)) (show (12 : Int32).toInt = 12 from by decide) ev21i (by decide) (show _ ≤ _ from by simp [Value.category]) dX12_mostRaise_6 (fun v22 mv22a mv22b mv22c => ?_)
  refine lv_iload_n hx hb dX12_mostRaise_9 rfl (lv_at hl 0 rfl) ?_
  refine lv_isub hx hb dX12_mostRaise_10 (lv_topi (fun v23 ev23 => ?_))
  have ev23i : v23.toInt = (v22.toInt - a0) := i_sub ev23 rfl e0 (by omega) (by omega)
  refine q_mmin E hl.1 w_1740 mathw_min (a := a2) (b := (v22.toInt - a0)) e2 ev23i (by decide) (Nat.zero_le _) dX12_mostRaise_11 (fun v24 mv24a mv24b mv24c => ?_)
  have c25 : v24.toInt = v24.toInt := rfl
  exact ret v24 H0 [] _ _ dX12_mostRaise_14 ⟨rfl, ⟨by omega, by omega, by omega, by omega⟩⟩ hC0 hS0
set_option maxRecDepth 100000 in
set_option maxHeartbeats 4000000 in
theorem m_X12_wins (l : Launch) (X : xW) (Γ : Nat → Option Nat) (H0 : Heap) (hC0 : Conf X Γ H0) (h0 : Nat) (g0 : Γ h0 = some 11) (p1 : Int32) {a1 : Int} (e1 : p1.toInt = a1) (p2 : Int32) {a2 : Int} (e2 : p2.toInt = a2) (p3 : Int32) {a3 : Int} (e3 : p3.toInt = a3) (p4 : Int32) {a4 : Int} (e4 : p4.toInt = a4) (ca : Nat) (gca : Γ ca = some 64) (uc : ∀ a, Γ a = some 64 → a = ca) : Ctr l X Γ yX12_wins cX12_wins 10 (some .int) 2 [.ref h0, .int p1, .int p2, .int p3, .int p4] H0 (QI X Γ (fun v H1 => Kp X Γ [1, 6, 7, 8, 9, 10, 11, 12, 14, 15, 16, 17, 19, 22, 24] H0 H1 ∧ (True))) := by
  refine q_enterI (own := "SnowFortsModel") (by decide) rfl (Nat.le_of_ble_eq_true rfl) ?_
  intro p e s m args below meth c ls Qz E hl ret hS0
  have hx := E.1; have hb := E.2.1
  have hKp0 : Kp X Γ [1, 6, 7, 8, 9, 10, 11, 12, 14, 15, 16, 17, 19, 22, 24] H0 H0 := Kp.rf
  have hl : lv_has ls 10 [(0, .ref h0), (1, .int p1), (2, .int p2), (3, .int p3), (4, .int p4)] := hl
  refine lv_aload_n hx hb dX12_wins_0 rfl (lv_at hl 0 rfl) ?_
  refine lv_iconst (v := 0) hx hb dX12_wins_1 rfl ?_
  refine q_put E hC0 hS0 g0 fp_RX12_69 tv_F rfl rfl dX12_wins_2 (fun H21 locs21 hC21 hS21 U21 => ?_)
  have hKp21 := Kp.upO E g0 fp_RX12_69 rfl U21 hKp0
  have e22 := up_I U21
  refine lv_aload_n hx hb dX12_wins_5 rfl (lv_at hl 0 rfl) ?_
  refine lv_iconst (v := 0) hx hb dX12_wins_6 rfl ?_
  refine q_put E hC21 hS21 g0 fp_RX12_72 tv_F rfl rfl dX12_wins_7 (fun H23 locs23 hC23 hS23 U23 => ?_)
  have hKp23 := Kp.upO E g0 fp_RX12_72 rfl U23 hKp21
  have e24 := up_I U23
  refine lv_aload_n hx hb dX12_wins_10 rfl (lv_at hl 0 rfl) ?_
  refine lv_iload_n hx hb dX12_wins_11 rfl (lv_at hl 1 rfl) ?_
  refine lv_iload_n hx hb dX12_wins_12 rfl (lv_at hl 2 rfl) ?_
  refine lv_iload_n hx hb dX12_wins_13 rfl (lv_at hl 3 rfl) ?_
  refine lv_iload hx hb dX12_wins_14 (lv_at hl 4 rfl) ?_
  refine q_goIp (q_runV (As := [.int p1, .int p2, .int p3, .int p4]) (rest := []) E hC23 hS23 (m_X12_isGame l X Γ H23 hC23 h0 g0 p1 (a1 := a1) e1 p2 (a2 := a2) e2 p3 (a3 := a3) e3 p4 (a4 := a4) e4 ca gca uc) cw_X12_isGame cl_RX12_414 g0 ⟨rfl, rfl⟩ rfl hl.1 rfl (Nat.zero_le _) (by decide) dX12_wins_16) hS23 (fun v25 locs25 hr25 hS25 => ?_)
  rcases hr25 with ⟨rfl, f25a0, f25a1, f25a2, f25a3, f25a4, f25a5, f25a6, f25a7⟩ | ⟨rfl, -⟩
  · refine q_if_ne hx hb (a := 1) (by decide) (tgt := 28) dX12_wins_19 rfl (fun c26 => ?_) (fun c26 => absurd c26 (by omega))
    refine lv_bipush (v := 24) hx hb dX12_wins_28 rfl ?_
    refine lv_istore hx hb dX12_wins_30 hl (by decide) rfl (fun ls hl => ?_)
    have hl : lv_has ls 10 [(5, .int 24), (0, .ref h0), (1, .int p1), (2, .int p2), (3, .int p3), (4, .int p4)] := hl
    have L32 : ∀ (n28 : Nat) (H28 : Heap) (locs28 : List Loc) (v27 : Int32) (z27 : Int) (ls : Array Slot), (z27 + 1).toNat < n28 → v27.toInt = z27 → z27 ≤ 24 → -1 ≤ z27 → a1 + a2 - 1 ≤ z27 → Conf X Γ H28 → va_S (AΓ Γ) H0 H28 locs28 → Kp X Γ [1, 6, 7, 8, 9, 10, 11, 12, 14, 15, 16, 17, 19, 22, 24] H0 H28 → lv_has ls 10 [(5, .int v27), (0, .ref h0), (1, .int p1), (2, .int p2), (3, .int p3), (4, .int p4)] → W p l e (rmL 2) s m args below meth c H28 locs28 0 0 Qz (F0 m 32 ls []) := by
      intro n28
      induction n28 with
      | zero => intro H28 locs28 v27 z27 ls hm28 ev27 iv28_0 iv28_1 iv28_2 hC28 hS28 hKp28 hl; exact absurd hm28 (Nat.not_lt_zero _)
      | succ n28 ih28 =>
        intro H28 locs28 v27 z27 ls hm28 ev27 iv28_0 iv28_1 iv28_2 hC28 hS28 hKp28 hl
        refine lv_iload hx hb dX12_wins_32 (lv_at hl 0 rfl) ?_
        refine lv_iload_n hx hb dX12_wins_34 rfl (lv_at hl 2 rfl) ?_
        refine lv_iload_n hx hb dX12_wins_35 rfl (lv_at hl 3 rfl) ?_
        refine lv_iadd hx hb dX12_wins_36 (lv_topi (fun v29 ev29 => ?_))
        have ev29i : v29.toInt = (a1 + a2) := i_add ev29 e1 e2 (by omega) (by omega)
        refine q_icmp_lt hx hb (a := z27) (b := (a1 + a2)) ev27 ev29i (tgt := 155) dX12_wins_37 rfl (fun c30 => ?_) (fun c30 => ?_)
        · refine lv_iconst (v := 1) hx hb dX12_wins_155 rfl ?_
          refine lv_istore hx hb dX12_wins_156 hl (by decide) rfl (fun ls hl => ?_)
          have hl : lv_has ls 10 [(5, .int 1), (0, .ref h0), (1, .int p1), (2, .int p2), (3, .int p3), (4, .int p4)] := hl
          have L158 : ∀ (n32 : Nat) (locs32 : List Loc) (v31 : Int32) (z31 : Int) (ls : Array Slot), (5 - z31).toNat < n32 → v31.toInt = z31 → 1 ≤ z31 → 1 ≤ z31 → z31 ≤ 5 → va_S (AΓ Γ) H0 H28 locs32 → lv_has ls 10 [(5, .int v31), (0, .ref h0), (1, .int p1), (2, .int p2), (3, .int p3), (4, .int p4)] → W p l e (rmL 2) s m args below meth c H28 locs32 0 0 Qz (F0 m 158 ls []) := by
            intro n32
            induction n32 with
            | zero => intro locs32 v31 z31 ls hm32 ev31 iv32_0 iv32_1 iv32_2 hS32 hl; exact absurd hm32 (Nat.not_lt_zero _)
            | succ n32 ih32 =>
              intro locs32 v31 z31 ls hm32 ev31 iv32_0 iv32_1 iv32_2 hS32 hl
              refine lv_iload hx hb dX12_wins_158 (lv_at hl 0 rfl) ?_
              refine lv_iload_n hx hb dX12_wins_160 rfl (lv_at hl 2 rfl) ?_
              refine lv_iload_n hx hb dX12_wins_161 rfl (lv_at hl 3 rfl) ?_
              refine lv_iload_n hx hb dX12_wins_162 rfl (lv_at hl 4 rfl) ?_
              refine lv_iload hx hb dX12_wins_163 (lv_at hl 5 rfl) ?_
              refine q_goIp (q_runS (As := [.int p1, .int p2, .int p3, .int p4]) (rest := [.int v31]) E hS32 (m_X12_mostRaise l X Γ H28 hC28 p1 (a0 := a1) e1 p2 (a1 := a2) e2 p3 (a2 := a3) e3 p4 (a3 := a4) e4 (by omega) (by omega) (by omega) (by omega) (by omega) (by omega) (by omega) (by omega)) cw_X12_mostRaise cl_RX12_418 rfl hl.1 rfl (show _ ≤ _ from by simp [Value.category]) (by decide) dX12_wins_165) hS32 (fun v33 locs33 hr33 hS33 => ?_)
              obtain ⟨f33_0, f33_1, f33_2, f33_3⟩ := hr33
              refine q_icmp_gt hx hb (a := z31) (b := v33.toInt) ev31 rfl (tgt := 197) dX12_wins_168 rfl (fun c34 => ?_) (fun c34 => ?_)
              · refine lv_iconst (v := 0) hx hb dX12_wins_197 rfl ?_
                exact ret 0 H28 locs33 _ _ dX12_wins_198 ⟨hKp28, trivial⟩ hC28 hS33
              · refine lv_aload_n hx hb dX12_wins_171 rfl (lv_at hl 1 rfl) ?_
                refine q_getR E hC28 g0 fa_RX12_56 dX12_wins_172 (fun q35 eq35 gq35 => ?_)
                refine lv_bipush (v := 13) hx hb dX12_wins_175 rfl ?_
                refine lv_iload_n hx hb dX12_wins_177 rfl (lv_at hl 3 rfl) ?_
                refine lv_imul hx hb dX12_wins_178 (lv_topi (fun v36 ev36 => ?_))
                have ev36i : v36.toInt = (13 * a2) := i_mul ev36 (by decide) e2 (by omega) (by omega)
                refine lv_iload_n hx hb dX12_wins_179 rfl (lv_at hl 2 rfl) ?_
                refine lv_iadd hx hb dX12_wins_180 (lv_topi (fun v37 ev37 => ?_))
                have ev37i : v37.toInt = ((13 * a2) + a1) := i_add ev37 ev36i e1 (by omega) (by omega)
                refine lv_iload hx hb dX12_wins_181 (lv_at hl 0 rfl) ?_
                refine lv_iadd hx hb dX12_wins_183 (lv_topi (fun v38 ev38 => ?_))
                have ev38i : v38.toInt = (((13 * a2) + a1) + z31) := i_add ev38 ev37i ev31 (by omega) (by omega)
                refine q_zald E hC28 gq35 rfl rfl (fun _ h => h) (i_in (a := (((13 * a2) + a1) + z31)) ev38i (by omega) (by omega)) dX12_wins_184 (fun v39 ev39 _ _ => ?_)
                refine q_if_ne hx hb (a := v39.toInt) rfl (tgt := 191) dX12_wins_185 rfl (fun c40 => ?_) (fun c40 => ?_)
                · obtain ⟨v41, ev41⟩ : ∃ z, z = v31 + Int32.ofInt 1 := ⟨_, rfl⟩
                  have ev41i : v41.toInt = (z31 + 1) := i_add ev41 ev31 (by decide) (by omega) (by omega)
                  refine lv_iinc hx hb dX12_wins_191 hl (k := 0) rfl ev41.symm (by decide) rfl (fun ls hl => ?_)
                  have hl : lv_has ls 10 [(5, .int v41), (0, .ref h0), (1, .int p1), (2, .int p2), (3, .int p3), (4, .int p4)] := hl
                  refine lv_goto (tgt := 158) hx hb dX12_wins_194 rfl ?_
                  exact ih32 locs33 v41 ((z31 + 1)) ls (by omega) ev41i (by omega) (by omega) (by omega) hS33 hl
                · refine lv_iload hx hb dX12_wins_188 (lv_at hl 0 rfl) ?_
                  exact ret v31 H28 locs33 _ _ dX12_wins_190 ⟨hKp28, trivial⟩ hC28 hS33
          exact L158 _ locs28 1 1 ls (Nat.lt_succ_self _) (by decide) (by omega) (by omega) (by omega) hS28 hl
        · refine lv_iconst (v := 0) hx hb dX12_wins_40 rfl ?_
          refine lv_iload hx hb dX12_wins_41 (lv_at hl 0 rfl) ?_
          refine lv_bipush (v := 12) hx hb dX12_wins_43 rfl ?_
          refine lv_isub hx hb dX12_wins_45 (lv_topi (fun v42 ev42 => ?_))
          have ev42i : v42.toInt = (z27 - 12) := i_sub ev42 ev27 (by decide) (by omega) (by omega)
          refine q_mmax E hl.1 w_1731 mathw_max (a := 0) (b := (z27 - 12)) (show (0 : Int32).toInt = 0 from by decide) ev42i (by decide) (Nat.zero_le _) dX12_wins_46 (fun v43 mv43a mv43b mv43c => ?_)
          refine lv_istore hx hb dX12_wins_49 hl (by decide) rfl (fun ls hl => ?_)
          have hl : lv_has ls 10 [(6, .int v43), (5, .int v27), (0, .ref h0), (1, .int p1), (2, .int p2), (3, .int p3), (4, .int p4)] := hl
          have L51 : ∀ (n45 : Nat) (H45 : Heap) (locs45 : List Loc) (v44 : Int32) (z44 : Int) (ls : Array Slot), (13 - z44).toNat < n45 → v44.toInt = z44 → 0 ≤ z44 → 0 ≤ z44 → z27 - 12 ≤ z44 → z44 ≤ 13 → z44 ≤ z27 + 1 → Conf X Γ H45 → va_S (AΓ Γ) H0 H45 locs45 → Kp X Γ [1, 6, 7, 8, 9, 10, 11, 12, 14, 15, 16, 17, 19, 22, 24] H0 H45 → lv_has ls 10 [(6, .int v44), (5, .int v27), (0, .ref h0), (1, .int p1), (2, .int p2), (3, .int p3), (4, .int p4)] → W p l e (rmL 2) s m args below meth c H45 locs45 0 0 Qz (F0 m 51 ls []) := by
            intro n45
            induction n45 with
            | zero => intro H45 locs45 v44 z44 ls hm45 ev44 iv45_0 iv45_1 iv45_2 iv45_3 iv45_4 hC45 hS45 hKp45 hl; exact absurd hm45 (Nat.not_lt_zero _)
            | succ n45 ih45 =>
              intro H45 locs45 v44 z44 ls hm45 ev44 iv45_0 iv45_1 iv45_2 iv45_3 iv45_4 hC45 hS45 hKp45 hl
              refine lv_iload hx hb dX12_wins_51 (lv_at hl 0 rfl) ?_
              refine lv_bipush (v := 12) hx hb dX12_wins_53 rfl ?_
              refine lv_iload hx hb dX12_wins_55 (lv_at hl 1 rfl) ?_
              refine q_mmin E hl.1 w_1740 mathw_min (a := 12) (b := z27) (show (12 : Int32).toInt = 12 from by decide) ev27 (by decide) (show _ ≤ _ from by simp [Value.category]) dX12_wins_57 (fun v46 mv46a mv46b mv46c => ?_)
              refine q_icmp_gt hx hb (a := z44) (b := v46.toInt) ev44 rfl (tgt := 149) dX12_wins_60 rfl (fun c47 => ?_) (fun c47 => ?_)
              · obtain ⟨v48, ev48⟩ : ∃ z, z = v27 + Int32.ofInt (-1) := ⟨_, rfl⟩
                have ev48i : v48.toInt = (z27 + (-1)) := i_add ev48 ev27 (by decide) (by omega) (by omega)
                refine lv_iinc hx hb dX12_wins_149 hl (k := 1) rfl ev48.symm (by decide) rfl (fun ls hl => ?_)
                have hl : lv_has ls 10 [(5, .int v48), (6, .int v44), (0, .ref h0), (1, .int p1), (2, .int p2), (3, .int p3), (4, .int p4)] := hl
                refine lv_goto (tgt := 32) hx hb dX12_wins_152 rfl ?_
                exact ih28 H45 locs45 v48 ((z27 + (-1))) ls (by omega) ev48i (by omega) (by omega) (by omega) hC45 hS45 hKp45 (lv_sub hl [0, 2, 3, 4, 5, 6] rfl)
              · refine lv_iload hx hb dX12_wins_63 (lv_at hl 1 rfl) ?_
                refine lv_iload hx hb dX12_wins_65 (lv_at hl 0 rfl) ?_
                refine lv_isub hx hb dX12_wins_67 (lv_topi (fun v49 ev49 => ?_))
                have ev49i : v49.toInt = (z27 - z44) := i_sub ev49 ev27 ev44 (by omega) (by omega)
                refine lv_istore hx hb dX12_wins_68 hl (by decide) rfl (fun ls hl => ?_)
                have hl : lv_has ls 10 [(7, .int v49), (6, .int v44), (5, .int v27), (0, .ref h0), (1, .int p1), (2, .int p2), (3, .int p3), (4, .int p4)] := hl
                refine lv_iconst (v := 0) hx hb dX12_wins_70 rfl ?_
                refine lv_istore hx hb dX12_wins_71 hl (by decide) rfl (fun ls hl => ?_)
                have hl : lv_has ls 10 [(8, .int 0), (7, .int v49), (6, .int v44), (5, .int v27), (0, .ref h0), (1, .int p1), (2, .int p2), (3, .int p3), (4, .int p4)] := hl
                refine lv_iconst (v := 1) hx hb dX12_wins_73 rfl ?_
                refine lv_istore hx hb dX12_wins_74 hl (by decide) rfl (fun ls hl => ?_)
                have hl : lv_has ls 10 [(9, .int 1), (8, .int 0), (7, .int v49), (6, .int v44), (5, .int v27), (0, .ref h0), (1, .int p1), (2, .int p2), (3, .int p3), (4, .int p4)] := hl
                have L76 : ∀ (n52 : Nat) (locs52 : List Loc) (v50 : Int32) (z50 : Int) (v51 : Int32) (z51 : Int) (ls : Array Slot), (5 - z50).toNat < n52 → v50.toInt = z50 → v51.toInt = z51 → 1 ≤ z50 → 1 ≤ z50 → z50 ≤ 5 → 0 ≤ z51 → z51 ≤ 1 → va_S (AΓ Γ) H0 H45 locs52 → lv_has ls 10 [(9, .int v50), (8, .int v51), (7, .int v49), (6, .int v44), (5, .int v27), (0, .ref h0), (1, .int p1), (2, .int p2), (3, .int p3), (4, .int p4)] → W p l e (rmL 2) s m args below meth c H45 locs52 0 0 Qz (F0 m 76 ls []) := by
                  intro n52
                  induction n52 with
                  | zero => intro locs52 v50 z50 v51 z51 ls hm52 ev50 ev51 iv52_0 iv52_1 iv52_2 iv52_3 iv52_4 hS52 hl; exact absurd hm52 (Nat.not_lt_zero _)
                  | succ n52 ih52 =>
                    intro locs52 v50 z50 v51 z51 ls hm52 ev50 ev51 iv52_0 iv52_1 iv52_2 iv52_3 iv52_4 hS52 hl
                    refine lv_iload hx hb dX12_wins_76 (lv_at hl 0 rfl) ?_
                    refine lv_iload hx hb dX12_wins_78 (lv_at hl 3 rfl) ?_
                    refine lv_iload hx hb dX12_wins_80 (lv_at hl 2 rfl) ?_
                    refine lv_iload_n hx hb dX12_wins_82 rfl (lv_at hl 8 rfl) ?_
                    refine lv_iload hx hb dX12_wins_83 (lv_at hl 9 rfl) ?_
                    refine q_goIp (q_runS (As := [.int v44, .int v49, .int p3, .int p4]) (rest := [.int v50]) E hS52 (m_X12_mostRaise l X Γ H45 hC45 v44 (a0 := z44) ev44 v49 (a1 := (z27 - z44)) ev49i p3 (a2 := a3) e3 p4 (a3 := a4) e4 (by omega) (by omega) (by omega) (by omega) (by omega) (by omega) (by omega) (by omega)) cw_X12_mostRaise cl_RX12_418 rfl hl.1 rfl (show _ ≤ _ from by simp [Value.category]) (by decide) dX12_wins_85) hS52 (fun v53 locs53 hr53 hS53 => ?_)
                    obtain ⟨f53_0, f53_1, f53_2, f53_3⟩ := hr53
                    refine q_icmp_gt hx hb (a := z50) (b := v53.toInt) ev50 rfl (tgt := 128) dX12_wins_88 rfl (fun c54 => ?_) (fun c54 => ?_)
                    · refine lv_aload_n hx hb dX12_wins_128 rfl (lv_at hl 5 rfl) ?_
                      refine q_getR E hC45 g0 fa_RX12_56 dX12_wins_129 (fun q55 eq55 gq55 => ?_)
                      refine lv_bipush (v := 13) hx hb dX12_wins_132 rfl ?_
                      refine lv_iload hx hb dX12_wins_134 (lv_at hl 3 rfl) ?_
                      refine lv_imul hx hb dX12_wins_136 (lv_topi (fun v56 ev56 => ?_))
                      have ev56i : v56.toInt = (13 * z44) := i_mul ev56 (by decide) ev44 (by omega) (by omega)
                      refine lv_iload hx hb dX12_wins_137 (lv_at hl 2 rfl) ?_
                      refine lv_iadd hx hb dX12_wins_139 (lv_topi (fun v57 ev57 => ?_))
                      have ev57i : v57.toInt = ((13 * z44) + (z27 - z44)) := i_add ev57 ev56i ev49i (by omega) (by omega)
                      refine lv_iload hx hb dX12_wins_140 (lv_at hl 1 rfl) ?_
                      refine q_zast E hC45 hS53 gq55 (by decide) rfl rfl (fun _ => rfl) (i_in (a := ((13 * z44) + (z27 - z44))) ev57i (by omega) (by omega)) dX12_wins_142 (fun H58 locs58 hC58 hS58 U58 => ?_)
                      have hKp58 := Kp.upA gq55 rfl (by decide) rfl U58 hKp45
                      obtain ⟨v59, ev59⟩ : ∃ z, z = v44 + Int32.ofInt 1 := ⟨_, rfl⟩
                      have ev59i : v59.toInt = (z44 + 1) := i_add ev59 ev44 (by decide) (by omega) (by omega)
                      refine lv_iinc hx hb dX12_wins_143 hl (k := 3) rfl ev59.symm (by decide) rfl (fun ls hl => ?_)
                      have hl : lv_has ls 10 [(6, .int v59), (9, .int v50), (8, .int v51), (7, .int v49), (5, .int v27), (0, .ref h0), (1, .int p1), (2, .int p2), (3, .int p3), (4, .int p4)] := hl
                      refine lv_goto (tgt := 51) hx hb dX12_wins_146 rfl ?_
                      exact ih45 H58 locs58 v59 ((z44 + 1)) ls (by omega) ev59i (by omega) (by omega) (by omega) (by omega) (by omega) hC58 hS58 hKp58 (lv_sub hl [0, 4, 5, 6, 7, 8, 9] rfl)
                    · refine lv_iload hx hb dX12_wins_91 (lv_at hl 1 rfl) ?_
                      refine q_if_ne hx hb (a := z51) ev51 (tgt := 115) dX12_wins_93 rfl (fun c60 => ?_) (fun c60 => ?_)
                      · refine lv_iconst (v := 1) hx hb dX12_wins_115 rfl ?_
                        refine lv_goto (tgt := 120) hx hb dX12_wins_116 rfl ?_
                        refine lv_istore hx hb dX12_wins_120 hl (by decide) rfl (fun ls hl => ?_)
                        have hl : lv_has ls 10 [(8, .int 1), (9, .int v50), (7, .int v49), (6, .int v44), (5, .int v27), (0, .ref h0), (1, .int p1), (2, .int p2), (3, .int p3), (4, .int p4)] := hl
                        obtain ⟨v61, ev61⟩ : ∃ z, z = v50 + Int32.ofInt 1 := ⟨_, rfl⟩
                        have ev61i : v61.toInt = (z50 + 1) := i_add ev61 ev50 (by decide) (by omega) (by omega)
                        refine lv_iinc hx hb dX12_wins_122 hl (k := 1) rfl ev61.symm (by decide) rfl (fun ls hl => ?_)
                        have hl : lv_has ls 10 [(9, .int v61), (8, .int 1), (7, .int v49), (6, .int v44), (5, .int v27), (0, .ref h0), (1, .int p1), (2, .int p2), (3, .int p3), (4, .int p4)] := hl
                        refine lv_goto (tgt := 76) hx hb dX12_wins_125 rfl ?_
                        exact ih52 locs53 v61 ((z50 + 1)) 1 (1) ls (by omega) ev61i (by decide) (by omega) (by omega) (by omega) (by omega) (by omega) hS53 hl
                      · refine lv_aload_n hx hb dX12_wins_96 rfl (lv_at hl 5 rfl) ?_
                        refine q_getR E hC45 g0 fa_RX12_56 dX12_wins_97 (fun q62 eq62 gq62 => ?_)
                        refine lv_bipush (v := 13) hx hb dX12_wins_100 rfl ?_
                        refine lv_iload hx hb dX12_wins_102 (lv_at hl 2 rfl) ?_
                        refine lv_imul hx hb dX12_wins_104 (lv_topi (fun v63 ev63 => ?_))
                        have ev63i : v63.toInt = (13 * (z27 - z44)) := i_mul ev63 (by decide) ev49i (by omega) (by omega)
                        refine lv_iload hx hb dX12_wins_105 (lv_at hl 3 rfl) ?_
                        refine lv_iadd hx hb dX12_wins_107 (lv_topi (fun v64 ev64 => ?_))
                        have ev64i : v64.toInt = ((13 * (z27 - z44)) + z44) := i_add ev64 ev63i ev44 (by omega) (by omega)
                        refine lv_iload hx hb dX12_wins_108 (lv_at hl 0 rfl) ?_
                        refine lv_iadd hx hb dX12_wins_110 (lv_topi (fun v65 ev65 => ?_))
                        have ev65i : v65.toInt = (((13 * (z27 - z44)) + z44) + z50) := i_add ev65 ev64i ev50 (by omega) (by omega)
                        refine q_zald E hC45 gq62 rfl rfl (fun _ h => h) (i_in (a := (((13 * (z27 - z44)) + z44) + z50)) ev65i (by omega) (by omega)) dX12_wins_111 (fun v66 ev66 _ _ => ?_)
                        refine q_if_ne hx hb (a := v66.toInt) rfl (tgt := 119) dX12_wins_112 rfl (fun c67 => ?_) (fun c67 => ?_)
                        · refine lv_iconst (v := 0) hx hb dX12_wins_119 rfl ?_
                          refine lv_istore hx hb dX12_wins_120 hl (by decide) rfl (fun ls hl => ?_)
                          have hl : lv_has ls 10 [(8, .int 0), (9, .int v50), (7, .int v49), (6, .int v44), (5, .int v27), (0, .ref h0), (1, .int p1), (2, .int p2), (3, .int p3), (4, .int p4)] := hl
                          obtain ⟨v68, ev68⟩ : ∃ z, z = v50 + Int32.ofInt 1 := ⟨_, rfl⟩
                          have ev68i : v68.toInt = (z50 + 1) := i_add ev68 ev50 (by decide) (by omega) (by omega)
                          refine lv_iinc hx hb dX12_wins_122 hl (k := 1) rfl ev68.symm (by decide) rfl (fun ls hl => ?_)
                          have hl : lv_has ls 10 [(9, .int v68), (8, .int 0), (7, .int v49), (6, .int v44), (5, .int v27), (0, .ref h0), (1, .int p1), (2, .int p2), (3, .int p3), (4, .int p4)] := hl
                          refine lv_goto (tgt := 76) hx hb dX12_wins_125 rfl ?_
                          exact ih52 locs53 v68 ((z50 + 1)) 0 (0) ls (by omega) ev68i (by decide) (by omega) (by omega) (by omega) (by omega) (by omega) hS53 hl
                        · refine lv_iconst (v := 1) hx hb dX12_wins_115 rfl ?_
                          refine lv_goto (tgt := 120) hx hb dX12_wins_116 rfl ?_
                          refine lv_istore hx hb dX12_wins_120 hl (by decide) rfl (fun ls hl => ?_)
                          have hl : lv_has ls 10 [(8, .int 1), (9, .int v50), (7, .int v49), (6, .int v44), (5, .int v27), (0, .ref h0), (1, .int p1), (2, .int p2), (3, .int p3), (4, .int p4)] := hl
                          obtain ⟨v69, ev69⟩ : ∃ z, z = v50 + Int32.ofInt 1 := ⟨_, rfl⟩
                          have ev69i : v69.toInt = (z50 + 1) := i_add ev69 ev50 (by decide) (by omega) (by omega)
                          refine lv_iinc hx hb dX12_wins_122 hl (k := 1) rfl ev69.symm (by decide) rfl (fun ls hl => ?_)
                          have hl : lv_has ls 10 [(9, .int v69), (8, .int 1), (7, .int v49), (6, .int v44), (5, .int v27), (0, .ref h0), (1, .int p1), (2, .int p2), (3, .int p3), (4, .int p4)] := hl
                          refine lv_goto (tgt := 76) hx hb dX12_wins_125 rfl ?_
                          exact ih52 locs53 v69 ((z50 + 1)) 1 (1) ls (by omega) ev69i (by decide) (by omega) (by omega) (by omega) (by omega) (by omega) hS53 hl
                exact L76 _ locs45 1 1 0 0 ls (Nat.lt_succ_self _) (by decide) (by decide) (by omega) (by omega) (by omega) (by omega) (by omega) hS45 hl
          exact L51 _ H28 locs28 v43 v43.toInt ls (Nat.lt_succ_self _) rfl (by omega) (by omega) (by omega) (by omega) (by omega) hC28 hS28 hKp28 hl
    exact L32 _ H23 locs25 24 24 ls (Nat.lt_succ_self _) (by decide) (by omega) (by omega) (by omega) hC23 hS25 hKp23 hl
  · refine q_if_ne hx hb (a := 0) (by decide) (tgt := 28) dX12_wins_19 rfl (fun c70 => absurd c70 (by omega)) (fun c70 => ?_)
    refine lv_aload_n hx hb dX12_wins_22 rfl (lv_at hl 0 rfl) ?_
    refine lv_iconst (v := 5) hx hb dX12_wins_23 rfl ?_
    refine q_goI (q_runV (As := [.int 5]) (rest := []) E hC23 hS25 (m_X12_refuse l X Γ H23 hC23 h0 g0 5 (a1 := 5) (by decide) ca gca uc) cw_X12_refuse cl_RX12_298 g0 ⟨rfl, rfl⟩ rfl hl.1 rfl (Nat.zero_le _) (by decide) dX12_wins_24) hS25 (fun v71 H71 locs71 hr71 hC71 hS71 => ?_)
    obtain ⟨hp71, hr71⟩ := hr71
    have hKp71 := hKp23.tr (hp71.mono rfl)
    have f71_0 := hr71
    exact ret v71 H71 locs71 _ _ dX12_wins_27 ⟨hKp71, trivial⟩ hC71 hS71
