set_option maxRecDepth 100000 in
set_option maxHeartbeats 4000000 in
theorem m_X11_worked (l : Launch) (X : xW) (Γ : Nat → Option Nat) (H0 : Heap) (hC0 : Conf X Γ H0) (h0 : Nat) (g0 : Γ h0 = some 0) (p1 : Int32) {a1 : Int} (e1 : p1.toInt = a1) (mo : Nat) (hmo : sR H0 h0 (X.1.2 10 13) = some mo) (gmo : Γ mo = some 8) : Ctr l X Γ yX11_worked cX11_worked 2 (some .int) 1 [.ref h0, .int p1] H0 (QI X Γ (fun v H1 => Kp X Γ [0, 2, 3, 4, 5, 18, 21, 23, 25, 27] H0 H1 ∧ ((((a1 < 0 ∨ 2 < a1 ∨ (sJ H0 mo (X.1.2 0 0)).toInt = 0) ∧ v.toInt = -1) ∨ (0 ≤ a1 ∧ a1 ≤ 2 ∧ (sJ H0 mo (X.1.2 0 0)).toInt ≠ 0 ∧ (a1 = 0 → v.toInt = (sI H0 mo (X.1.2 0 1)).toInt) ∧ (a1 = 1 → v.toInt = (sI H0 mo (X.1.2 0 2)).toInt) ∧ (a1 = 2 → v.toInt = (sI H0 mo (X.1.2 0 3)).toInt)))))) := by
  refine q_enterI (own := "SnowForts") (by decide) rfl (Nat.le_of_ble_eq_true rfl) ?_
  intro p e s m args below meth c ls Qz E hl ret hS0
  have hx := E.1; have hb := E.2.1
  have hKp0 : Kp X Γ [0, 2, 3, 4, 5, 18, 21, 23, 25, 27] H0 H0 := Kp.rf
  have hl : lv_has ls 2 [(0, .ref h0), (1, .int p1)] := hl
  refine lv_iload_n hx hb dX11_worked_0 rfl (lv_at hl 1 rfl) ?_
  refine lv_i2l (v := p1.toInt64) hx hb dX11_worked_1 rfl (lv_topl (fun v21 ev21 => ?_))
  have ev21i : v21.toInt = a1 := l_ofi ev21.symm e1
  refine lv_iconst (v := 0) hx hb dX11_worked_2 rfl ?_
  refine lv_iconst (v := 2) hx hb dX11_worked_3 rfl ?_
  refine q_goIp (q_runS (As := [.long v21, .int 0, .int 2]) (rest := []) E hS0 (m_X11_isWithin l X Γ H0 hC0 v21 (a0 := a1) ev21i 0 (a1 := 0) (by decide) 2 (a2 := 2) (by decide)) cw_X11_isWithin cl_RX11_113 rfl hl.1 rfl (Nat.zero_le _) (by decide) dX11_worked_4) hS0 (fun v22 locs22 hr22 hS22 => ?_)
  rcases hr22 with ⟨rfl, f22a0, f22a1⟩ | ⟨rfl, f22b⟩
  · refine q_if_ne hx hb (a := 1) (by decide) (tgt := 16) dX11_worked_7 rfl (fun c23 => ?_) (fun c23 => absurd c23 (by omega))
    refine lv_aload_n hx hb dX11_worked_16 rfl (lv_at hl 0 rfl) ?_
    refine q_getS E hC0 g0 fa_RX11_77 hmo dX11_worked_17 (fun _ => ?_)
    refine q_getJ E hC0 gmo fa_RX11_317 dX11_worked_20 (fun v24 ev24 => ?_)
    have hr0 : (sJ H0 mo (X.1.2 0 0)).toInt = v24.toInt := by rw [← ev24]
    refine lv_lconst (v := 0) hx hb dX11_worked_23 rfl ?_
    refine q_lcmp_ne hx hb (a := v24.toInt) (b := 0) rfl (show (0 : Int64).toInt = 0 from by decide) (tgt := 35) dX11_worked_24 dX11_worked_25 rfl (fun c25 => ?_) (fun c25 => ?_)
    · refine lv_iload_n hx hb dX11_worked_35 rfl (lv_at hl 1 rfl) ?_
      refine q_if_ne hx hb (a := a1) e1 (tgt := 51) dX11_worked_36 rfl (fun c26 => ?_) (fun c26 => ?_)
      · refine lv_aload_n hx hb dX11_worked_51 rfl (lv_at hl 0 rfl) ?_
        refine lv_iload_n hx hb dX11_worked_52 rfl (lv_at hl 1 rfl) ?_
        refine lv_iconst (v := 1) hx hb dX11_worked_53 rfl ?_
        refine q_icmp_ne hx hb (a := a1) (b := 1) e1 (by decide) (tgt := 67) dX11_worked_54 rfl (fun c27 => ?_) (fun c27 => ?_)
        · refine lv_aload_n hx hb dX11_worked_67 rfl (lv_at hl 0 rfl) ?_
          refine q_getS E hC0 g0 fa_RX11_77 hmo dX11_worked_68 (fun _ => ?_)
          refine q_getI E hC0 gmo fa_RX11_326 dX11_worked_71 (fun v28 ev28 _ _ => ?_)
          have m29 : (sI H0 mo (X.1.2 0 3)).toInt = v28.toInt := congrArg Int32.toInt ev28
          refine q_goI (q_runV (As := [.int v28]) (rest := []) E hC0 hS22 (m_X11_answer l X Γ H0 hC0 h0 g0 v28 (a1 := v28.toInt) rfl) cw_X11_answer cl_RX11_191 g0 ⟨rfl, rfl⟩ rfl hl.1 rfl (Nat.zero_le _) (by decide) dX11_worked_74) hS22 (fun v30 H30 locs30 hr30 hC30 hS30 => ?_)
          obtain ⟨hp30, hr30⟩ := hr30
          have hKp30 := hKp0.tr (hp30.mono rfl)
          have f30_0 := hr30
          have c31 : v30.toInt = v30.toInt := rfl
          exact ret v30 H30 locs30 _ _ dX11_worked_77 ⟨hKp30, by omega⟩ hC30 hS30
        · refine lv_aload_n hx hb dX11_worked_57 rfl (lv_at hl 0 rfl) ?_
          refine q_getS E hC0 g0 fa_RX11_77 hmo dX11_worked_58 (fun _ => ?_)
          refine q_getI E hC0 gmo fa_RX11_323 dX11_worked_61 (fun v32 ev32 _ _ => ?_)
          have m33 : (sI H0 mo (X.1.2 0 2)).toInt = v32.toInt := congrArg Int32.toInt ev32
          refine lv_goto (tgt := 74) hx hb dX11_worked_64 rfl ?_
          refine q_goI (q_runV (As := [.int v32]) (rest := []) E hC0 hS22 (m_X11_answer l X Γ H0 hC0 h0 g0 v32 (a1 := v32.toInt) rfl) cw_X11_answer cl_RX11_191 g0 ⟨rfl, rfl⟩ rfl hl.1 rfl (Nat.zero_le _) (by decide) dX11_worked_74) hS22 (fun v34 H34 locs34 hr34 hC34 hS34 => ?_)
          obtain ⟨hp34, hr34⟩ := hr34
          have hKp34 := hKp0.tr (hp34.mono rfl)
          have f34_0 := hr34
          have c35 : v34.toInt = v34.toInt := rfl
          exact ret v34 H34 locs34 _ _ dX11_worked_77 ⟨hKp34, by omega⟩ hC34 hS34
      · refine lv_aload_n hx hb dX11_worked_39 rfl (lv_at hl 0 rfl) ?_
        refine lv_aload_n hx hb dX11_worked_40 rfl (lv_at hl 0 rfl) ?_
        refine q_getS E hC0 g0 fa_RX11_77 hmo dX11_worked_41 (fun _ => ?_)
        refine q_getI E hC0 gmo fa_RX11_320 dX11_worked_44 (fun v36 ev36 _ _ => ?_)
        have m37 : (sI H0 mo (X.1.2 0 1)).toInt = v36.toInt := congrArg Int32.toInt ev36
        refine q_goI (q_runV (As := [.int v36]) (rest := []) E hC0 hS22 (m_X11_answer l X Γ H0 hC0 h0 g0 v36 (a1 := v36.toInt) rfl) cw_X11_answer cl_RX11_191 g0 ⟨rfl, rfl⟩ rfl hl.1 rfl (Nat.zero_le _) (by decide) dX11_worked_47) hS22 (fun v38 H38 locs38 hr38 hC38 hS38 => ?_)
        obtain ⟨hp38, hr38⟩ := hr38
        have hKp38 := hKp0.tr (hp38.mono rfl)
        have f38_0 := hr38
        have c39 : v38.toInt = v38.toInt := rfl
        exact ret v38 H38 locs38 _ _ dX11_worked_50 ⟨hKp38, by omega⟩ hC38 hS38
    · refine lv_aload_n hx hb dX11_worked_28 rfl (lv_at hl 0 rfl) ?_
      refine lv_bipush (v := 8) hx hb dX11_worked_29 rfl ?_
      refine q_goI (q_runV (As := [.int 8]) (rest := []) E hC0 hS22 (m_X11_refuse l X Γ H0 hC0 h0 g0 8 (a1 := 8) (by decide)) cw_X11_refuse cl_RX11_146 g0 ⟨rfl, rfl⟩ rfl hl.1 rfl (Nat.zero_le _) (by decide) dX11_worked_31) hS22 (fun v40 H40 locs40 hr40 hC40 hS40 => ?_)
      obtain ⟨hp40, hr40⟩ := hr40
      have hKp40 := hKp0.tr (hp40.mono rfl)
      have f40_0 := hr40
      have c41 : v40.toInt = v40.toInt := rfl
      exact ret v40 H40 locs40 _ _ dX11_worked_34 ⟨hKp40, by omega⟩ hC40 hS40
  · refine q_if_ne hx hb (a := 0) (by decide) (tgt := 16) dX11_worked_7 rfl (fun c42 => absurd c42 (by omega)) (fun c42 => ?_)
    refine lv_aload_n hx hb dX11_worked_10 rfl (lv_at hl 0 rfl) ?_
    refine lv_iconst (v := 5) hx hb dX11_worked_11 rfl ?_
    refine q_goI (q_runV (As := [.int 5]) (rest := []) E hC0 hS22 (m_X11_refuse l X Γ H0 hC0 h0 g0 5 (a1 := 5) (by decide)) cw_X11_refuse cl_RX11_146 g0 ⟨rfl, rfl⟩ rfl hl.1 rfl (Nat.zero_le _) (by decide) dX11_worked_12) hS22 (fun v43 H43 locs43 hr43 hC43 hS43 => ?_)
    obtain ⟨hp43, hr43⟩ := hr43
    have hKp43 := hKp0.tr (hp43.mono rfl)
    have f43_0 := hr43
    have c44 : v43.toInt = v43.toInt := rfl
    exact ret v43 H43 locs43 _ _ dX11_worked_15 ⟨hKp43, by omega⟩ hC43 hS43
set_option maxRecDepth 100000 in
set_option maxHeartbeats 4000000 in
theorem m_X11_isGame (l : Launch) (X : xW) (Γ : Nat → Option Nat) (H0 : Heap) (hC0 : Conf X Γ H0) (p0 : Int32) {a0 : Int} (e0 : p0.toInt = a0) (p1 : Int32) {a1 : Int} (e1 : p1.toInt = a1) (p2 : Int32) {a2 : Int} (e2 : p2.toInt = a2) (p3 : Int32) {a3 : Int} (e3 : p3.toInt = a3) : Ctr l X Γ yX11_isGame cX11_isGame 4 (some .boolean) 1 [.int p0, .int p1, .int p2, .int p3] H0 (QI X Γ (fun v H1 => H1 = H0 ∧ ((v = 1 ∧ (0 ≤ a0 ∧ a0 ≤ 12 ∧ 0 ≤ a1 ∧ a1 ≤ 12 ∧ 1 ≤ a2 ∧ a2 ≤ 4 ∧ 0 ≤ a3 ∧ a3 ≤ 4)) ∨ (v = 0 ∧ (a0 < 0 ∨ 12 < a0 ∨ a1 < 0 ∨ 12 < a1 ∨ a2 < 1 ∨ 4 < a2 ∨ a3 < 0 ∨ 4 < a3))))) := by
  refine q_enterZ (own := "SnowForts") (by decide) rfl (Nat.le_of_ble_eq_true rfl) ?_
  intro p e s m args below meth c ls Qz E hl ret hS0
  have hx := E.1; have hb := E.2.1
  have hl : lv_has ls 4 [(0, .int p0), (1, .int p1), (2, .int p2), (3, .int p3)] := hl
  refine lv_iload_n hx hb dX11_isGame_0 rfl (lv_at hl 0 rfl) ?_
  refine lv_i2l (v := p0.toInt64) hx hb dX11_isGame_1 rfl (lv_topl (fun v21 ev21 => ?_))
  have ev21i : v21.toInt = a0 := l_ofi ev21.symm e0
  refine lv_iconst (v := 0) hx hb dX11_isGame_2 rfl ?_
  refine lv_bipush (v := 12) hx hb dX11_isGame_3 rfl ?_
  refine q_goIp (q_runS (As := [.long v21, .int 0, .int 12]) (rest := []) E hS0 (m_X11_isWithin l X Γ H0 hC0 v21 (a0 := a0) ev21i 0 (a1 := 0) (by decide) 12 (a2 := 12) (by decide)) cw_X11_isWithin cl_RX11_113 rfl hl.1 rfl (Nat.zero_le _) (by decide) dX11_isGame_5) hS0 (fun v22 locs22 hr22 hS22 => ?_)
  rcases hr22 with ⟨rfl, f22a0, f22a1⟩ | ⟨rfl, f22b⟩
  · refine q_if_eq hx hb (a := 1) (by decide) (tgt := 46) dX11_isGame_8 rfl (fun c23 => absurd c23 (by omega)) (fun c23 => ?_)
    refine lv_iload_n hx hb dX11_isGame_11 rfl (lv_at hl 1 rfl) ?_
    refine lv_i2l (v := p1.toInt64) hx hb dX11_isGame_12 rfl (lv_topl (fun v24 ev24 => ?_))
    have ev24i : v24.toInt = a1 := l_ofi ev24.symm e1
    refine lv_iconst (v := 0) hx hb dX11_isGame_13 rfl ?_
    refine lv_bipush (v := 12) hx hb dX11_isGame_14 rfl ?_
    refine q_goIp (q_runS (As := [.long v24, .int 0, .int 12]) (rest := []) E hS22 (m_X11_isWithin l X Γ H0 hC0 v24 (a0 := a1) ev24i 0 (a1 := 0) (by decide) 12 (a2 := 12) (by decide)) cw_X11_isWithin cl_RX11_113 rfl hl.1 rfl (Nat.zero_le _) (by decide) dX11_isGame_16) hS22 (fun v25 locs25 hr25 hS25 => ?_)
    rcases hr25 with ⟨rfl, f25a0, f25a1⟩ | ⟨rfl, f25b⟩
    · refine q_if_eq hx hb (a := 1) (by decide) (tgt := 46) dX11_isGame_19 rfl (fun c26 => absurd c26 (by omega)) (fun c26 => ?_)
      refine lv_iload_n hx hb dX11_isGame_22 rfl (lv_at hl 2 rfl) ?_
      refine lv_i2l (v := p2.toInt64) hx hb dX11_isGame_23 rfl (lv_topl (fun v27 ev27 => ?_))
      have ev27i : v27.toInt = a2 := l_ofi ev27.symm e2
      refine lv_iconst (v := 1) hx hb dX11_isGame_24 rfl ?_
      refine lv_iconst (v := 4) hx hb dX11_isGame_25 rfl ?_
      refine q_goIp (q_runS (As := [.long v27, .int 1, .int 4]) (rest := []) E hS25 (m_X11_isWithin l X Γ H0 hC0 v27 (a0 := a2) ev27i 1 (a1 := 1) (by decide) 4 (a2 := 4) (by decide)) cw_X11_isWithin cl_RX11_113 rfl hl.1 rfl (Nat.zero_le _) (by decide) dX11_isGame_26) hS25 (fun v28 locs28 hr28 hS28 => ?_)
      rcases hr28 with ⟨rfl, f28a0, f28a1⟩ | ⟨rfl, f28b⟩
      · refine q_if_eq hx hb (a := 1) (by decide) (tgt := 46) dX11_isGame_29 rfl (fun c29 => absurd c29 (by omega)) (fun c29 => ?_)
        refine lv_iload_n hx hb dX11_isGame_32 rfl (lv_at hl 3 rfl) ?_
        refine lv_i2l (v := p3.toInt64) hx hb dX11_isGame_33 rfl (lv_topl (fun v30 ev30 => ?_))
        have ev30i : v30.toInt = a3 := l_ofi ev30.symm e3
        refine lv_iconst (v := 0) hx hb dX11_isGame_34 rfl ?_
        refine lv_iconst (v := 4) hx hb dX11_isGame_35 rfl ?_
        refine q_goIp (q_runS (As := [.long v30, .int 0, .int 4]) (rest := []) E hS28 (m_X11_isWithin l X Γ H0 hC0 v30 (a0 := a3) ev30i 0 (a1 := 0) (by decide) 4 (a2 := 4) (by decide)) cw_X11_isWithin cl_RX11_113 rfl hl.1 rfl (Nat.zero_le _) (by decide) dX11_isGame_36) hS28 (fun v31 locs31 hr31 hS31 => ?_)
        rcases hr31 with ⟨rfl, f31a0, f31a1⟩ | ⟨rfl, f31b⟩
        · refine q_if_eq hx hb (a := 1) (by decide) (tgt := 46) dX11_isGame_39 rfl (fun c32 => absurd c32 (by omega)) (fun c32 => ?_)
          refine lv_iconst (v := 1) hx hb dX11_isGame_42 rfl ?_
          refine lv_goto (tgt := 47) hx hb dX11_isGame_43 rfl ?_
          exact ret 1 H0 locs31 _ _ dX11_isGame_47 (Or.inr rfl) ⟨rfl, Or.inl ⟨rfl, by omega, by omega, by omega, by omega, by omega, by omega, by omega, by omega⟩⟩ hC0 hS31
        · refine q_if_eq hx hb (a := 0) (by decide) (tgt := 46) dX11_isGame_39 rfl (fun c33 => ?_) (fun c33 => absurd c33 (by omega))
          refine lv_iconst (v := 0) hx hb dX11_isGame_46 rfl ?_
          exact ret 0 H0 locs31 _ _ dX11_isGame_47 (Or.inl rfl) ⟨rfl, Or.inr ⟨rfl, by omega⟩⟩ hC0 hS31
      · refine q_if_eq hx hb (a := 0) (by decide) (tgt := 46) dX11_isGame_29 rfl (fun c34 => ?_) (fun c34 => absurd c34 (by omega))
        refine lv_iconst (v := 0) hx hb dX11_isGame_46 rfl ?_
        exact ret 0 H0 locs28 _ _ dX11_isGame_47 (Or.inl rfl) ⟨rfl, Or.inr ⟨rfl, by omega⟩⟩ hC0 hS28
    · refine q_if_eq hx hb (a := 0) (by decide) (tgt := 46) dX11_isGame_19 rfl (fun c35 => ?_) (fun c35 => absurd c35 (by omega))
      refine lv_iconst (v := 0) hx hb dX11_isGame_46 rfl ?_
      exact ret 0 H0 locs25 _ _ dX11_isGame_47 (Or.inl rfl) ⟨rfl, Or.inr ⟨rfl, by omega⟩⟩ hC0 hS25
  · refine q_if_eq hx hb (a := 0) (by decide) (tgt := 46) dX11_isGame_8 rfl (fun c36 => ?_) (fun c36 => absurd c36 (by omega))
    refine lv_iconst (v := 0) hx hb dX11_isGame_46 rfl ?_
    exact ret 0 H0 locs22 _ _ dX11_isGame_47 (Or.inl rfl) ⟨rfl, Or.inr ⟨rfl, by omega⟩⟩ hC0 hS22
set_option maxRecDepth 100000 in
set_option maxHeartbeats 4000000 in
theorem m_X11_raisedTo (l : Launch) (X : xW) (Γ : Nat → Option Nat) (H0 : Heap) (hC0 : Conf X Γ H0) (p0 : Int32) {a0 : Int} (e0 : p0.toInt = a0) (p1 : Int32) {a1 : Int} (e1 : p1.toInt = a1) (p2 : Int32) {a2 : Int} (e2 : p2.toInt = a2) (p3 : Int32) {a3 : Int} (e3 : p3.toInt = a3) (r0 : 0 ≤ a0) (r1 : a0 ≤ 12) (r2 : 0 ≤ a1) (r3 : a1 ≤ 12) (r4 : 1 ≤ a2) (r5 : a2 ≤ 4) (r6 : 0 ≤ a3) (r7 : a3 ≤ 4) : Ctr l X Γ yX11_raisedTo cX11_raisedTo 4 (some .int) 1 [.int p0, .int p1, .int p2, .int p3] H0 (QI X Γ (fun v H1 => H1 = H0 ∧ ((v.toInt ≤ 12) ∧ (v.toInt ≤ a0 + a2) ∧ (v.toInt ≤ a1 + a3) ∧ (v.toInt = 12 ∨ v.toInt = a0 + a2 ∨ v.toInt = a1 + a3)))) := by
  refine q_enterI (own := "SnowForts") (by decide) rfl (Nat.le_of_ble_eq_true rfl) ?_
  intro p e s m args below meth c ls Qz E hl ret hS0
  have hx := E.1; have hb := E.2.1
  have hl : lv_has ls 4 [(0, .int p0), (1, .int p1), (2, .int p2), (3, .int p3)] := hl
  refine lv_bipush (v := 12) hx hb dX11_raisedTo_0 rfl ?_
  refine lv_iload_n hx hb dX11_raisedTo_2 rfl (lv_at hl 0 rfl) ?_
  refine lv_iload_n hx hb dX11_raisedTo_3 rfl (lv_at hl 2 rfl) ?_
  refine lv_iadd hx hb dX11_raisedTo_4 (lv_topi (fun v21 ev21 => ?_))
  have ev21i : v21.toInt = (a0 + a2) := i_add ev21 e0 e2 (by omega) (by omega)
  refine lv_iload_n hx hb dX11_raisedTo_5 rfl (lv_at hl 1 rfl) ?_
  refine lv_iload_n hx hb dX11_raisedTo_6 rfl (lv_at hl 3 rfl) ?_
  refine lv_iadd hx hb dX11_raisedTo_7 (lv_topi (fun v22 ev22 => ?_))
  have ev22i : v22.toInt = (a1 + a3) := i_add ev22 e1 e3 (by omega) (by omega)
  refine q_mmin E hl.1 w_1176 mathw_min (a := (a0 + a2)) (b := (a1 + a3)) ev21i ev22i (by decide) (show _ ≤ _ from by simp [Value.category]) dX11_raisedTo_8 (fun v23 mv23a mv23b mv23c => ?_)
  refine q_mmin E hl.1 w_1176 mathw_min (a := 12) (b := v23.toInt) (show (12 : Int32).toInt = 12 from by decide) rfl (by decide) (Nat.zero_le _) dX11_raisedTo_11 (fun v24 mv24a mv24b mv24c => ?_)
  have c25 : v24.toInt = v24.toInt := rfl
  exact ret v24 H0 [] _ _ dX11_raisedTo_14 ⟨rfl, ⟨by omega, by omega, by omega, by omega⟩⟩ hC0 hS0
set_option maxRecDepth 100000 in
set_option maxHeartbeats 4000000 in
theorem m_X11_winningRaise (l : Launch) (X : xW) (Γ : Nat → Option Nat) (H0 : Heap) (hC0 : Conf X Γ H0) (h0 : Nat) (g0 : Γ h0 = some 0) (p1 : Int32) {a1 : Int} (e1 : p1.toInt = a1) (p2 : Int32) {a2 : Int} (e2 : p2.toInt = a2) (p3 : Int32) {a3 : Int} (e3 : p3.toInt = a3) (p4 : Int32) {a4 : Int} (e4 : p4.toInt = a4) (wa : Nat) (hwa : sR H0 h0 (X.1.2 10 15) = some wa) (gwa : Γ wa = some 23) (r0 : 0 ≤ a1) (r1 : a1 ≤ 12) (r2 : 0 ≤ a2) (r3 : a2 ≤ 12) (r4 : 1 ≤ a3) (r5 : a3 ≤ 4) (r6 : 0 ≤ a4) (r7 : a4 ≤ 4) : Ctr l X Γ yX11_winningRaise cX11_winningRaise 8 (some .int) 2 [.ref h0, .int p1, .int p2, .int p3, .int p4] H0 (QI X Γ (fun v H1 => H1 = H0 ∧ ((LST (TB H0 wa) a1 a2 (rT a1 a2 a3 a4) v.toInt)))) := by
  refine q_enterI (own := "SnowForts") (by decide) rfl (Nat.le_of_ble_eq_true rfl) ?_
  intro p e s m args below meth c ls Qz E hl ret hS0
  have hx := E.1; have hb := E.2.1
  have hl : lv_has ls 8 [(0, .ref h0), (1, .int p1), (2, .int p2), (3, .int p3), (4, .int p4)] := hl
  refine lv_iload_n hx hb dX11_winningRaise_0 rfl (lv_at hl 1 rfl) ?_
  refine lv_iload_n hx hb dX11_winningRaise_1 rfl (lv_at hl 2 rfl) ?_
  refine lv_iload_n hx hb dX11_winningRaise_2 rfl (lv_at hl 3 rfl) ?_
  refine lv_iload hx hb dX11_winningRaise_3 (lv_at hl 4 rfl) ?_
  refine q_goIp (q_runS (As := [.int p1, .int p2, .int p3, .int p4]) (rest := []) E hS0 (m_X11_raisedTo l X Γ H0 hC0 p1 (a0 := a1) e1 p2 (a1 := a2) e2 p3 (a2 := a3) e3 p4 (a3 := a4) e4 (by omega) (by omega) (by omega) (by omega) (by omega) (by omega) (by omega) (by omega)) cw_X11_raisedTo cl_RX11_334 rfl hl.1 rfl (Nat.zero_le _) (by decide) dX11_winningRaise_5) hS0 (fun v21 locs21 hr21 hS21 => ?_)
  obtain ⟨f21_0, f21_1, f21_2, f21_3⟩ := hr21
  have hrt : v21.toInt = rT a1 a2 a3 a4 := by unfold rT; (repeat' split) <;> omega
  refine lv_istore hx hb dX11_winningRaise_8 hl (by decide) rfl (fun ls hl => ?_)
  replace hl : lv_has ls 8 [(5, .int v21), (0, .ref h0), (1, .int p1), (2, .int p2), (3, .int p3), (4, .int p4)] := hl
  refine lv_iload_n hx hb dX11_winningRaise_10 rfl (lv_at hl 2 rfl) ?_
  refine lv_iconst (v := 1) hx hb dX11_winningRaise_11 rfl ?_
  refine lv_iadd hx hb dX11_winningRaise_12 (lv_topi (fun v22 ev22 => ?_))
  have ev22i : v22.toInt = (a1 + 1) := i_add ev22 e1 (by decide) (by omega) (by omega)
  refine lv_istore hx hb dX11_winningRaise_13 hl (by decide) rfl (fun ls hl => ?_)
  replace hl : lv_has ls 8 [(6, .int v22), (5, .int v21), (0, .ref h0), (1, .int p1), (2, .int p2), (3, .int p3), (4, .int p4)] := hl
  have L15 : ∀ (n24 : Nat) (locs24 : List Loc) (v23 : Int32) (z23 : Int) (ls : Array Slot), (v21.toInt + 1 - z23).toNat < n24 → v23.toInt = z23 → 1 ≤ z23 → a1 + 1 ≤ z23 → (∀ r : Int, 1 ≤ r → r < z23 - a1 → TB H0 wa a2 (a1 + r)) → va_S (AΓ Γ) H0 H0 locs24 → lv_has ls 8 [(6, .int v23), (5, .int v21), (0, .ref h0), (1, .int p1), (2, .int p2), (3, .int p3), (4, .int p4)] → W p l e (rmL 2) s m args below meth c H0 locs24 0 0 Qz (F0 m 15 ls []) := by
    intro n24
    induction n24 with
    | zero => intro locs24 v23 z23 ls hm24 ev23 iv24_0 iv24_1 iv24_2 hS24 hl; exact absurd hm24 (Nat.not_lt_zero _)
    | succ n24 ih24 =>
      intro locs24 v23 z23 ls hm24 ev23 iv24_0 iv24_1 iv24_2 hS24 hl
      have hlo := iv24_2
      refine lv_iload hx hb dX11_winningRaise_15 (lv_at hl 0 rfl) ?_
      refine lv_iload hx hb dX11_winningRaise_17 (lv_at hl 1 rfl) ?_
      refine q_icmp_gt hx hb (a := z23) (b := v21.toInt) ev23 rfl (tgt := 65) dX11_winningRaise_19 rfl (fun c25 => ?_) (fun c25 => ?_)
      · refine lv_iconst (v := 0) hx hb dX11_winningRaise_65 rfl ?_
        have hpost : LST (TB H0 wa) a1 a2 (rT a1 a2 a3 a4) (0 : Int32).toInt := by rw [show (0 : Int32).toInt = 0 from by decide]; exact LST_nil (n := z23 - a1) hlo (by omega)
        have c26 : (0 : Int32).toInt = 0 := (by decide)
        exact ret 0 H0 locs24 _ _ dX11_winningRaise_66 ⟨rfl, hpost⟩ hC0 hS24
      · refine lv_iload_n hx hb dX11_winningRaise_22 rfl (lv_at hl 4 rfl) ?_
        refine lv_bipush (v := 13) hx hb dX11_winningRaise_23 rfl ?_
        refine lv_imul hx hb dX11_winningRaise_25 (lv_topi (fun v27 ev27 => ?_))
        have ev27i : v27.toInt = (a2 * 13) := i_mul ev27 e2 (by decide) (by omega) (by omega)
        refine lv_iload hx hb dX11_winningRaise_26 (lv_at hl 0 rfl) ?_
        refine lv_iadd hx hb dX11_winningRaise_28 (lv_topi (fun v28 ev28 => ?_))
        have ev28i : v28.toInt = ((a2 * 13) + z23) := i_add ev28 ev27i ev23 (by omega) (by omega)
        refine lv_istore hx hb dX11_winningRaise_29 hl (by decide) rfl (fun ls hl => ?_)
        replace hl : lv_has ls 8 [(7, .int v28), (6, .int v23), (5, .int v21), (0, .ref h0), (1, .int p1), (2, .int p2), (3, .int p3), (4, .int p4)] := hl
        refine lv_iload hx hb dX11_winningRaise_31 (lv_at hl 0 rfl) ?_
        refine lv_i2l (v := v28.toInt64) hx hb dX11_winningRaise_33 rfl (lv_topl (fun v29 ev29 => ?_))
        have ev29i : v29.toInt = ((a2 * 13) + z23) := l_ofi ev29.symm ev28i
        refine lv_iconst (v := 0) hx hb dX11_winningRaise_34 rfl ?_
        refine lv_sipush (v := 168) hx hb dX11_winningRaise_35 rfl ?_
        refine q_goIp (q_runS (As := [.long v29, .int 0, .int 168]) (rest := []) E hS24 (m_X11_isWithin l X Γ H0 hC0 v29 (a0 := ((a2 * 13) + z23)) ev29i 0 (a1 := 0) (by decide) 168 (a2 := 168) (by decide)) cw_X11_isWithin cl_RX11_113 rfl hl.1 rfl (Nat.zero_le _) (by decide) dX11_winningRaise_38) hS24 (fun v30 locs30 hr30 hS30 => ?_)
        rcases hr30 with ⟨rfl, f30a0, f30a1⟩ | ⟨rfl, f30b⟩
        · refine q_if_eq hx hb (a := 1) (by decide) (tgt := 59) dX11_winningRaise_41 rfl (fun c31 => absurd c31 (by omega)) (fun c31 => ?_)
          refine lv_aload_n hx hb dX11_winningRaise_44 rfl (lv_at hl 3 rfl) ?_
          refine q_getS E hC0 g0 fa_RX11_88 hwa dX11_winningRaise_45 (fun _ => ?_)
          refine lv_iload hx hb dX11_winningRaise_48 (lv_at hl 0 rfl) ?_
          refine q_zald E hC0 gwa rfl rfl (fun _ h => h) (i_in (a := ((a2 * 13) + z23)) ev28i (by omega) (by omega)) dX11_winningRaise_50 (fun v32 ev32 _ _ => ?_)
          have hb50 : (sI H0 wa (((a2 * 13) + z23) : Int).toNat).toInt = v32.toInt := by rw [← i_ix ev28i]; exact congrArg Int32.toInt ev32
          refine q_if_ne hx hb (a := v32.toInt) rfl (tgt := 59) dX11_winningRaise_51 rfl (fun c33 => ?_) (fun c33 => ?_)
          · have hnx : ∀ r : Int, 1 ≤ r → r < z23 + 1 - a1 → TB H0 wa a2 (a1 + r) := fun r r1 r2 => by by_cases e : r = z23 - a1; (first | (rw [e]; show (sI H0 wa (13 * a2 + (a1 + (z23 - a1))).toNat).toInt ≠ 0; rw [show (13 * a2 + (a1 + (z23 - a1))).toNat = (((a2 * 13) + z23) : Int).toNat from by omega]; omega) | omega); exact hlo r r1 (by omega)
            obtain ⟨v34, ev34⟩ : ∃ z, z = v23 + Int32.ofInt 1 := ⟨_, rfl⟩
            have ev34i : v34.toInt = (z23 + 1) := i_add ev34 ev23 (by decide) (by omega) (by omega)
            refine lv_iinc hx hb dX11_winningRaise_59 hl (k := 1) rfl ev34.symm (by decide) rfl (fun ls hl => ?_)
            replace hl : lv_has ls 8 [(6, .int v34), (7, .int v28), (5, .int v21), (0, .ref h0), (1, .int p1), (2, .int p2), (3, .int p3), (4, .int p4)] := hl
            refine lv_goto (tgt := 15) hx hb dX11_winningRaise_62 rfl ?_
            exact ih24 locs30 v34 ((z23 + 1)) ls (by omega) ev34i (by omega) (by omega) (hnx) hS30 (lv_sub hl [0, 2, 3, 4, 5, 6, 7] rfl)
          · refine lv_iload hx hb dX11_winningRaise_54 (lv_at hl 1 rfl) ?_
            refine lv_iload_n hx hb dX11_winningRaise_56 rfl (lv_at hl 4 rfl) ?_
            refine lv_isub hx hb dX11_winningRaise_57 (lv_topi (fun v35 ev35 => ?_))
            have ev35i : v35.toInt = (z23 - a1) := i_sub ev35 ev23 e1 (by omega) (by omega)
            have hpost : LST (TB H0 wa) a1 a2 (rT a1 a2 a3 a4) (v35 : Int32).toInt := by rw [show (v35 : Int32).toInt = z23 - a1 from ev35i]; exact Or.inl ⟨by omega, by omega, fun q => q (by show (sI H0 wa (13 * a2 + (a1 + (z23 - a1))).toNat).toInt = 0; rw [show (13 * a2 + (a1 + (z23 - a1))).toNat = (((a2 * 13) + z23) : Int).toNat from by omega]; omega), hlo⟩
            have c36 : v35.toInt = (z23 - a1) := ev35i
            exact ret v35 H0 locs30 _ _ dX11_winningRaise_58 ⟨rfl, hpost⟩ hC0 hS30
        · refine q_if_eq hx hb (a := 0) (by decide) (tgt := 59) dX11_winningRaise_41 rfl (fun c37 => ?_) (fun c37 => absurd c37 (by omega))
          have hnx : ∀ r : Int, 1 ≤ r → r < z23 + 1 - a1 → TB H0 wa a2 (a1 + r) := fun r r1 r2 => by by_cases e : r = z23 - a1; (first | (rw [e]; show (sI H0 wa (13 * a2 + (a1 + (z23 - a1))).toNat).toInt ≠ 0; rw [show (13 * a2 + (a1 + (z23 - a1))).toNat = (((a2 * 13) + z23) : Int).toNat from by omega]; omega) | omega); exact hlo r r1 (by omega)
          obtain ⟨v38, ev38⟩ : ∃ z, z = v23 + Int32.ofInt 1 := ⟨_, rfl⟩
          have ev38i : v38.toInt = (z23 + 1) := i_add ev38 ev23 (by decide) (by omega) (by omega)
          refine lv_iinc hx hb dX11_winningRaise_59 hl (k := 1) rfl ev38.symm (by decide) rfl (fun ls hl => ?_)
          replace hl : lv_has ls 8 [(6, .int v38), (7, .int v28), (5, .int v21), (0, .ref h0), (1, .int p1), (2, .int p2), (3, .int p3), (4, .int p4)] := hl
          refine lv_goto (tgt := 15) hx hb dX11_winningRaise_62 rfl ?_
          exact ih24 locs30 v38 ((z23 + 1)) ls (by omega) ev38i (by omega) (by omega) (hnx) hS30 (lv_sub hl [0, 2, 3, 4, 5, 6, 7] rfl)
  exact L15 _ locs21 v22 ((a1 + 1)) ls (Nat.lt_succ_self _) ev22i (by omega) (by omega) (fun r r1 r2 => by omega) hS21 hl
set_option maxRecDepth 100000 in
set_option maxHeartbeats 4000000 in
theorem m_X11_wins (l : Launch) (X : xW) (Γ : Nat → Option Nat) (H0 : Heap) (hC0 : Conf X Γ H0) (h0 : Nat) (g0 : Γ h0 = some 0) (p1 : Int32) {a1 : Int} (e1 : p1.toInt = a1) (p2 : Int32) {a2 : Int} (e2 : p2.toInt = a2) (p3 : Int32) {a3 : Int} (e3 : p3.toInt = a3) (p4 : Int32) {a4 : Int} (e4 : p4.toInt = a4) : Ctr l X Γ yX11_wins cX11_wins 8 (some .int) 3 [.ref h0, .int p1, .int p2, .int p3, .int p4] H0 (QI X Γ (fun v H1 => Kp X Γ [0, 2, 3, 4, 5, 18, 21, 23, 25, 27] H0 H1 ∧ ((((∃ T, FXI T a3 a4 (-1) 0 ∧ LST T a1 a2 (rT a1 a2 a3 a4) v.toInt) ∧ 0 ≤ a1 ∧ a1 ≤ 12 ∧ 0 ≤ a2 ∧ a2 ≤ 12 ∧ 1 ≤ a3 ∧ a3 ≤ 4 ∧ 0 ≤ a4 ∧ a4 ≤ 4) ∨ (v.toInt = -1 ∧ (a1 < 0 ∨ 12 < a1 ∨ a2 < 0 ∨ 12 < a2 ∨ a3 < 1 ∨ 4 < a3 ∨ a4 < 0 ∨ 4 < a4)))))) := by
  refine q_enterI (own := "SnowForts") (by decide) rfl (Nat.le_of_ble_eq_true rfl) ?_
  intro p e s m args below meth c ls Qz E hl ret hS0
  have hx := E.1; have hb := E.2.1
  have hKp0 : Kp X Γ [0, 2, 3, 4, 5, 18, 21, 23, 25, 27] H0 H0 := Kp.rf
  have hl : lv_has ls 8 [(0, .ref h0), (1, .int p1), (2, .int p2), (3, .int p3), (4, .int p4)] := hl
  obtain ⟨wa, hwa, gwa⟩ := f_ref hC0 g0 (ci := 10) (kf := 15) rfl rfl
  refine lv_iload_n hx hb dX11_wins_0 rfl (lv_at hl 1 rfl) ?_
  refine lv_iload_n hx hb dX11_wins_1 rfl (lv_at hl 2 rfl) ?_
  refine lv_iload_n hx hb dX11_wins_2 rfl (lv_at hl 3 rfl) ?_
  refine lv_iload hx hb dX11_wins_3 (lv_at hl 4 rfl) ?_
  refine q_goIp (q_runS (As := [.int p1, .int p2, .int p3, .int p4]) (rest := []) E hS0 (m_X11_isGame l X Γ H0 hC0 p1 (a0 := a1) e1 p2 (a1 := a2) e2 p3 (a2 := a3) e3 p4 (a3 := a4) e4) cw_X11_isGame cl_RX11_338 rfl hl.1 rfl (Nat.zero_le _) (by decide) dX11_wins_5) hS0 (fun v21 locs21 hr21 hS21 => ?_)
  rcases hr21 with ⟨rfl, f21a0, f21a1, f21a2, f21a3, f21a4, f21a5, f21a6, f21a7⟩ | ⟨rfl, f21b⟩
  · refine q_if_ne hx hb (a := 1) (by decide) (tgt := 17) dX11_wins_8 rfl (fun c22 => ?_) (fun c22 => absurd c22 (by omega))
    refine lv_bipush (v := 24) hx hb dX11_wins_17 rfl ?_
    refine lv_istore hx hb dX11_wins_19 hl (by decide) rfl (fun ls hl => ?_)
    replace hl : lv_has ls 8 [(5, .int 24), (0, .ref h0), (1, .int p1), (2, .int p2), (3, .int p3), (4, .int p4)] := hl
    have L21 : ∀ (n24 : Nat) (H24 : Heap) (locs24 : List Loc) (v23 : Int32) (z23 : Int) (ls : Array Slot), (z23 + 1).toNat < n24 → v23.toInt = z23 → -1 ≤ z23 → z23 ≤ 24 → FXI (TB H24 wa) a3 a4 z23 0 → Conf X Γ H24 → va_S (AΓ Γ) H0 H24 locs24 → Kp X Γ [0, 2, 3, 4, 5, 18, 21, 23, 25, 27] H0 H24 → lv_has ls 8 [(5, .int v23), (0, .ref h0), (1, .int p1), (2, .int p2), (3, .int p3), (4, .int p4)] → W p l e (rmL 3) s m args below meth c H24 locs24 0 0 Qz (F0 m 21 ls []) := by
      intro n24
      induction n24 with
      | zero => intro H24 locs24 v23 z23 ls hm24 ev23 iv24_0 iv24_1 iv24_2 hC24 hS24 hKp24 hl; exact absurd hm24 (Nat.not_lt_zero _)
      | succ n24 ih24 =>
        intro H24 locs24 v23 z23 ls hm24 ev23 iv24_0 iv24_1 iv24_2 hC24 hS24 hKp24 hl
        have hfx := iv24_2
        refine lv_iload hx hb dX11_wins_21 (lv_at hl 0 rfl) ?_
        refine q_if_lt hx hb (a := z23) ev23 (tgt := 99) dX11_wins_23 rfl (fun c25 => ?_) (fun c25 => ?_)
        · have hfe : FXI (TB H24 wa) a3 a4 (-1) 0 := by rw [show (-1 : Int) = z23 from by omega]; exact hfx
          refine lv_aload_n hx hb dX11_wins_99 rfl (lv_at hl 1 rfl) ?_
          refine lv_aload_n hx hb dX11_wins_100 rfl (lv_at hl 1 rfl) ?_
          refine lv_iload_n hx hb dX11_wins_101 rfl (lv_at hl 2 rfl) ?_
          refine lv_iload_n hx hb dX11_wins_102 rfl (lv_at hl 3 rfl) ?_
          refine lv_iload_n hx hb dX11_wins_103 rfl (lv_at hl 4 rfl) ?_
          refine lv_iload hx hb dX11_wins_104 (lv_at hl 5 rfl) ?_
          refine q_goIp (q_runV (As := [.int p1, .int p2, .int p3, .int p4]) (rest := [.ref h0]) E hC24 hS24 (m_X11_winningRaise l X Γ H24 hC24 h0 g0 p1 (a1 := a1) e1 p2 (a2 := a2) e2 p3 (a3 := a3) e3 p4 (a4 := a4) e4 wa ((kp_R hKp24 g0 (ci := 10) (k := 15) rfl (by decide) rfl).trans hwa) gwa (by omega) (by omega) (by omega) (by omega) (by omega) (by omega) (by omega) (by omega)) cw_X11_winningRaise cl_RX11_342 g0 ⟨rfl, rfl⟩ rfl hl.1 rfl (show _ ≤ _ from by simp [Value.category]) (by decide) dX11_wins_106) hS24 (fun v26 locs26 hr26 hS26 => ?_)
          have f26_0 := hr26
          have hle := f26_0
          refine q_goI (q_runV (As := [.int v26]) (rest := []) E hC24 hS26 (m_X11_answer l X Γ H24 hC24 h0 g0 v26 (a1 := v26.toInt) rfl) cw_X11_answer cl_RX11_191 g0 ⟨rfl, rfl⟩ rfl hl.1 rfl (Nat.zero_le _) (by decide) dX11_wins_109) hS26 (fun v27 H27 locs27 hr27 hC27 hS27 => ?_)
          obtain ⟨hp27, hr27⟩ := hr27
          have hKp27 := hKp24.tr (hp27.mono rfl)
          have f27_0 := hr27
          have han := f27_0
          have hpost : ((∃ T, FXI T a3 a4 (-1) 0 ∧ LST T a1 a2 (rT a1 a2 a3 a4) (v27 : Int32).toInt) ∧ 0 ≤ a1 ∧ a1 ≤ 12 ∧ 0 ≤ a2 ∧ a2 ≤ 12 ∧ 1 ≤ a3 ∧ a3 ≤ 4 ∧ 0 ≤ a4 ∧ a4 ≤ 4) ∨ ((v27 : Int32).toInt = -1 ∧ (a1 < 0 ∨ 12 < a1 ∨ a2 < 0 ∨ 12 < a2 ∨ a3 < 1 ∨ 4 < a3 ∨ a4 < 0 ∨ 4 < a4)) := Or.inl ⟨⟨_, hfe, by rw [han]; exact hle⟩, by omega, by omega, by omega, by omega, by omega, by omega, by omega, by omega⟩
          have c28 : v27.toInt = v27.toInt := rfl
          exact ret v27 H27 locs27 _ _ dX11_wins_112 ⟨hKp27, hpost⟩ hC27 hS27
        · refine lv_iconst (v := 0) hx hb dX11_wins_26 rfl ?_
          refine lv_istore hx hb dX11_wins_27 hl (by decide) rfl (fun ls hl => ?_)
          replace hl : lv_has ls 8 [(6, .int 0), (5, .int v23), (0, .ref h0), (1, .int p1), (2, .int p2), (3, .int p3), (4, .int p4)] := hl
          have L29 : ∀ (n30 : Nat) (H30 : Heap) (locs30 : List Loc) (v29 : Int32) (z29 : Int) (ls : Array Slot), (13 - z29).toNat < n30 → v29.toInt = z29 → z29 ≤ 13 → 0 ≤ z29 → FXI (TB H30 wa) a3 a4 z23 z29 → Conf X Γ H30 → va_S (AΓ Γ) H0 H30 locs30 → Kp X Γ [0, 2, 3, 4, 5, 18, 21, 23, 25, 27] H0 H30 → lv_has ls 8 [(6, .int v29), (5, .int v23), (0, .ref h0), (1, .int p1), (2, .int p2), (3, .int p3), (4, .int p4)] → W p l e (rmL 3) s m args below meth c H30 locs30 0 0 Qz (F0 m 29 ls []) := by
            intro n30
            induction n30 with
            | zero => intro H30 locs30 v29 z29 ls hm30 ev29 iv30_0 iv30_1 iv30_2 hC30 hS30 hKp30 hl; exact absurd hm30 (Nat.not_lt_zero _)
            | succ n30 ih30 =>
              intro H30 locs30 v29 z29 ls hm30 ev29 iv30_0 iv30_1 iv30_2 hC30 hS30 hKp30 hl
              have hfi := iv30_2
              refine lv_iload hx hb dX11_wins_29 (lv_at hl 0 rfl) ?_
              refine lv_bipush (v := 12) hx hb dX11_wins_31 rfl ?_
              refine q_icmp_gt hx hb (a := z29) (b := 12) ev29 (by decide) (tgt := 93) dX11_wins_33 rfl (fun c31 => ?_) (fun c31 => ?_)
              · have hfo : FXI (TB H30 wa) a3 a4 (z23 + (-1)) 0 := FXI_next hfi (by omega)
                obtain ⟨v32, ev32⟩ : ∃ z, z = v23 + Int32.ofInt (-1) := ⟨_, rfl⟩
                have ev32i : v32.toInt = (z23 + (-1)) := i_add ev32 ev23 (by decide) (by omega) (by omega)
                refine lv_iinc hx hb dX11_wins_93 hl (k := 1) rfl ev32.symm (by decide) rfl (fun ls hl => ?_)
                replace hl : lv_has ls 8 [(5, .int v32), (6, .int v29), (0, .ref h0), (1, .int p1), (2, .int p2), (3, .int p3), (4, .int p4)] := hl
                refine lv_goto (tgt := 21) hx hb dX11_wins_96 rfl ?_
                exact ih24 H30 locs30 v32 ((z23 + (-1))) ls (by omega) ev32i (by omega) (by omega) (hfo) hC30 hS30 hKp30 (lv_sub hl [0, 2, 3, 4, 5, 6] rfl)
              · refine lv_iload hx hb dX11_wins_36 (lv_at hl 1 rfl) ?_
                refine lv_iload hx hb dX11_wins_38 (lv_at hl 0 rfl) ?_
                refine lv_isub hx hb dX11_wins_40 (lv_topi (fun v33 ev33 => ?_))
                have ev33i : v33.toInt = (z23 - z29) := i_sub ev33 ev23 ev29 (by omega) (by omega)
                refine lv_istore hx hb dX11_wins_41 hl (by decide) rfl (fun ls hl => ?_)
                replace hl : lv_has ls 8 [(7, .int v33), (6, .int v29), (5, .int v23), (0, .ref h0), (1, .int p1), (2, .int p2), (3, .int p3), (4, .int p4)] := hl
                refine lv_iload hx hb dX11_wins_43 (lv_at hl 0 rfl) ?_
                refine lv_i2l (v := v33.toInt64) hx hb dX11_wins_45 rfl (lv_topl (fun v34 ev34 => ?_))
                have ev34i : v34.toInt = (z23 - z29) := l_ofi ev34.symm ev33i
                refine lv_iconst (v := 0) hx hb dX11_wins_46 rfl ?_
                refine lv_bipush (v := 12) hx hb dX11_wins_47 rfl ?_
                refine q_goIp (q_runS (As := [.long v34, .int 0, .int 12]) (rest := []) E hS30 (m_X11_isWithin l X Γ H30 hC30 v34 (a0 := (z23 - z29)) ev34i 0 (a1 := 0) (by decide) 12 (a2 := 12) (by decide)) cw_X11_isWithin cl_RX11_113 rfl hl.1 rfl (Nat.zero_le _) (by decide) dX11_wins_49) hS30 (fun v35 locs35 hr35 hS35 => ?_)
                rcases hr35 with ⟨rfl, f35a0, f35a1⟩ | ⟨rfl, f35b⟩
                · refine q_if_eq hx hb (a := 1) (by decide) (tgt := 87) dX11_wins_52 rfl (fun c36 => absurd c36 (by omega)) (fun c36 => ?_)
                  refine lv_aload_n hx hb dX11_wins_55 rfl (lv_at hl 3 rfl) ?_
                  refine q_getS E hC30 g0 fa_RX11_88 ((kp_R hKp30 g0 (ci := 10) (k := 15) rfl (by decide) rfl).trans hwa) dX11_wins_56 (fun _ => ?_)
                  refine lv_iload hx hb dX11_wins_59 (lv_at hl 1 rfl) ?_
                  refine lv_bipush (v := 13) hx hb dX11_wins_61 rfl ?_
                  refine lv_imul hx hb dX11_wins_63 (lv_topi (fun v37 ev37 => ?_))
                  have ev37i : v37.toInt = (z29 * 13) := i_mul ev37 ev29 (by decide) (by omega) (by omega)
                  refine lv_iload hx hb dX11_wins_64 (lv_at hl 0 rfl) ?_
                  refine lv_iadd hx hb dX11_wins_66 (lv_topi (fun v38 ev38 => ?_))
                  have ev38i : v38.toInt = ((z29 * 13) + (z23 - z29)) := i_add ev38 ev37i ev33i (by omega) (by omega)
                  refine lv_aload_n hx hb dX11_wins_67 rfl (lv_at hl 3 rfl) ?_
                  refine lv_iload hx hb dX11_wins_68 (lv_at hl 1 rfl) ?_
                  refine lv_iload hx hb dX11_wins_70 (lv_at hl 0 rfl) ?_
                  refine lv_iload_n hx hb dX11_wins_72 rfl (lv_at hl 6 rfl) ?_
                  refine lv_iload hx hb dX11_wins_73 (lv_at hl 7 rfl) ?_
                  refine q_goIp (q_runV (As := [.int v29, .int v33, .int p3, .int p4]) (rest := [.int v38, .ref wa]) E hC30 hS35 (m_X11_winningRaise l X Γ H30 hC30 h0 g0 v29 (a1 := z29) ev29 v33 (a2 := (z23 - z29)) ev33i p3 (a3 := a3) e3 p4 (a4 := a4) e4 wa ((kp_R hKp30 g0 (ci := 10) (k := 15) rfl (by decide) rfl).trans hwa) gwa (by omega) (by omega) (by omega) (by omega) (by omega) (by omega) (by omega) (by omega)) cw_X11_winningRaise cl_RX11_342 g0 ⟨rfl, rfl⟩ rfl hl.1 rfl (show _ ≤ _ from by simp [Value.category]) (by decide) dX11_wins_75) hS35 (fun v39 locs39 hr39 hS39 => ?_)
                  have f39_0 := hr39
                  have hls := f39_0
                  refine q_if_le hx hb (a := v39.toInt) rfl (tgt := 85) dX11_wins_78 rfl (fun c40 => ?_) (fun c40 => ?_)
                  · refine lv_iconst (v := 0) hx hb dX11_wins_85 rfl ?_
                    refine q_zast E hC30 hS39 gwa (by decide) rfl rfl (fun _ => rfl) (i_in (a := ((z29 * 13) + (z23 - z29))) ev38i (by omega) (by omega)) dX11_wins_86 (fun H41 locs41 hC41 hS41 U41 => ?_)
                    have hKp41 := Kp.upA gwa rfl (by decide) rfl U41 hKp30
                    have hf2 : FXI (TB H41 wa) a3 a4 z23 (z29 + 1) := TB_upL hfi (by omega) (by omega) (by omega) (by omega) (by omega) (i_ix ev38i ▸ U41) hls (by first | exact ⟨fun _ => by omega, fun _ => by decide⟩ | exact ⟨fun h => absurd (by decide) h, fun h => by omega⟩)
                    have hfn : FXI (TB H41 wa) a3 a4 z23 (z29 + 1) := by first | exact hf2 | exact FXI_skip hfi (by omega)
                    obtain ⟨v42, ev42⟩ : ∃ z, z = v29 + Int32.ofInt 1 := ⟨_, rfl⟩
                    have ev42i : v42.toInt = (z29 + 1) := i_add ev42 ev29 (by decide) (by omega) (by omega)
                    refine lv_iinc hx hb dX11_wins_87 hl (k := 1) rfl ev42.symm (by decide) rfl (fun ls hl => ?_)
                    replace hl : lv_has ls 8 [(6, .int v42), (7, .int v33), (5, .int v23), (0, .ref h0), (1, .int p1), (2, .int p2), (3, .int p3), (4, .int p4)] := hl
                    refine lv_goto (tgt := 29) hx hb dX11_wins_90 rfl ?_
                    exact ih30 H41 locs41 v42 ((z29 + 1)) ls (by omega) ev42i (by omega) (by omega) (hfn) hC41 hS41 hKp41 (lv_sub hl [0, 2, 3, 4, 5, 6, 7] rfl)
                  · refine lv_iconst (v := 1) hx hb dX11_wins_81 rfl ?_
                    refine lv_goto (tgt := 86) hx hb dX11_wins_82 rfl ?_
                    refine q_zast E hC30 hS39 gwa (by decide) rfl rfl (fun _ => rfl) (i_in (a := ((z29 * 13) + (z23 - z29))) ev38i (by omega) (by omega)) dX11_wins_86 (fun H43 locs43 hC43 hS43 U43 => ?_)
                    have hKp43 := Kp.upA gwa rfl (by decide) rfl U43 hKp30
                    have hf2 : FXI (TB H43 wa) a3 a4 z23 (z29 + 1) := TB_upL hfi (by omega) (by omega) (by omega) (by omega) (by omega) (i_ix ev38i ▸ U43) hls (by first | exact ⟨fun _ => by omega, fun _ => by decide⟩ | exact ⟨fun h => absurd (by decide) h, fun h => by omega⟩)
                    have hfn : FXI (TB H43 wa) a3 a4 z23 (z29 + 1) := by first | exact hf2 | exact FXI_skip hfi (by omega)
                    obtain ⟨v44, ev44⟩ : ∃ z, z = v29 + Int32.ofInt 1 := ⟨_, rfl⟩
                    have ev44i : v44.toInt = (z29 + 1) := i_add ev44 ev29 (by decide) (by omega) (by omega)
                    refine lv_iinc hx hb dX11_wins_87 hl (k := 1) rfl ev44.symm (by decide) rfl (fun ls hl => ?_)
                    replace hl : lv_has ls 8 [(6, .int v44), (7, .int v33), (5, .int v23), (0, .ref h0), (1, .int p1), (2, .int p2), (3, .int p3), (4, .int p4)] := hl
                    refine lv_goto (tgt := 29) hx hb dX11_wins_90 rfl ?_
                    exact ih30 H43 locs43 v44 ((z29 + 1)) ls (by omega) ev44i (by omega) (by omega) (hfn) hC43 hS43 hKp43 (lv_sub hl [0, 2, 3, 4, 5, 6, 7] rfl)
                · refine q_if_eq hx hb (a := 0) (by decide) (tgt := 87) dX11_wins_52 rfl (fun c45 => ?_) (fun c45 => absurd c45 (by omega))
                  have hfn : FXI (TB H30 wa) a3 a4 z23 (z29 + 1) := by first | exact hf2 | exact FXI_skip hfi (by omega)
                  obtain ⟨v46, ev46⟩ : ∃ z, z = v29 + Int32.ofInt 1 := ⟨_, rfl⟩
                  have ev46i : v46.toInt = (z29 + 1) := i_add ev46 ev29 (by decide) (by omega) (by omega)
                  refine lv_iinc hx hb dX11_wins_87 hl (k := 1) rfl ev46.symm (by decide) rfl (fun ls hl => ?_)
                  replace hl : lv_has ls 8 [(6, .int v46), (7, .int v33), (5, .int v23), (0, .ref h0), (1, .int p1), (2, .int p2), (3, .int p3), (4, .int p4)] := hl
                  refine lv_goto (tgt := 29) hx hb dX11_wins_90 rfl ?_
                  exact ih30 H30 locs35 v46 ((z29 + 1)) ls (by omega) ev46i (by omega) (by omega) (hfn) hC30 hS35 hKp30 (lv_sub hl [0, 2, 3, 4, 5, 6, 7] rfl)
          exact L29 _ H24 locs24 0 0 ls (Nat.lt_succ_self _) (by decide) (by omega) (by omega) (hfx) hC24 hS24 hKp24 hl
    exact L21 _ H0 locs21 24 24 ls (Nat.lt_succ_self _) (by decide) (by omega) (by omega) (FXI_start) hC0 hS21 hKp0 hl
  · refine q_if_ne hx hb (a := 0) (by decide) (tgt := 17) dX11_wins_8 rfl (fun c47 => absurd c47 (by omega)) (fun c47 => ?_)
    refine lv_aload_n hx hb dX11_wins_11 rfl (lv_at hl 0 rfl) ?_
    refine lv_iconst (v := 5) hx hb dX11_wins_12 rfl ?_
    refine q_goI (q_runV (As := [.int 5]) (rest := []) E hC0 hS21 (m_X11_refuse l X Γ H0 hC0 h0 g0 5 (a1 := 5) (by decide)) cw_X11_refuse cl_RX11_146 g0 ⟨rfl, rfl⟩ rfl hl.1 rfl (Nat.zero_le _) (by decide) dX11_wins_13) hS21 (fun v48 H48 locs48 hr48 hC48 hS48 => ?_)
    obtain ⟨hp48, hr48⟩ := hr48
    have hKp48 := hKp0.tr (hp48.mono rfl)
    have f48_0 := hr48
    have hrf := f48_0
    have hpost : ((∃ T, FXI T a3 a4 (-1) 0 ∧ LST T a1 a2 (rT a1 a2 a3 a4) (v48 : Int32).toInt) ∧ 0 ≤ a1 ∧ a1 ≤ 12 ∧ 0 ≤ a2 ∧ a2 ≤ 12 ∧ 1 ≤ a3 ∧ a3 ≤ 4 ∧ 0 ≤ a4 ∧ a4 ≤ 4) ∨ ((v48 : Int32).toInt = -1 ∧ (a1 < 0 ∨ 12 < a1 ∨ a2 < 0 ∨ 12 < a2 ∨ a3 < 1 ∨ 4 < a3 ∨ a4 < 0 ∨ 4 < a4)) := Or.inr ⟨hrf, by omega⟩
    have c49 : v48.toInt = v48.toInt := rfl
    exact ret v48 H48 locs48 _ _ dX11_wins_16 ⟨hKp48, hpost⟩ hC48 hS48
set_option maxRecDepth 100000 in
set_option maxHeartbeats 4000000 in
theorem m_X11_turns (l : Launch) (X : xW) (Γ : Nat → Option Nat) (H0 : Heap) (hC0 : Conf X Γ H0) (h0 : Nat) (g0 : Γ h0 = some 0) (p1 : Int32) {a1 : Int} (e1 : p1.toInt = a1) (p2 : Int32) {a2 : Int} (e2 : p2.toInt = a2) (p3 : Int32) {a3 : Int} (e3 : p3.toInt = a3) (p4 : Int32) {a4 : Int} (e4 : p4.toInt = a4) : Ctr l X Γ yX11_turns cX11_turns 9 (some .int) 2 [.ref h0, .int p1, .int p2, .int p3, .int p4] H0 (QI X Γ (fun v H1 => Kp X Γ [0, 2, 3, 4, 5, 18, 21, 23, 25, 27] H0 H1 ∧ (((v.toInt = TG a3 a4 25 a1 a2 ∧ 0 ≤ a1 ∧ a1 ≤ 12 ∧ 0 ≤ a2 ∧ a2 ≤ 12 ∧ 1 ≤ a3 ∧ a3 ≤ 4 ∧ 0 ≤ a4 ∧ a4 ≤ 4) ∨ (v.toInt = -1 ∧ (a1 < 0 ∨ 12 < a1 ∨ a2 < 0 ∨ 12 < a2 ∨ a3 < 1 ∨ 4 < a3 ∨ a4 < 0 ∨ 4 < a4)))))) := by
  refine q_enterI (own := "SnowForts") (by decide) rfl (Nat.le_of_ble_eq_true rfl) ?_
  intro p e s m args below meth c ls Qz E hl ret hS0
  have hx := E.1; have hb := E.2.1
  have hKp0 : Kp X Γ [0, 2, 3, 4, 5, 18, 21, 23, 25, 27] H0 H0 := Kp.rf
  have hl : lv_has ls 9 [(0, .ref h0), (1, .int p1), (2, .int p2), (3, .int p3), (4, .int p4)] := hl
  refine lv_iload_n hx hb dX11_turns_0 rfl (lv_at hl 1 rfl) ?_
  refine lv_iload_n hx hb dX11_turns_1 rfl (lv_at hl 2 rfl) ?_
  refine lv_iload_n hx hb dX11_turns_2 rfl (lv_at hl 3 rfl) ?_
  refine lv_iload hx hb dX11_turns_3 (lv_at hl 4 rfl) ?_
  refine q_goIp (q_runS (As := [.int p1, .int p2, .int p3, .int p4]) (rest := []) E hS0 (m_X11_isGame l X Γ H0 hC0 p1 (a0 := a1) e1 p2 (a1 := a2) e2 p3 (a2 := a3) e3 p4 (a3 := a4) e4) cw_X11_isGame cl_RX11_338 rfl hl.1 rfl (Nat.zero_le _) (by decide) dX11_turns_5) hS0 (fun v21 locs21 hr21 hS21 => ?_)
  rcases hr21 with ⟨rfl, f21a0, f21a1, f21a2, f21a3, f21a4, f21a5, f21a6, f21a7⟩ | ⟨rfl, f21b⟩
  · refine q_if_ne hx hb (a := 1) (by decide) (tgt := 17) dX11_turns_8 rfl (fun c22 => ?_) (fun c22 => absurd c22 (by omega))
    refine lv_iload_n hx hb dX11_turns_17 rfl (lv_at hl 1 rfl) ?_
    refine lv_istore hx hb dX11_turns_18 hl (by decide) rfl (fun ls hl => ?_)
    replace hl : lv_has ls 9 [(5, .int p1), (0, .ref h0), (1, .int p1), (2, .int p2), (3, .int p3), (4, .int p4)] := hl
    refine lv_iload_n hx hb dX11_turns_20 rfl (lv_at hl 3 rfl) ?_
    refine lv_istore hx hb dX11_turns_21 hl (by decide) rfl (fun ls hl => ?_)
    replace hl : lv_has ls 9 [(6, .int p2), (5, .int p1), (0, .ref h0), (1, .int p1), (2, .int p2), (3, .int p3), (4, .int p4)] := hl
    refine lv_iconst (v := 0) hx hb dX11_turns_23 rfl ?_
    refine lv_istore hx hb dX11_turns_24 hl (by decide) rfl (fun ls hl => ?_)
    replace hl : lv_has ls 9 [(7, .int 0), (6, .int p2), (5, .int p1), (0, .ref h0), (1, .int p1), (2, .int p2), (3, .int p3), (4, .int p4)] := hl
    have L26 : ∀ (n26 : Nat) (locs26 : List Loc) (v23 : Int32) (z23 : Int) (v24 : Int32) (z24 : Int) (v25 : Int32) (z25 : Int) (ls : Array Slot), (24 - z23).toNat < n26 → v23.toInt = z23 → v24.toInt = z24 → v25.toInt = z25 → z23 ≤ 24 → 0 ≤ z23 → 0 ≤ z25 → z25 ≤ 12 → 0 ≤ z24 → z24 ≤ 12 → z23 + a1 + a2 ≤ z25 + z24 → TG a3 a4 25 a1 a2 = z23 + TG a3 a4 (25 - z23).toNat z25 z24 → va_S (AΓ Γ) H0 H0 locs26 → lv_has ls 9 [(7, .int v23), (6, .int v24), (5, .int v25), (0, .ref h0), (1, .int p1), (2, .int p2), (3, .int p3), (4, .int p4)] → W p l e (rmL 2) s m args below meth c H0 locs26 0 0 Qz (F0 m 26 ls []) := by
      intro n26
      induction n26 with
      | zero => intro locs26 v23 z23 v24 z24 v25 z25 ls hm26 ev23 ev24 ev25 iv26_0 iv26_1 iv26_2 iv26_3 iv26_4 iv26_5 iv26_6 iv26_7 hS26 hl; exact absurd hm26 (Nat.not_lt_zero _)
      | succ n26 ih26 =>
        intro locs26 v23 z23 v24 z24 v25 z25 ls hm26 ev23 ev24 ev25 iv26_0 iv26_1 iv26_2 iv26_3 iv26_4 iv26_5 iv26_6 iv26_7 hS26 hl
        have htg := iv26_7
        refine lv_iload hx hb dX11_turns_26 (lv_at hl 0 rfl) ?_
        refine lv_bipush (v := 24) hx hb dX11_turns_28 rfl ?_
        refine q_icmp_ge hx hb (a := z23) (b := 24) ev23 (by decide) (tgt := 74) dX11_turns_30 rfl (fun c27 => ?_) (fun c27 => ?_)
        · refine lv_aload_n hx hb dX11_turns_74 rfl (lv_at hl 3 rfl) ?_
          refine lv_iload hx hb dX11_turns_75 (lv_at hl 0 rfl) ?_
          refine q_goI (q_runV (As := [.int v23]) (rest := []) E hC0 hS26 (m_X11_answer l X Γ H0 hC0 h0 g0 v23 (a1 := z23) ev23) cw_X11_answer cl_RX11_191 g0 ⟨rfl, rfl⟩ rfl hl.1 rfl (Nat.zero_le _) (by decide) dX11_turns_77) hS26 (fun v28 H28 locs28 hr28 hC28 hS28 => ?_)
          obtain ⟨hp28, hr28⟩ := hr28
          have hKp28 := hKp0.tr (hp28.mono rfl)
          have f28_0 := hr28
          have han := f28_0
          have htz : TG a3 a4 (25 - z23).toNat z25 z24 = 0 := by first | exact TG_stop (by omega) | exact TG_stop (rT_top (by omega) (by omega) (by omega))
          have hpost : ((v28 : Int32).toInt = TG a3 a4 25 a1 a2 ∧ 0 ≤ a1 ∧ a1 ≤ 12 ∧ 0 ≤ a2 ∧ a2 ≤ 12 ∧ 1 ≤ a3 ∧ a3 ≤ 4 ∧ 0 ≤ a4 ∧ a4 ≤ 4) ∨ ((v28 : Int32).toInt = -1 ∧ (a1 < 0 ∨ 12 < a1 ∨ a2 < 0 ∨ 12 < a2 ∨ a3 < 1 ∨ 4 < a3 ∨ a4 < 0 ∨ 4 < a4)) := Or.inl ⟨by rw [han, htg, htz]; omega, by omega, by omega, by omega, by omega, by omega, by omega, by omega, by omega⟩
          have c29 : v28.toInt = v28.toInt := rfl
          exact ret v28 H28 locs28 _ _ dX11_turns_80 ⟨hKp28, hpost⟩ hC28 hS28
        · refine lv_iload hx hb dX11_turns_33 (lv_at hl 2 rfl) ?_
          refine lv_iload hx hb dX11_turns_35 (lv_at hl 1 rfl) ?_
          refine lv_iload_n hx hb dX11_turns_37 rfl (lv_at hl 6 rfl) ?_
          refine lv_iload hx hb dX11_turns_38 (lv_at hl 7 rfl) ?_
          refine q_goIp (q_runS (As := [.int v25, .int v24, .int p3, .int p4]) (rest := []) E hS26 (m_X11_raisedTo l X Γ H0 hC0 v25 (a0 := z25) ev25 v24 (a1 := z24) ev24 p3 (a2 := a3) e3 p4 (a3 := a4) e4 (by omega) (by omega) (by omega) (by omega) (by omega) (by omega) (by omega) (by omega)) cw_X11_raisedTo cl_RX11_334 rfl hl.1 rfl (Nat.zero_le _) (by decide) dX11_turns_40) hS26 (fun v30 locs30 hr30 hS30 => ?_)
          obtain ⟨f30_0, f30_1, f30_2, f30_3⟩ := hr30
          have hr1 : v30.toInt = rT z25 z24 a3 a4 := by unfold rT; (repeat' split) <;> omega
          refine lv_iload hx hb dX11_turns_43 (lv_at hl 2 rfl) ?_
          refine q_icmp_le hx hb (a := v30.toInt) (b := z25) rfl ev25 (tgt := 74) dX11_turns_45 rfl (fun c31 => ?_) (fun c31 => ?_)
          · refine lv_aload_n hx hb dX11_turns_74 rfl (lv_at hl 3 rfl) ?_
            refine lv_iload hx hb dX11_turns_75 (lv_at hl 0 rfl) ?_
            refine q_goI (q_runV (As := [.int v23]) (rest := []) E hC0 hS30 (m_X11_answer l X Γ H0 hC0 h0 g0 v23 (a1 := z23) ev23) cw_X11_answer cl_RX11_191 g0 ⟨rfl, rfl⟩ rfl hl.1 rfl (Nat.zero_le _) (by decide) dX11_turns_77) hS30 (fun v32 H32 locs32 hr32 hC32 hS32 => ?_)
            obtain ⟨hp32, hr32⟩ := hr32
            have hKp32 := hKp0.tr (hp32.mono rfl)
            have f32_0 := hr32
            have han := f32_0
            have htz : TG a3 a4 (25 - z23).toNat z25 z24 = 0 := by first | exact TG_stop (by omega) | exact TG_stop (rT_top (by omega) (by omega) (by omega))
            have hpost : ((v32 : Int32).toInt = TG a3 a4 25 a1 a2 ∧ 0 ≤ a1 ∧ a1 ≤ 12 ∧ 0 ≤ a2 ∧ a2 ≤ 12 ∧ 1 ≤ a3 ∧ a3 ≤ 4 ∧ 0 ≤ a4 ∧ a4 ≤ 4) ∨ ((v32 : Int32).toInt = -1 ∧ (a1 < 0 ∨ 12 < a1 ∨ a2 < 0 ∨ 12 < a2 ∨ a3 < 1 ∨ 4 < a3 ∨ a4 < 0 ∨ 4 < a4)) := Or.inl ⟨by rw [han, htg, htz]; omega, by omega, by omega, by omega, by omega, by omega, by omega, by omega, by omega⟩
            have c33 : v32.toInt = v32.toInt := rfl
            exact ret v32 H32 locs32 _ _ dX11_turns_80 ⟨hKp32, hpost⟩ hC32 hS32
          · refine lv_iload hx hb dX11_turns_48 (lv_at hl 2 rfl) ?_
            refine lv_iload hx hb dX11_turns_50 (lv_at hl 1 rfl) ?_
            refine lv_iload_n hx hb dX11_turns_52 rfl (lv_at hl 6 rfl) ?_
            refine lv_iload hx hb dX11_turns_53 (lv_at hl 7 rfl) ?_
            refine q_goIp (q_runS (As := [.int v25, .int v24, .int p3, .int p4]) (rest := []) E hS30 (m_X11_raisedTo l X Γ H0 hC0 v25 (a0 := z25) ev25 v24 (a1 := z24) ev24 p3 (a2 := a3) e3 p4 (a3 := a4) e4 (by omega) (by omega) (by omega) (by omega) (by omega) (by omega) (by omega) (by omega)) cw_X11_raisedTo cl_RX11_334 rfl hl.1 rfl (Nat.zero_le _) (by decide) dX11_turns_55) hS30 (fun v34 locs34 hr34 hS34 => ?_)
            obtain ⟨f34_0, f34_1, f34_2, f34_3⟩ := hr34
            have hr2 : v34.toInt = rT z25 z24 a3 a4 := by unfold rT; (repeat' split) <;> omega
            have hst := TG_step (n := z23) (o := z25) (p := z24) (m := a3) (k := a4) (by omega) (by omega) (by omega)
            refine lv_istore hx hb dX11_turns_58 hl (by decide) rfl (fun ls hl => ?_)
            replace hl : lv_has ls 9 [(8, .int v34), (7, .int v23), (6, .int v24), (5, .int v25), (0, .ref h0), (1, .int p1), (2, .int p2), (3, .int p3), (4, .int p4)] := hl
            refine lv_iload hx hb dX11_turns_60 (lv_at hl 2 rfl) ?_
            refine lv_istore hx hb dX11_turns_62 hl (by decide) rfl (fun ls hl => ?_)
            replace hl : lv_has ls 9 [(5, .int v24), (8, .int v34), (7, .int v23), (6, .int v24), (0, .ref h0), (1, .int p1), (2, .int p2), (3, .int p3), (4, .int p4)] := hl
            refine lv_iload hx hb dX11_turns_64 (lv_at hl 1 rfl) ?_
            refine lv_istore hx hb dX11_turns_66 hl (by decide) rfl (fun ls hl => ?_)
            replace hl : lv_has ls 9 [(6, .int v34), (5, .int v24), (8, .int v34), (7, .int v23), (0, .ref h0), (1, .int p1), (2, .int p2), (3, .int p3), (4, .int p4)] := hl
            obtain ⟨v35, ev35⟩ : ∃ z, z = v23 + Int32.ofInt 1 := ⟨_, rfl⟩
            have ev35i : v35.toInt = (z23 + 1) := i_add ev35 ev23 (by decide) (by omega) (by omega)
            refine lv_iinc hx hb dX11_turns_68 hl (k := 3) rfl ev35.symm (by decide) rfl (fun ls hl => ?_)
            replace hl : lv_has ls 9 [(7, .int v35), (6, .int v34), (5, .int v24), (8, .int v34), (0, .ref h0), (1, .int p1), (2, .int p2), (3, .int p3), (4, .int p4)] := hl
            refine lv_goto (tgt := 26) hx hb dX11_turns_71 rfl ?_
            exact ih26 locs34 v35 ((z23 + 1)) v34 (v34.toInt) v24 (z24) ls (by omega) ev35i rfl ev24 (by omega) (by omega) (by omega) (by omega) (by omega) (by omega) (by omega) (by rw [htg, hst, hr2]; omega) hS34 (lv_sub hl [0, 1, 2, 4, 5, 6, 7, 8] rfl)
    exact L26 _ locs21 0 0 p2 a2 p1 a1 ls (Nat.lt_succ_self _) (by decide) e2 e1 (by omega) (by omega) (by omega) (by omega) (by omega) (by omega) (by omega) (by show _ = (0 : Int) + TG a3 a4 25 a1 a2; omega) hS21 hl
  · refine q_if_ne hx hb (a := 0) (by decide) (tgt := 17) dX11_turns_8 rfl (fun c36 => absurd c36 (by omega)) (fun c36 => ?_)
    refine lv_aload_n hx hb dX11_turns_11 rfl (lv_at hl 0 rfl) ?_
    refine lv_iconst (v := 5) hx hb dX11_turns_12 rfl ?_
    refine q_goI (q_runV (As := [.int 5]) (rest := []) E hC0 hS21 (m_X11_refuse l X Γ H0 hC0 h0 g0 5 (a1 := 5) (by decide)) cw_X11_refuse cl_RX11_146 g0 ⟨rfl, rfl⟩ rfl hl.1 rfl (Nat.zero_le _) (by decide) dX11_turns_13) hS21 (fun v37 H37 locs37 hr37 hC37 hS37 => ?_)
    obtain ⟨hp37, hr37⟩ := hr37
    have hKp37 := hKp0.tr (hp37.mono rfl)
    have f37_0 := hr37
    have hrf := f37_0
    have hpost : ((v37 : Int32).toInt = TG a3 a4 25 a1 a2 ∧ 0 ≤ a1 ∧ a1 ≤ 12 ∧ 0 ≤ a2 ∧ a2 ≤ 12 ∧ 1 ≤ a3 ∧ a3 ≤ 4 ∧ 0 ≤ a4 ∧ a4 ≤ 4) ∨ ((v37 : Int32).toInt = -1 ∧ (a1 < 0 ∨ 12 < a1 ∨ a2 < 0 ∨ 12 < a2 ∨ a3 < 1 ∨ 4 < a3 ∨ a4 < 0 ∨ 4 < a4)) := Or.inr ⟨hrf, by omega⟩
    have c38 : v37.toInt = v37.toInt := rfl
    exact ret v37 H37 locs37 _ _ dX11_turns_16 ⟨hKp37, hpost⟩ hC37 hS37
set_option maxRecDepth 100000 in
set_option maxHeartbeats 4000000 in
theorem m_X1_canBe (l : Launch) (X : xW) (Γ : Nat → Option Nat) (H0 : Heap) (hC0 : Conf X Γ H0) (h0 : Nat) (g0 : Γ h0 = some 9) (h1 : Nat) (g1 : Γ h1 = some 1) (r0 : 4 ≤ (sI H0 h1 (X.1.2 6 2)).toInt) : Ctr l X Γ yX1_canBe cX1_canBe 5 (some .boolean) 2 [.ref h0, .ref h1] H0 (QI X Γ (fun v H1 => H1 = H0 ∧ ((v = 1 ∧ (CBn (nuN X H0 h1))) ∨ (v = 0 ∧ (¬ CBn (nuN X H0 h1)))))) := by
  refine q_enterZ (own := "SnowForts$Odds") (by decide) rfl (Nat.le_of_ble_eq_true rfl) ?_
  intro p e s m args below meth c ls Qz E hl ret hS0
  have hx := E.1; have hb := E.2.1
  have hl : lv_has ls 5 [(0, .ref h0), (1, .ref h1)] := hl
  have hnu := nuA_some hC0 g1
  refine lv_aload_n hx hb dX1_canBe_0 rfl (lv_at hl 1 rfl) ?_
  refine lv_iconst (v := 4) hx hb dX1_canBe_1 rfl ?_
  refine lv_bipush (v := 16) hx hb dX1_canBe_2 rfl ?_
  refine q_goIp (q_runV (As := [.int 4, .int 16]) (rest := []) E hC0 hS0 (m_X6_holdsWithin l X Γ H0 hC0 h1 g1 4 (a1 := 4) (by decide) 16 (a2 := 16) (by decide)) cw_X6_holdsWithin cl_RX1_17 g1 ⟨rfl, rfl⟩ rfl hl.1 rfl (Nat.zero_le _) (by decide) dX1_canBe_4) hS0 (fun v21 locs21 hr21 hS21 => ?_)
  rcases hr21 with ⟨rfl, f21a⟩ | ⟨rfl, f21b⟩
  · refine q_if_ne hx hb (a := 1) (by decide) (tgt := 12) dX1_canBe_7 rfl (fun c22 => ?_) (fun c22 => absurd c22 (by omega))
    have hw : HW X H0 h1 4 16 := by assumption
    refine lv_lconst (v := 0) hx hb dX1_canBe_12 rfl ?_
    refine lv_lstore_n hx hb dX1_canBe_13 rfl hl (by decide) rfl (fun ls hl => ?_)
    replace hl : lv_has ls 5 [(2, .long 0), (0, .ref h0), (1, .ref h1)] := hl
    refine lv_iconst (v := 0) hx hb dX1_canBe_14 rfl ?_
    refine lv_istore hx hb dX1_canBe_15 hl (by decide) rfl (fun ls hl => ?_)
    replace hl : lv_has ls 5 [(4, .int 0), (2, .long 0), (0, .ref h0), (1, .ref h1)] := hl
    have L17 : ∀ (n25 : Nat) (locs25 : List Loc) (v23 : Int32) (z23 : Int) (v24 : Int64) (z24 : Int) (ls : Array Slot), (4 - z23).toNat < n25 → v23.toInt = z23 → v24.toInt = z24 → z23 ≤ 4 → 0 ≤ z23 → 0 ≤ z24 → z24 ≤ 16 * z23 → z24 = SU (nuN X H0 h1) z23 → va_S (AΓ Γ) H0 H0 locs25 → lv_has ls 5 [(4, .int v23), (2, .long v24), (0, .ref h0), (1, .ref h1)] → W p l e (rmL 2) s m args below meth c H0 locs25 0 0 Qz (F0 m 17 ls []) := by
      intro n25
      induction n25 with
      | zero => intro locs25 v23 z23 v24 z24 ls hm25 ev23 ev24 iv25_0 iv25_1 iv25_2 iv25_3 iv25_4 hS25 hl; exact absurd hm25 (Nat.not_lt_zero _)
      | succ n25 ih25 =>
        intro locs25 v23 z23 v24 z24 ls hm25 ev23 ev24 iv25_0 iv25_1 iv25_2 iv25_3 iv25_4 hS25 hl
        have hsu := iv25_4
        refine lv_iload hx hb dX1_canBe_17 (lv_at hl 0 rfl) ?_
        refine lv_iconst (v := 4) hx hb dX1_canBe_19 rfl ?_
        refine q_icmp_ge hx hb (a := z23) (b := 4) ev23 (by decide) (tgt := 38) dX1_canBe_20 rfl (fun c26 => ?_) (fun c26 => ?_)
        · have hs4 : z24 = SU (nuN X H0 h1) 4 := by rw [show (4 : Int) = z23 from by omega]; exact hsu
          have hs5 := SU_4 (n := nuN X H0 h1)
          refine lv_lload_n hx hb dX1_canBe_38 rfl (lv_at hl 1 rfl) ?_
          refine lv_ldc2 (v := 16) hx hb E.2.2.2.1 (E.2.2.2.2.1 _ w_1195) dX1_canBe_39 ?_
          refine q_lcmp_ne hx hb (a := z24) (b := 16) ev24 (show (16 : Int64).toInt = 16 from by decide) (tgt := 50) dX1_canBe_42 dX1_canBe_43 rfl (fun c27 => ?_) (fun c27 => ?_)
          · have hncb : ¬ CBn (nuN X H0 h1) := fun h => by have h2 := h.2; omega
            refine lv_iconst (v := 0) hx hb dX1_canBe_50 rfl ?_
            exact ret 0 H0 locs25 _ _ dX1_canBe_51 (Or.inl rfl) ⟨rfl, Or.inr ⟨rfl, hncb⟩⟩ hC0 hS25
          · have hcb : CBn (nuN X H0 h1) := ⟨fun i hi => (hw i (by omega)).2, by omega⟩
            refine lv_iconst (v := 1) hx hb dX1_canBe_46 rfl ?_
            refine lv_goto (tgt := 51) hx hb dX1_canBe_47 rfl ?_
            exact ret 1 H0 locs25 _ _ dX1_canBe_51 (Or.inr rfl) ⟨rfl, Or.inl ⟨rfl, hcb⟩⟩ hC0 hS25
        · refine lv_lload_n hx hb dX1_canBe_23 rfl (lv_at hl 1 rfl) ?_
          refine lv_aload_n hx hb dX1_canBe_24 rfl (lv_at hl 3 rfl) ?_
          refine lv_iload hx hb dX1_canBe_25 (lv_at hl 0 rfl) ?_
          refine q_goJp (q_runV (As := [.int v23]) (rest := [.long v24]) E hC0 hS25 (m_X6_numberAt l X Γ H0 hC0 h1 g1 v23 (a1 := z23) ev23) cw_X6_numberAt cl_RX1_23 g1 ⟨rfl, rfl⟩ rfl hl.1 rfl (show _ ≤ _ from by simp [Value.category]) (by decide) dX1_canBe_27) hS25 (fun v28 locs28 hr28 hS28 => ?_)
          have f28_0 := hr28
          have hvi : v28.toInt = nuN X H0 h1 (z23 : Int).toNat := congrArg Int64.toInt (f28_0 _ hnu (by omega) (by omega))
          have hvr := hw (z23 : Int).toNat (by omega)
          refine lv_ladd hx hb dX1_canBe_30 (lv_topl (fun v29 ev29 => ?_))
          have ev29i : v29.toInt = (z24 + v28.toInt) := l_add ev29 ev24 rfl (by omega) (by omega)
          refine lv_lstore_n hx hb dX1_canBe_31 rfl hl (by decide) rfl (fun ls hl => ?_)
          replace hl : lv_has ls 5 [(2, .long v29), (4, .int v23), (0, .ref h0), (1, .ref h1)] := hl
          have hsun := SU_step (n := nuN X H0 h1) (z := z23) (by omega) (by omega)
          obtain ⟨v30, ev30⟩ : ∃ z, z = v23 + Int32.ofInt 1 := ⟨_, rfl⟩
          have ev30i : v30.toInt = (z23 + 1) := i_add ev30 ev23 (by decide) (by omega) (by omega)
          refine lv_iinc hx hb dX1_canBe_32 hl (k := 1) rfl ev30.symm (by decide) rfl (fun ls hl => ?_)
          replace hl : lv_has ls 5 [(4, .int v30), (2, .long v29), (0, .ref h0), (1, .ref h1)] := hl
          refine lv_goto (tgt := 17) hx hb dX1_canBe_35 rfl ?_
          exact ih25 locs28 v30 ((z23 + 1)) v29 ((z24 + v28.toInt)) ls (by omega) ev30i ev29i (by omega) (by omega) (by omega) (by omega) (by omega) hS28 hl
    exact L17 _ locs21 0 0 0 0 ls (Nat.lt_succ_self _) (by decide) (show (0 : Int64).toInt = 0 from by decide) (by omega) (by omega) (by omega) (by omega) (SU_0.symm) hS21 hl
  · refine q_if_ne hx hb (a := 0) (by decide) (tgt := 12) dX1_canBe_7 rfl (fun c31 => absurd c31 (by omega)) (fun c31 => ?_)
    refine lv_iconst (v := 0) hx hb dX1_canBe_10 rfl ?_
    have hncb : ¬ CBn (nuN X H0 h1) := CBn.nw (by assumption) (by omega)
    exact ret 0 H0 locs21 _ _ dX1_canBe_11 (Or.inl rfl) ⟨rfl, Or.inr ⟨rfl, hncb⟩⟩ hC0 hS21
set_option maxRecDepth 100000 in
set_option maxHeartbeats 4000000 in
theorem m_X1_casesOfNone (l : Launch) (X : xW) (Γ : Nat → Option Nat) (H0 : Heap) (hC0 : Conf X Γ H0) (h0 : Nat) (g0 : Γ h0 = some 9) (h1 : Nat) (g1 : Γ h1 = some 1) : Ctr l X Γ yX1_casesOfNone cX1_casesOfNone 6 (some .long) 2 [.ref h0, .ref h1] H0 (QJ X Γ (fun v H1 => H1 = H0 ∧ (True))) := by
  refine q_enterJ (own := "SnowForts$Odds") (by decide) rfl (Nat.le_of_ble_eq_true rfl) ?_
  intro p e s m args below meth c ls Qz E hl ret hS0
  have hx := E.1; have hb := E.2.1
  have hl : lv_has ls 6 [(0, .ref h0), (1, .ref h1)] := hl
  refine lv_lconst (v := 0) hx hb dX1_casesOfNone_0 rfl ?_
  refine lv_lstore_n hx hb dX1_casesOfNone_1 rfl hl (by decide) rfl (fun ls hl => ?_)
  replace hl : lv_has ls 6 [(2, .long 0), (0, .ref h0), (1, .ref h1)] := hl
  refine lv_iconst (v := 0) hx hb dX1_casesOfNone_2 rfl ?_
  refine lv_istore hx hb dX1_casesOfNone_3 hl (by decide) rfl (fun ls hl => ?_)
  replace hl : lv_has ls 6 [(4, .int 0), (2, .long 0), (0, .ref h0), (1, .ref h1)] := hl
  have L5 : ∀ (n23 : Nat) (locs23 : List Loc) (v21 : Int32) (z21 : Int) (v22 : Int64) (z22 : Int) (ls : Array Slot), (4 - z21).toNat < n23 → v21.toInt = z21 → v22.toInt = z22 → z21 ≤ 4 → 0 ≤ z21 → va_S (AΓ Γ) H0 H0 locs23 → lv_has ls 6 [(4, .int v21), (2, .long v22), (0, .ref h0), (1, .ref h1)] → W p l e (rmL 2) s m args below meth c H0 locs23 0 0 Qz (F0 m 5 ls []) := by
    intro n23
    induction n23 with
    | zero => intro locs23 v21 z21 v22 z22 ls hm23 ev21 ev22 iv23_0 iv23_1 hS23 hl; exact absurd hm23 (Nat.not_lt_zero _)
    | succ n23 ih23 =>
      intro locs23 v21 z21 v22 z22 ls hm23 ev21 ev22 iv23_0 iv23_1 hS23 hl
      refine lv_iload hx hb dX1_casesOfNone_5 (lv_at hl 0 rfl) ?_
      refine lv_iconst (v := 4) hx hb dX1_casesOfNone_7 rfl ?_
      refine q_icmp_ge hx hb (a := z21) (b := 4) ev21 (by decide) (tgt := 50) dX1_casesOfNone_8 rfl (fun c24 => ?_) (fun c24 => ?_)
      · refine lv_lload_n hx hb dX1_casesOfNone_50 rfl (lv_at hl 1 rfl) ?_
        exact ret v22 H0 locs23 _ _ dX1_casesOfNone_51 ⟨rfl, trivial⟩ hC0 hS23
      · refine lv_iconst (v := 0) hx hb dX1_casesOfNone_11 rfl ?_
        refine lv_istore hx hb dX1_casesOfNone_12 hl (by decide) rfl (fun ls hl => ?_)
        replace hl : lv_has ls 6 [(5, .int 0), (4, .int v21), (2, .long v22), (0, .ref h0), (1, .ref h1)] := hl
        have L14 : ∀ (n27 : Nat) (locs27 : List Loc) (v25 : Int32) (z25 : Int) (v26 : Int64) (z26 : Int) (ls : Array Slot), (z21 + 1 - z25).toNat < n27 → v25.toInt = z25 → v26.toInt = z26 → 0 ≤ z25 → va_S (AΓ Γ) H0 H0 locs27 → lv_has ls 6 [(5, .int v25), (4, .int v21), (2, .long v26), (0, .ref h0), (1, .ref h1)] → W p l e (rmL 2) s m args below meth c H0 locs27 0 0 Qz (F0 m 14 ls []) := by
          intro n27
          induction n27 with
          | zero => intro locs27 v25 z25 v26 z26 ls hm27 ev25 ev26 iv27_0 hS27 hl; exact absurd hm27 (Nat.not_lt_zero _)
          | succ n27 ih27 =>
            intro locs27 v25 z25 v26 z26 ls hm27 ev25 ev26 iv27_0 hS27 hl
            refine lv_iload hx hb dX1_casesOfNone_14 (lv_at hl 0 rfl) ?_
            refine lv_iload hx hb dX1_casesOfNone_16 (lv_at hl 1 rfl) ?_
            refine q_icmp_gt hx hb (a := z25) (b := z21) ev25 ev21 (tgt := 44) dX1_casesOfNone_18 rfl (fun c28 => ?_) (fun c28 => ?_)
            · obtain ⟨v29, ev29⟩ : ∃ z, z = v21 + Int32.ofInt 1 := ⟨_, rfl⟩
              have ev29i : v29.toInt = (z21 + 1) := i_add ev29 ev21 (by decide) (by omega) (by omega)
              refine lv_iinc hx hb dX1_casesOfNone_44 hl (k := 1) rfl ev29.symm (by decide) rfl (fun ls hl => ?_)
              replace hl : lv_has ls 6 [(4, .int v29), (5, .int v25), (2, .long v26), (0, .ref h0), (1, .ref h1)] := hl
              refine lv_goto (tgt := 5) hx hb dX1_casesOfNone_47 rfl ?_
              exact ih23 locs27 v29 ((z21 + 1)) v26 (z26) ls (by omega) ev29i ev26 (by omega) (by omega) hS27 (lv_sub hl [0, 2, 3, 4] rfl)
            · refine lv_lload_n hx hb dX1_casesOfNone_21 rfl (lv_at hl 2 rfl) ?_
              refine lv_aload_n hx hb dX1_casesOfNone_22 rfl (lv_at hl 4 rfl) ?_
              refine lv_iload hx hb dX1_casesOfNone_23 (lv_at hl 1 rfl) ?_
              refine q_goJp (q_runV (As := [.int v21]) (rest := [.long v26]) E hC0 hS27 (m_X6_numberAt l X Γ H0 hC0 h1 g1 v21 (a1 := z21) ev21) cw_X6_numberAt cl_RX1_23 g1 ⟨rfl, rfl⟩ rfl hl.1 rfl (show _ ≤ _ from by simp [Value.category]) (by decide) dX1_casesOfNone_25) hS27 (fun v30 locs30 hr30 hS30 => ?_)
              have f30_0 := hr30
              refine lv_aload_n hx hb dX1_casesOfNone_28 rfl (lv_at hl 3 rfl) ?_
              refine q_getR E hC0 g0 fa_RX1_13 dX1_casesOfNone_29 (fun q31 eq31 gq31 => ?_)
              refine lv_iload hx hb dX1_casesOfNone_32 (lv_at hl 0 rfl) ?_
              refine q_lald2 E hC0 gq31 rfl rfl (fun _ => rfl) (a := z25) ev25 (by omega) (by omega) dX1_casesOfNone_34 (fun v32 ev32 => ?_)
              refine lv_lmul hx hb dX1_casesOfNone_35 (lv_topl (fun v33 ev33 => ?_))
              refine lv_ladd hx hb dX1_casesOfNone_36 (lv_topl (fun v34 ev34 => ?_))
              refine lv_lstore_n hx hb dX1_casesOfNone_37 rfl hl (by decide) rfl (fun ls hl => ?_)
              replace hl : lv_has ls 6 [(2, .long v34), (5, .int v25), (4, .int v21), (0, .ref h0), (1, .ref h1)] := hl
              obtain ⟨v35, ev35⟩ : ∃ z, z = v25 + Int32.ofInt 1 := ⟨_, rfl⟩
              have ev35i : v35.toInt = (z25 + 1) := i_add ev35 ev25 (by decide) (by omega) (by omega)
              refine lv_iinc hx hb dX1_casesOfNone_38 hl (k := 1) rfl ev35.symm (by decide) rfl (fun ls hl => ?_)
              replace hl : lv_has ls 6 [(5, .int v35), (2, .long v34), (4, .int v21), (0, .ref h0), (1, .ref h1)] := hl
              refine lv_goto (tgt := 14) hx hb dX1_casesOfNone_41 rfl ?_
              exact ih27 locs30 v35 ((z25 + 1)) v34 (v34.toInt) ls (by omega) ev35i rfl (by omega) hS30 (lv_sub hl [0, 2, 1, 3, 4] rfl)
        exact L14 _ locs23 0 0 v22 z22 ls (Nat.lt_succ_self _) (by decide) ev22 (by omega) hS23 hl
  exact L5 _ [] 0 0 0 0 ls (Nat.lt_succ_self _) (by decide) (show (0 : Int64).toInt = 0 from by decide) (by omega) (by omega) hS0 hl
set_option maxRecDepth 100000 in
set_option maxHeartbeats 4000000 in
theorem m_X1_casesOf (l : Launch) (X : xW) (Γ : Nat → Option Nat) (H0 : Heap) (hC0 : Conf X Γ H0) (h0 : Nat) (g0 : Γ h0 = some 9) (p1 : Int32) {a1 : Int} (e1 : p1.toInt = a1) (h2 : Nat) (g2 : Γ h2 = some 1) (r0 : 0 ≤ a1) (r1 : a1 ≤ 99) : Ctr l X Γ yX1_casesOf cX1_casesOf 6 (some .long) 2 [.ref h0, .int p1, .ref h2] H0 (QJ X Γ (fun v H1 => H1 = H0 ∧ (True))) := by
  refine q_enterJ (own := "SnowForts$Odds") (by decide) rfl (Nat.le_of_ble_eq_true rfl) ?_
  intro p e s m args below meth c ls Qz E hl ret hS0
  have hx := E.1; have hb := E.2.1
  have hl : lv_has ls 6 [(0, .ref h0), (1, .int p1), (2, .ref h2)] := hl
  refine lv_lconst (v := 0) hx hb dX1_casesOf_0 rfl ?_
  refine lv_lstore_n hx hb dX1_casesOf_1 rfl hl (by decide) rfl (fun ls hl => ?_)
  replace hl : lv_has ls 6 [(3, .long 0), (0, .ref h0), (1, .int p1), (2, .ref h2)] := hl
  refine lv_iconst (v := 0) hx hb dX1_casesOf_2 rfl ?_
  refine lv_istore hx hb dX1_casesOf_3 hl (by decide) rfl (fun ls hl => ?_)
  replace hl : lv_has ls 6 [(5, .int 0), (3, .long 0), (0, .ref h0), (1, .int p1), (2, .ref h2)] := hl
  have L5 : ∀ (n23 : Nat) (locs23 : List Loc) (v21 : Int32) (z21 : Int) (v22 : Int64) (z22 : Int) (ls : Array Slot), (4 - z21).toNat < n23 → v21.toInt = z21 → v22.toInt = z22 → z21 ≤ 4 → 0 ≤ z21 → va_S (AΓ Γ) H0 H0 locs23 → lv_has ls 6 [(5, .int v21), (3, .long v22), (0, .ref h0), (1, .int p1), (2, .ref h2)] → W p l e (rmL 2) s m args below meth c H0 locs23 0 0 Qz (F0 m 5 ls []) := by
    intro n23
    induction n23 with
    | zero => intro locs23 v21 z21 v22 z22 ls hm23 ev21 ev22 iv23_0 iv23_1 hS23 hl; exact absurd hm23 (Nat.not_lt_zero _)
    | succ n23 ih23 =>
      intro locs23 v21 z21 v22 z22 ls hm23 ev21 ev22 iv23_0 iv23_1 hS23 hl
      refine lv_iload hx hb dX1_casesOf_5 (lv_at hl 0 rfl) ?_
      refine lv_iconst (v := 4) hx hb dX1_casesOf_7 rfl ?_
      refine q_icmp_ge hx hb (a := z21) (b := 4) ev21 (by decide) (tgt := 45) dX1_casesOf_8 rfl (fun c24 => ?_) (fun c24 => ?_)
      · refine lv_lload_n hx hb dX1_casesOf_45 rfl (lv_at hl 1 rfl) ?_
        exact ret v22 H0 locs23 _ _ dX1_casesOf_46 ⟨rfl, trivial⟩ hC0 hS23
      · refine lv_iload_n hx hb dX1_casesOf_11 rfl (lv_at hl 3 rfl) ?_
        refine lv_iload hx hb dX1_casesOf_12 (lv_at hl 0 rfl) ?_
        refine lv_iadd hx hb dX1_casesOf_14 (lv_topi (fun v25 ev25 => ?_))
        have ev25i : v25.toInt = (a1 + z21) := i_add ev25 e1 ev21 (by omega) (by omega)
        refine lv_bipush (v := 100) hx hb dX1_casesOf_15 rfl ?_
        refine q_icmp_ge hx hb (a := (a1 + z21)) (b := 100) ev25i (by decide) (tgt := 45) dX1_casesOf_17 rfl (fun c26 => ?_) (fun c26 => ?_)
        · refine lv_lload_n hx hb dX1_casesOf_45 rfl (lv_at hl 1 rfl) ?_
          exact ret v22 H0 locs23 _ _ dX1_casesOf_46 ⟨rfl, trivial⟩ hC0 hS23
        · refine lv_lload_n hx hb dX1_casesOf_20 rfl (lv_at hl 1 rfl) ?_
          refine lv_aload_n hx hb dX1_casesOf_21 rfl (lv_at hl 4 rfl) ?_
          refine lv_iload hx hb dX1_casesOf_22 (lv_at hl 0 rfl) ?_
          refine q_goJp (q_runV (As := [.int v21]) (rest := [.long v22]) E hC0 hS23 (m_X6_numberAt l X Γ H0 hC0 h2 g2 v21 (a1 := z21) ev21) cw_X6_numberAt cl_RX1_23 g2 ⟨rfl, rfl⟩ rfl hl.1 rfl (show _ ≤ _ from by simp [Value.category]) (by decide) dX1_casesOf_24) hS23 (fun v27 locs27 hr27 hS27 => ?_)
          have f27_0 := hr27
          refine lv_aload_n hx hb dX1_casesOf_27 rfl (lv_at hl 2 rfl) ?_
          refine q_getR E hC0 g0 fa_RX1_13 dX1_casesOf_28 (fun q28 eq28 gq28 => ?_)
          refine lv_iload_n hx hb dX1_casesOf_31 rfl (lv_at hl 3 rfl) ?_
          refine lv_iload hx hb dX1_casesOf_32 (lv_at hl 0 rfl) ?_
          refine lv_iadd hx hb dX1_casesOf_34 (lv_topi (fun v29 ev29 => ?_))
          have ev29i : v29.toInt = (a1 + z21) := i_add ev29 e1 ev21 (by omega) (by omega)
          refine q_lald2 E hC0 gq28 rfl rfl (fun _ => rfl) (a := (a1 + z21)) ev29i (by omega) (by omega) dX1_casesOf_35 (fun v30 ev30 => ?_)
          refine lv_lmul hx hb dX1_casesOf_36 (lv_topl (fun v31 ev31 => ?_))
          refine lv_ladd hx hb dX1_casesOf_37 (lv_topl (fun v32 ev32 => ?_))
          refine lv_lstore_n hx hb dX1_casesOf_38 rfl hl (by decide) rfl (fun ls hl => ?_)
          replace hl : lv_has ls 6 [(3, .long v32), (5, .int v21), (0, .ref h0), (1, .int p1), (2, .ref h2)] := hl
          obtain ⟨v33, ev33⟩ : ∃ z, z = v21 + Int32.ofInt 1 := ⟨_, rfl⟩
          have ev33i : v33.toInt = (z21 + 1) := i_add ev33 ev21 (by decide) (by omega) (by omega)
          refine lv_iinc hx hb dX1_casesOf_39 hl (k := 1) rfl ev33.symm (by decide) rfl (fun ls hl => ?_)
          replace hl : lv_has ls 6 [(5, .int v33), (3, .long v32), (0, .ref h0), (1, .int p1), (2, .ref h2)] := hl
          refine lv_goto (tgt := 5) hx hb dX1_casesOf_42 rfl ?_
          exact ih23 locs27 v33 ((z21 + 1)) v32 (v32.toInt) ls (by omega) ev33i rfl (by omega) (by omega) hS27 hl
  exact L5 _ [] 0 0 0 0 ls (Nat.lt_succ_self _) (by decide) (show (0 : Int64).toInt = 0 from by decide) (by omega) (by omega) hS0 hl
set_option maxRecDepth 100000 in
set_option maxHeartbeats 4000000 in
theorem m_X1_spread (l : Launch) (X : xW) (Γ : Nat → Option Nat) (H0 : Heap) (hC0 : Conf X Γ H0) (h0 : Nat) (g0 : Γ h0 = some 9) (p1 : Int32) {a1 : Int} (e1 : p1.toInt = a1) (p2 : Int32) {a2 : Int} (e2 : p2.toInt = a2) (h3 : Nat) (g3 : Γ h3 = some 1) : Ctr l X Γ yX1_spread cX1_spread 6 none 3 [.ref h0, .int p1, .int p2, .ref h3] H0 (QV X Γ (fun H1 => Kp X Γ [0, 2, 3, 4, 5, 18, 21, 23, 25, 27] H0 H1)) := by
  refine q_enterV (own := "SnowForts$Odds") (by decide) rfl (Nat.le_of_ble_eq_true rfl) ?_
  intro p e s m args below meth c ls Qz E hl ret hS0
  have hx := E.1; have hb := E.2.1
  have hKp0 : Kp X Γ [0, 2, 3, 4, 5, 18, 21, 23, 25, 27] H0 H0 := Kp.rf
  have hl : lv_has ls 6 [(0, .ref h0), (1, .int p1), (2, .int p2), (3, .ref h3)] := hl
  refine lv_aload_n hx hb dX1_spread_0 rfl (lv_at hl 0 rfl) ?_
  refine q_getR E hC0 g0 fa_RX1_13 dX1_spread_1 (fun q21 eq21 gq21 => ?_)
  refine lv_lconst (v := 0) hx hb dX1_spread_4 rfl ?_
  refine q_goV (q_runS (As := [.ref q21, .long 0]) (rest := []) E hS0 (m_fillJ l X Γ H0 hC0 q21 gq21 (by decide) rfl rfl (fun _ => rfl) (by decide) 0) cw_J7_fill_d0a16 cl_RX1_29 rfl hl.1 rfl (Nat.zero_le _) (by decide) dX1_spread_5) hS0 (fun H22 locs22 U22 hC22 hS22 => ?_)
  obtain ⟨U22, F22⟩ := U22
  have hKp22 := Kp.upC gq21 rfl (by decide) rfl U22 hKp0
  refine lv_aload_n hx hb dX1_spread_8 rfl (lv_at hl 0 rfl) ?_
  refine lv_lconst (v := 1) hx hb dX1_spread_9 rfl ?_
  refine q_put E hC22 hS22 g0 fp_RX1_35 tv_J rfl rfl dX1_spread_10 (fun H23 locs23 hC23 hS23 U23 => ?_)
  have hKp23 := Kp.upO E g0 fp_RX1_35 rfl U23 hKp22
  refine lv_iload_n hx hb dX1_spread_13 rfl (lv_at hl 1 rfl) ?_
  refine lv_i2l (v := p1.toInt64) hx hb dX1_spread_14 rfl (lv_topl (fun v24 ev24 => ?_))
  have ev24i : v24.toInt = a1 := l_ofi ev24.symm e1
  refine lv_iconst (v := 0) hx hb dX1_spread_15 rfl ?_
  refine lv_bipush (v := 99) hx hb dX1_spread_16 rfl ?_
  refine q_goIp (q_runSN (As := [.long v24, .int 0, .int 99]) (rest := []) E hS23 (m_X11_isWithin l X Γ H23 hC23 v24 (a0 := a1) ev24i 0 (a1 := 0) (by decide) 99 (a2 := 99) (by decide)) cw_X11_isWithin cl_RX1_38 rfl hl.1 rfl (Nat.zero_le _) (by decide) dX1_spread_18) hS23 (fun v25 locs25 hr25 hS25 => ?_)
  rcases hr25 with ⟨rfl, f25a0, f25a1⟩ | ⟨rfl, f25b⟩
  · refine q_if_eq hx hb (a := 1) (by decide) (tgt := 31) dX1_spread_21 rfl (fun c26 => absurd c26 (by omega)) (fun c26 => ?_)
    refine lv_aload_n hx hb dX1_spread_24 rfl (lv_at hl 0 rfl) ?_
    refine q_getR E hC23 g0 fa_RX1_13 dX1_spread_25 (fun q27 eq27 gq27 => ?_)
    refine lv_iload_n hx hb dX1_spread_28 rfl (lv_at hl 1 rfl) ?_
    refine lv_lconst (v := 1) hx hb dX1_spread_29 rfl ?_
    refine q_last2 E hC23 hS25 gq27 (by decide) rfl rfl (fun _ => rfl) (a := a1) e1 (by omega) (by omega) dX1_spread_30 (fun H28 locs28 hC28 hS28 U28 => ?_)
    have hKp28 := Kp.upA gq27 rfl (by decide) rfl U28 hKp23
    refine lv_iconst (v := 0) hx hb dX1_spread_31 rfl ?_
    refine lv_istore hx hb dX1_spread_32 hl (by decide) rfl (fun ls hl => ?_)
    replace hl : lv_has ls 6 [(4, .int 0), (0, .ref h0), (1, .int p1), (2, .int p2), (3, .ref h3)] := hl
    have L34 : ∀ (n30 : Nat) (H30 : Heap) (locs30 : List Loc) (v29 : Int32) (z29 : Int) (ls : Array Slot), (a2 - z29).toNat < n30 → v29.toInt = z29 → 0 ≤ z29 → Conf X Γ H30 → va_S (AΓ Γ) H0 H30 locs30 → Kp X Γ [0, 2, 3, 4, 5, 18, 21, 23, 25, 27] H0 H30 → lv_has ls 6 [(4, .int v29), (0, .ref h0), (1, .int p1), (2, .int p2), (3, .ref h3)] → W p l e (rmL 3) s m args below meth c H30 locs30 0 0 Qz (F0 m 34 ls []) := by
      intro n30
      induction n30 with
      | zero => intro H30 locs30 v29 z29 ls hm30 ev29 iv30_0 hC30 hS30 hKp30 hl; exact absurd hm30 (Nat.not_lt_zero _)
      | succ n30 ih30 =>
        intro H30 locs30 v29 z29 ls hm30 ev29 iv30_0 hC30 hS30 hKp30 hl
        refine lv_iload hx hb dX1_spread_34 (lv_at hl 0 rfl) ?_
        refine lv_iload_n hx hb dX1_spread_36 rfl (lv_at hl 3 rfl) ?_
        have c31 := i_rng p2; rw [show p2.toInt = a2 from e2] at c31
        refine q_icmp_ge hx hb (a := z29) (b := a2) ev29 e2 (tgt := 101) dX1_spread_37 rfl (fun c32 => ?_) (fun c32 => ?_)
        · exact ret H30 locs30 _ _ dX1_spread_101 hKp30 hC30 hS30
        · refine lv_aload_n hx hb dX1_spread_40 rfl (lv_at hl 1 rfl) ?_
          refine lv_dup hx hb dX1_spread_41 rfl ?_
          refine q_getJ E hC30 g0 fa_RX1_35 dX1_spread_42 (fun v33 ev33 => ?_)
          refine lv_ldc2 (v := 16) hx hb E.2.2.2.1 (E.2.2.2.2.1 _ w_1195) dX1_spread_45 ?_
          refine lv_lmul hx hb dX1_spread_48 (lv_topl (fun v34 ev34 => ?_))
          refine q_put E hC30 hS30 g0 fp_RX1_35 tv_J rfl rfl dX1_spread_49 (fun H35 locs35 hC35 hS35 U35 => ?_)
          have hKp35 := Kp.upO E g0 fp_RX1_35 rfl U35 hKp30
          refine lv_iconst (v := 0) hx hb dX1_spread_52 rfl ?_
          refine lv_istore hx hb dX1_spread_53 hl (by decide) rfl (fun ls hl => ?_)
          replace hl : lv_has ls 6 [(5, .int 0), (4, .int v29), (0, .ref h0), (1, .int p1), (2, .int p2), (3, .ref h3)] := hl
          have L55 : ∀ (n37 : Nat) (H37 : Heap) (locs37 : List Loc) (v36 : Int32) (z36 : Int) (ls : Array Slot), (100 - z36).toNat < n37 → v36.toInt = z36 → z36 ≤ 100 → 0 ≤ z36 → Conf X Γ H37 → va_S (AΓ Γ) H0 H37 locs37 → Kp X Γ [0, 2, 3, 4, 5, 18, 21, 23, 25, 27] H0 H37 → lv_has ls 6 [(5, .int v36), (4, .int v29), (0, .ref h0), (1, .int p1), (2, .int p2), (3, .ref h3)] → W p l e (rmL 3) s m args below meth c H37 locs37 0 0 Qz (F0 m 55 ls []) := by
            intro n37
            induction n37 with
            | zero => intro H37 locs37 v36 z36 ls hm37 ev36 iv37_0 iv37_1 hC37 hS37 hKp37 hl; exact absurd hm37 (Nat.not_lt_zero _)
            | succ n37 ih37 =>
              intro H37 locs37 v36 z36 ls hm37 ev36 iv37_0 iv37_1 hC37 hS37 hKp37 hl
              refine lv_iload hx hb dX1_spread_55 (lv_at hl 0 rfl) ?_
              refine lv_bipush (v := 100) hx hb dX1_spread_57 rfl ?_
              refine q_icmp_ge hx hb (a := z36) (b := 100) ev36 (by decide) (tgt := 95) dX1_spread_59 rfl (fun c38 => ?_) (fun c38 => ?_)
              · obtain ⟨v39, ev39⟩ : ∃ z, z = v29 + Int32.ofInt 1 := ⟨_, rfl⟩
                have ev39i : v39.toInt = (z29 + 1) := i_add ev39 ev29 (by decide) (by omega) (by omega)
                refine lv_iinc hx hb dX1_spread_95 hl (k := 1) rfl ev39.symm (by decide) rfl (fun ls hl => ?_)
                replace hl : lv_has ls 6 [(4, .int v39), (5, .int v36), (0, .ref h0), (1, .int p1), (2, .int p2), (3, .ref h3)] := hl
                refine lv_goto (tgt := 34) hx hb dX1_spread_98 rfl ?_
                exact ih30 H37 locs37 v39 ((z29 + 1)) ls (by omega) ev39i (by omega) hC37 hS37 hKp37 (lv_sub hl [0, 2, 3, 4, 5] rfl)
              · refine lv_aload_n hx hb dX1_spread_62 rfl (lv_at hl 2 rfl) ?_
                refine q_getR E hC37 g0 fa_RX1_13 dX1_spread_63 (fun q40 eq40 gq40 => ?_)
                refine lv_iload hx hb dX1_spread_66 (lv_at hl 0 rfl) ?_
                refine lv_iload hx hb dX1_spread_68 (lv_at hl 0 rfl) ?_
                refine q_if_ne hx hb (a := z36) ev36 (tgt := 81) dX1_spread_70 rfl (fun c41 => ?_) (fun c41 => ?_)
                · refine lv_aload_n hx hb dX1_spread_81 rfl (lv_at hl 2 rfl) ?_
                  refine lv_iload hx hb dX1_spread_82 (lv_at hl 0 rfl) ?_
                  refine lv_aload_n hx hb dX1_spread_84 rfl (lv_at hl 5 rfl) ?_
                  refine q_goJp (q_runV (As := [.int v36, .ref h3]) (rest := [.int v36, .ref q40]) E hC37 hS37 (m_X1_casesOf l X Γ H37 hC37 h0 g0 v36 (a1 := z36) ev36 h3 g3 (by omega) (by omega)) cw_X1_casesOf cl_RX1_48 g0 ⟨rfl, rfl⟩ rfl hl.1 rfl (show _ ≤ _ from by simp [Value.category]) (by decide) dX1_spread_85) hS37 (fun v42 locs42 hr42 hS42 => ?_)
                  refine q_last2 E hC37 hS42 gq40 (by decide) rfl rfl (fun _ => rfl) (a := z36) ev36 (by omega) (by omega) dX1_spread_88 (fun H43 locs43 hC43 hS43 U43 => ?_)
                  have hKp43 := Kp.upA gq40 rfl (by decide) rfl U43 hKp37
                  obtain ⟨v44, ev44⟩ : ∃ z, z = v36 + Int32.ofInt 1 := ⟨_, rfl⟩
                  have ev44i : v44.toInt = (z36 + 1) := i_add ev44 ev36 (by decide) (by omega) (by omega)
                  refine lv_iinc hx hb dX1_spread_89 hl (k := 0) rfl ev44.symm (by decide) rfl (fun ls hl => ?_)
                  replace hl : lv_has ls 6 [(5, .int v44), (4, .int v29), (0, .ref h0), (1, .int p1), (2, .int p2), (3, .ref h3)] := hl
                  refine lv_goto (tgt := 55) hx hb dX1_spread_92 rfl ?_
                  exact ih37 H43 locs43 v44 ((z36 + 1)) ls (by omega) ev44i (by omega) (by omega) hC43 hS43 hKp43 hl
                · refine lv_aload_n hx hb dX1_spread_73 rfl (lv_at hl 2 rfl) ?_
                  refine lv_aload_n hx hb dX1_spread_74 rfl (lv_at hl 5 rfl) ?_
                  refine q_goJp (q_runV (As := [.ref h3]) (rest := [.int v36, .ref q40]) E hC37 hS37 (m_X1_casesOfNone l X Γ H37 hC37 h0 g0 h3 g3) cw_X1_casesOfNone cl_RX1_44 g0 ⟨rfl, rfl⟩ rfl hl.1 rfl (show _ ≤ _ from by simp [Value.category]) (by decide) dX1_spread_75) hS37 (fun v45 locs45 hr45 hS45 => ?_)
                  refine lv_goto (tgt := 88) hx hb dX1_spread_78 rfl ?_
                  refine q_last2 E hC37 hS45 gq40 (by decide) rfl rfl (fun _ => rfl) (a := z36) ev36 (by omega) (by omega) dX1_spread_88 (fun H46 locs46 hC46 hS46 U46 => ?_)
                  have hKp46 := Kp.upA gq40 rfl (by decide) rfl U46 hKp37
                  obtain ⟨v47, ev47⟩ : ∃ z, z = v36 + Int32.ofInt 1 := ⟨_, rfl⟩
                  have ev47i : v47.toInt = (z36 + 1) := i_add ev47 ev36 (by decide) (by omega) (by omega)
                  refine lv_iinc hx hb dX1_spread_89 hl (k := 0) rfl ev47.symm (by decide) rfl (fun ls hl => ?_)
                  replace hl : lv_has ls 6 [(5, .int v47), (4, .int v29), (0, .ref h0), (1, .int p1), (2, .int p2), (3, .ref h3)] := hl
                  refine lv_goto (tgt := 55) hx hb dX1_spread_92 rfl ?_
                  exact ih37 H46 locs46 v47 ((z36 + 1)) ls (by omega) ev47i (by omega) (by omega) hC46 hS46 hKp46 hl
          exact L55 _ H35 locs35 0 0 ls (Nat.lt_succ_self _) (by decide) (by omega) (by omega) hC35 hS35 hKp35 hl
    exact L34 _ H28 locs28 0 0 ls (Nat.lt_succ_self _) (by decide) (by omega) hC28 hS28 hKp28 hl
  · refine q_if_eq hx hb (a := 0) (by decide) (tgt := 31) dX1_spread_21 rfl (fun c48 => ?_) (fun c48 => absurd c48 (by omega))
    refine lv_iconst (v := 0) hx hb dX1_spread_31 rfl ?_
    refine lv_istore hx hb dX1_spread_32 hl (by decide) rfl (fun ls hl => ?_)
    replace hl : lv_has ls 6 [(4, .int 0), (0, .ref h0), (1, .int p1), (2, .int p2), (3, .ref h3)] := hl
    have L34 : ∀ (n50 : Nat) (H50 : Heap) (locs50 : List Loc) (v49 : Int32) (z49 : Int) (ls : Array Slot), (a2 - z49).toNat < n50 → v49.toInt = z49 → 0 ≤ z49 → Conf X Γ H50 → va_S (AΓ Γ) H0 H50 locs50 → Kp X Γ [0, 2, 3, 4, 5, 18, 21, 23, 25, 27] H0 H50 → lv_has ls 6 [(4, .int v49), (0, .ref h0), (1, .int p1), (2, .int p2), (3, .ref h3)] → W p l e (rmL 3) s m args below meth c H50 locs50 0 0 Qz (F0 m 34 ls []) := by
      intro n50
      induction n50 with
      | zero => intro H50 locs50 v49 z49 ls hm50 ev49 iv50_0 hC50 hS50 hKp50 hl; exact absurd hm50 (Nat.not_lt_zero _)
      | succ n50 ih50 =>
        intro H50 locs50 v49 z49 ls hm50 ev49 iv50_0 hC50 hS50 hKp50 hl
        refine lv_iload hx hb dX1_spread_34 (lv_at hl 0 rfl) ?_
        refine lv_iload_n hx hb dX1_spread_36 rfl (lv_at hl 3 rfl) ?_
        have c51 := i_rng p2; rw [show p2.toInt = a2 from e2] at c51
        refine q_icmp_ge hx hb (a := z49) (b := a2) ev49 e2 (tgt := 101) dX1_spread_37 rfl (fun c52 => ?_) (fun c52 => ?_)
        · exact ret H50 locs50 _ _ dX1_spread_101 hKp50 hC50 hS50
        · refine lv_aload_n hx hb dX1_spread_40 rfl (lv_at hl 1 rfl) ?_
          refine lv_dup hx hb dX1_spread_41 rfl ?_
          refine q_getJ E hC50 g0 fa_RX1_35 dX1_spread_42 (fun v53 ev53 => ?_)
          refine lv_ldc2 (v := 16) hx hb E.2.2.2.1 (E.2.2.2.2.1 _ w_1195) dX1_spread_45 ?_
          refine lv_lmul hx hb dX1_spread_48 (lv_topl (fun v54 ev54 => ?_))
          refine q_put E hC50 hS50 g0 fp_RX1_35 tv_J rfl rfl dX1_spread_49 (fun H55 locs55 hC55 hS55 U55 => ?_)
          have hKp55 := Kp.upO E g0 fp_RX1_35 rfl U55 hKp50
          refine lv_iconst (v := 0) hx hb dX1_spread_52 rfl ?_
          refine lv_istore hx hb dX1_spread_53 hl (by decide) rfl (fun ls hl => ?_)
          replace hl : lv_has ls 6 [(5, .int 0), (4, .int v49), (0, .ref h0), (1, .int p1), (2, .int p2), (3, .ref h3)] := hl
          have L55 : ∀ (n57 : Nat) (H57 : Heap) (locs57 : List Loc) (v56 : Int32) (z56 : Int) (ls : Array Slot), (100 - z56).toNat < n57 → v56.toInt = z56 → z56 ≤ 100 → 0 ≤ z56 → Conf X Γ H57 → va_S (AΓ Γ) H0 H57 locs57 → Kp X Γ [0, 2, 3, 4, 5, 18, 21, 23, 25, 27] H0 H57 → lv_has ls 6 [(5, .int v56), (4, .int v49), (0, .ref h0), (1, .int p1), (2, .int p2), (3, .ref h3)] → W p l e (rmL 3) s m args below meth c H57 locs57 0 0 Qz (F0 m 55 ls []) := by
            intro n57
            induction n57 with
            | zero => intro H57 locs57 v56 z56 ls hm57 ev56 iv57_0 iv57_1 hC57 hS57 hKp57 hl; exact absurd hm57 (Nat.not_lt_zero _)
            | succ n57 ih57 =>
              intro H57 locs57 v56 z56 ls hm57 ev56 iv57_0 iv57_1 hC57 hS57 hKp57 hl
              refine lv_iload hx hb dX1_spread_55 (lv_at hl 0 rfl) ?_
              refine lv_bipush (v := 100) hx hb dX1_spread_57 rfl ?_
              refine q_icmp_ge hx hb (a := z56) (b := 100) ev56 (by decide) (tgt := 95) dX1_spread_59 rfl (fun c58 => ?_) (fun c58 => ?_)
              · obtain ⟨v59, ev59⟩ : ∃ z, z = v49 + Int32.ofInt 1 := ⟨_, rfl⟩
                have ev59i : v59.toInt = (z49 + 1) := i_add ev59 ev49 (by decide) (by omega) (by omega)
                refine lv_iinc hx hb dX1_spread_95 hl (k := 1) rfl ev59.symm (by decide) rfl (fun ls hl => ?_)
                replace hl : lv_has ls 6 [(4, .int v59), (5, .int v56), (0, .ref h0), (1, .int p1), (2, .int p2), (3, .ref h3)] := hl
                refine lv_goto (tgt := 34) hx hb dX1_spread_98 rfl ?_
                exact ih50 H57 locs57 v59 ((z49 + 1)) ls (by omega) ev59i (by omega) hC57 hS57 hKp57 (lv_sub hl [0, 2, 3, 4, 5] rfl)
              · refine lv_aload_n hx hb dX1_spread_62 rfl (lv_at hl 2 rfl) ?_
                refine q_getR E hC57 g0 fa_RX1_13 dX1_spread_63 (fun q60 eq60 gq60 => ?_)
                refine lv_iload hx hb dX1_spread_66 (lv_at hl 0 rfl) ?_
                refine lv_iload hx hb dX1_spread_68 (lv_at hl 0 rfl) ?_
                refine q_if_ne hx hb (a := z56) ev56 (tgt := 81) dX1_spread_70 rfl (fun c61 => ?_) (fun c61 => ?_)
                · refine lv_aload_n hx hb dX1_spread_81 rfl (lv_at hl 2 rfl) ?_
                  refine lv_iload hx hb dX1_spread_82 (lv_at hl 0 rfl) ?_
                  refine lv_aload_n hx hb dX1_spread_84 rfl (lv_at hl 5 rfl) ?_
                  refine q_goJp (q_runV (As := [.int v56, .ref h3]) (rest := [.int v56, .ref q60]) E hC57 hS57 (m_X1_casesOf l X Γ H57 hC57 h0 g0 v56 (a1 := z56) ev56 h3 g3 (by omega) (by omega)) cw_X1_casesOf cl_RX1_48 g0 ⟨rfl, rfl⟩ rfl hl.1 rfl (show _ ≤ _ from by simp [Value.category]) (by decide) dX1_spread_85) hS57 (fun v62 locs62 hr62 hS62 => ?_)
                  refine q_last2 E hC57 hS62 gq60 (by decide) rfl rfl (fun _ => rfl) (a := z56) ev56 (by omega) (by omega) dX1_spread_88 (fun H63 locs63 hC63 hS63 U63 => ?_)
                  have hKp63 := Kp.upA gq60 rfl (by decide) rfl U63 hKp57
                  obtain ⟨v64, ev64⟩ : ∃ z, z = v56 + Int32.ofInt 1 := ⟨_, rfl⟩
                  have ev64i : v64.toInt = (z56 + 1) := i_add ev64 ev56 (by decide) (by omega) (by omega)
                  refine lv_iinc hx hb dX1_spread_89 hl (k := 0) rfl ev64.symm (by decide) rfl (fun ls hl => ?_)
                  replace hl : lv_has ls 6 [(5, .int v64), (4, .int v49), (0, .ref h0), (1, .int p1), (2, .int p2), (3, .ref h3)] := hl
                  refine lv_goto (tgt := 55) hx hb dX1_spread_92 rfl ?_
                  exact ih57 H63 locs63 v64 ((z56 + 1)) ls (by omega) ev64i (by omega) (by omega) hC63 hS63 hKp63 hl
                · refine lv_aload_n hx hb dX1_spread_73 rfl (lv_at hl 2 rfl) ?_
                  refine lv_aload_n hx hb dX1_spread_74 rfl (lv_at hl 5 rfl) ?_
                  refine q_goJp (q_runV (As := [.ref h3]) (rest := [.int v56, .ref q60]) E hC57 hS57 (m_X1_casesOfNone l X Γ H57 hC57 h0 g0 h3 g3) cw_X1_casesOfNone cl_RX1_44 g0 ⟨rfl, rfl⟩ rfl hl.1 rfl (show _ ≤ _ from by simp [Value.category]) (by decide) dX1_spread_75) hS57 (fun v65 locs65 hr65 hS65 => ?_)
                  refine lv_goto (tgt := 88) hx hb dX1_spread_78 rfl ?_
                  refine q_last2 E hC57 hS65 gq60 (by decide) rfl rfl (fun _ => rfl) (a := z56) ev56 (by omega) (by omega) dX1_spread_88 (fun H66 locs66 hC66 hS66 U66 => ?_)
                  have hKp66 := Kp.upA gq60 rfl (by decide) rfl U66 hKp57
                  obtain ⟨v67, ev67⟩ : ∃ z, z = v56 + Int32.ofInt 1 := ⟨_, rfl⟩
                  have ev67i : v67.toInt = (z56 + 1) := i_add ev67 ev56 (by decide) (by omega) (by omega)
                  refine lv_iinc hx hb dX1_spread_89 hl (k := 0) rfl ev67.symm (by decide) rfl (fun ls hl => ?_)
                  replace hl : lv_has ls 6 [(5, .int v67), (4, .int v49), (0, .ref h0), (1, .int p1), (2, .int p2), (3, .ref h3)] := hl
                  refine lv_goto (tgt := 55) hx hb dX1_spread_92 rfl ?_
                  exact ih57 H66 locs66 v67 ((z56 + 1)) ls (by omega) ev67i (by omega) (by omega) hC66 hS66 hKp66 hl
          exact L55 _ H55 locs55 0 0 ls (Nat.lt_succ_self _) (by decide) (by omega) (by omega) hC55 hS55 hKp55 hl
    exact L34 _ H23 locs25 0 0 ls (Nat.lt_succ_self _) (by decide) (by omega) hC23 hS25 hKp23 hl
set_option maxRecDepth 100000 in
set_option maxHeartbeats 4000000 in
theorem m_X11_weigh (l : Launch) (X : xW) (Γ : Nat → Option Nat) (H0 : Heap) (hC0 : Conf X Γ H0) (h0 : Nat) (g0 : Γ h0 = some 0) (p1 : Int32) {a1 : Int} (e1 : p1.toInt = a1) (p2 : Int32) {a2 : Int} (e2 : p2.toInt = a2) (p3 : Int32) {a3 : Int} (e3 : p3.toInt = a3) (ta : Nat) (td nd : Nat → Nat) (sh : SHP X Γ H0 h0 ta td nd) : Ctr l X Γ yX11_weigh cX11_weigh 5 (some .int) 4 [.ref h0, .int p1, .int p2, .int p3] H0 (QI X Γ (fun v H1 => Kp X Γ [0, 2, 3, 4, 5, 18, 21, 23, 25, 27] H0 H1 ∧ (((v.toInt = 0 ∧ WGY a3 (sI H0 (td (a3 : Int).toNat) (X.1.2 6 2)).toInt a1 a2 (CBn (nCI nd H0 a3))) ∨ (v.toInt ≠ 0 ∧ ¬ WGY a3 (sI H0 (td (a3 : Int).toNat) (X.1.2 6 2)).toInt a1 a2 (CBn (nCI nd H0 a3))))))) := by
  refine q_enterI (own := "SnowForts") (by decide) rfl (Nat.le_of_ble_eq_true rfl) ?_
  intro p e s m args below meth c ls Qz E hl ret hS0
  have hx := E.1; have hb := E.2.1
  have hKp0 : Kp X Γ [0, 2, 3, 4, 5, 18, 21, 23, 25, 27] H0 H0 := Kp.rf
  have hl : lv_has ls 5 [(0, .ref h0), (1, .int p1), (2, .int p2), (3, .int p3)] := hl
  refine lv_iload_n hx hb dX11_weigh_0 rfl (lv_at hl 3 rfl) ?_
  refine q_goIp (q_runS (As := [.int p3]) (rest := []) E hS0 (m_X11_isTray l X Γ H0 hC0 p3 (a0 := a3) e3) cw_X11_isTray cl_RX11_117 rfl hl.1 rfl (Nat.zero_le _) (by decide) dX11_weigh_1) hS0 (fun v21 locs21 hr21 hS21 => ?_)
  rcases hr21 with ⟨rfl, f21a0, f21a1⟩ | ⟨rfl, f21b⟩
  · refine q_if_ne hx hb (a := 1) (by decide) (tgt := 9) dX11_weigh_4 rfl (fun c22 => ?_) (fun c22 => absurd c22 (by omega))
    refine lv_aload_n hx hb dX11_weigh_9 rfl (lv_at hl 0 rfl) ?_
    refine q_getS E hC0 g0 fa_RX11_10 sh.2.1 dX11_weigh_10 (fun _ => ?_)
    refine lv_iload_n hx hb dX11_weigh_13 rfl (lv_at hl 3 rfl) ?_
    refine q_aaldS E hC0 sh.1 rfl rfl (fun _ => rfl) (C := "SnowForts$Tray") rfl (z := a3) e3 (by omega) (by omega) ((sh.2.2.1 _ (by omega)).1) dX11_weigh_14 (fun g23 => ?_)
    refine lv_astore hx hb dX11_weigh_15 hl (by decide) rfl (fun ls hl => ?_)
    replace hl : lv_has ls 5 [(4, .ref (td (a3 : Int).toNat)), (0, .ref h0), (1, .int p1), (2, .int p2), (3, .int p3)] := hl
    refine lv_aload hx hb dX11_weigh_17 (lv_at hl 0 rfl) ?_
    refine q_goIp (q_runV (As := []) (rest := []) E hC0 hS21 (m_X6_isMissing l X Γ H0 hC0 (td (a3 : Int).toNat) g23) cw_X6_isMissing cl_RX11_121 g23 ⟨rfl, rfl⟩ rfl hl.1 rfl (Nat.zero_le _) (by decide) dX11_weigh_19) hS21 (fun v24 locs24 hr24 hS24 => ?_)
    rcases hr24 with ⟨rfl, f24a⟩ | ⟨rfl, f24b⟩
    · refine q_if_eq hx hb (a := 1) (by decide) (tgt := 27) dX11_weigh_22 rfl (fun c25 => absurd c25 (by omega)) (fun c25 => ?_)
      refine lv_iconst (v := 3) hx hb dX11_weigh_25 rfl ?_
      have hpost : ((3 : Int32).toInt = 0 ∧ WGY a3 (sI H0 (td (a3 : Int).toNat) (X.1.2 6 2)).toInt a1 a2 (CBn (nCI nd H0 a3))) ∨ ((3 : Int32).toInt ≠ 0 ∧ ¬ WGY a3 (sI H0 (td (a3 : Int).toNat) (X.1.2 6 2)).toInt a1 a2 (CBn (nCI nd H0 a3))) := Or.inr ⟨by decide, fun h => by obtain ⟨q1, q2, q3, q4, q5, q6, q7, -⟩ := h; omega⟩
      have c26 : (3 : Int32).toInt = 3 := (by decide)
      exact ret 3 H0 locs24 _ _ dX11_weigh_26 ⟨hKp0, hpost⟩ hC0 hS24
    · refine q_if_eq hx hb (a := 0) (by decide) (tgt := 27) dX11_weigh_22 rfl (fun c27 => ?_) (fun c27 => absurd c27 (by omega))
      refine lv_aload hx hb dX11_weigh_27 (lv_at hl 0 rfl) ?_
      refine q_getI E hC0 g23 fa_RX11_307 dX11_weigh_29 (fun v28 ev28 lv28 uv28 => ?_)
      have m29 : (sI H0 (td (a3 : Int).toNat) (X.1.2 6 2)).toInt = v28.toInt := congrArg Int32.toInt ev28
      refine lv_iconst (v := 4) hx hb dX11_weigh_32 rfl ?_
      refine q_icmp_ge hx hb (a := v28.toInt) (b := 4) rfl (by decide) (tgt := 38) dX11_weigh_33 rfl (fun c30 => ?_) (fun c30 => ?_)
      · refine lv_iload_n hx hb dX11_weigh_38 rfl (lv_at hl 2 rfl) ?_
        refine lv_i2l (v := p1.toInt64) hx hb dX11_weigh_39 rfl (lv_topl (fun v31 ev31 => ?_))
        have ev31i : v31.toInt = a1 := l_ofi ev31.symm e1
        refine lv_iconst (v := 1) hx hb dX11_weigh_40 rfl ?_
        refine lv_bipush (v := 99) hx hb dX11_weigh_41 rfl ?_
        refine q_goIp (q_runS (As := [.long v31, .int 1, .int 99]) (rest := []) E hS24 (m_X11_isWithin l X Γ H0 hC0 v31 (a0 := a1) ev31i 1 (a1 := 1) (by decide) 99 (a2 := 99) (by decide)) cw_X11_isWithin cl_RX11_113 rfl hl.1 rfl (Nat.zero_le _) (by decide) dX11_weigh_43) hS24 (fun v32 locs32 hr32 hS32 => ?_)
        rcases hr32 with ⟨rfl, f32a0, f32a1⟩ | ⟨rfl, f32b⟩
        · refine q_if_eq hx hb (a := 1) (by decide) (tgt := 72) dX11_weigh_46 rfl (fun c33 => absurd c33 (by omega)) (fun c33 => ?_)
          refine lv_iload_n hx hb dX11_weigh_49 rfl (lv_at hl 3 rfl) ?_
          refine lv_i2l (v := p2.toInt64) hx hb dX11_weigh_50 rfl (lv_topl (fun v34 ev34 => ?_))
          have ev34i : v34.toInt = a2 := l_ofi ev34.symm e2
          refine lv_iconst (v := 1) hx hb dX11_weigh_51 rfl ?_
          refine lv_bipush (v := 8) hx hb dX11_weigh_52 rfl ?_
          refine q_goIp (q_runS (As := [.long v34, .int 1, .int 8]) (rest := []) E hS32 (m_X11_isWithin l X Γ H0 hC0 v34 (a0 := a2) ev34i 1 (a1 := 1) (by decide) 8 (a2 := 8) (by decide)) cw_X11_isWithin cl_RX11_113 rfl hl.1 rfl (Nat.zero_le _) (by decide) dX11_weigh_54) hS32 (fun v35 locs35 hr35 hS35 => ?_)
          rcases hr35 with ⟨rfl, f35a0, f35a1⟩ | ⟨rfl, f35b⟩
          · refine q_if_eq hx hb (a := 1) (by decide) (tgt := 72) dX11_weigh_57 rfl (fun c36 => absurd c36 (by omega)) (fun c36 => ?_)
            refine lv_aload_n hx hb dX11_weigh_60 rfl (lv_at hl 1 rfl) ?_
            refine q_getR E hC0 g0 fa_RX11_84 dX11_weigh_61 (fun q37 eq37 gq37 => ?_)
            refine lv_aload hx hb dX11_weigh_64 (lv_at hl 0 rfl) ?_
            have hnq := nuN_td sh (z := a3) (by omega) (by omega)
            refine q_goIp (q_runV (As := [.ref (td (a3 : Int).toNat)]) (rest := []) E hC0 hS35 (m_X1_canBe l X Γ H0 hC0 q37 gq37 (td (a3 : Int).toNat) g23 (by omega)) cw_X1_canBe cl_RX11_345 gq37 ⟨rfl, rfl⟩ rfl hl.1 rfl (Nat.zero_le _) (by decide) dX11_weigh_66) hS35 (fun v38 locs38 hr38 hS38 => ?_)
            rcases hr38 with ⟨rfl, f38a⟩ | ⟨rfl, f38b⟩
            · refine q_if_ne hx hb (a := 1) (by decide) (tgt := 74) dX11_weigh_69 rfl (fun c39 => ?_) (fun c39 => absurd c39 (by omega))
              refine lv_aload_n hx hb dX11_weigh_74 rfl (lv_at hl 1 rfl) ?_
              refine q_getR E hC0 g0 fa_RX11_84 dX11_weigh_75 (fun q40 eq40 gq40 => ?_)
              refine lv_iload_n hx hb dX11_weigh_78 rfl (lv_at hl 2 rfl) ?_
              refine lv_iload_n hx hb dX11_weigh_79 rfl (lv_at hl 3 rfl) ?_
              refine lv_aload hx hb dX11_weigh_80 (lv_at hl 0 rfl) ?_
              refine q_goV (q_runV (As := [.int p1, .int p2, .ref (td (a3 : Int).toNat)]) (rest := []) E hC0 hS38 (m_X1_spread l X Γ H0 hC0 q40 gq40 p1 (a1 := a1) e1 p2 (a2 := a2) e2 (td (a3 : Int).toNat) g23) cw_X1_spread cl_RX11_349 gq40 ⟨rfl, rfl⟩ rfl hl.1 rfl (Nat.zero_le _) (by decide) dX11_weigh_82) hS38 (fun H41 locs41 hr41 hC41 hS41 => ?_)
              have hKp41 := hKp0.tr (hr41.mono rfl)
              refine lv_iconst (v := 0) hx hb dX11_weigh_85 rfl ?_
              have hpost : ((0 : Int32).toInt = 0 ∧ WGY a3 (sI H0 (td (a3 : Int).toNat) (X.1.2 6 2)).toInt a1 a2 (CBn (nCI nd H0 a3))) ∨ ((0 : Int32).toInt ≠ 0 ∧ ¬ WGY a3 (sI H0 (td (a3 : Int).toNat) (X.1.2 6 2)).toInt a1 a2 (CBn (nCI nd H0 a3))) := Or.inl ⟨by decide, by omega, by omega, by omega, by omega, by omega, by omega, by omega, by show CBn (fun i => (nC nd H0 (a3 : Int).toNat i).toInt); rw [← hnq]; assumption⟩
              have c42 : (0 : Int32).toInt = 0 := (by decide)
              exact ret 0 H41 locs41 _ _ dX11_weigh_86 ⟨hKp41, hpost⟩ hC41 hS41
            · refine q_if_ne hx hb (a := 0) (by decide) (tgt := 74) dX11_weigh_69 rfl (fun c43 => absurd c43 (by omega)) (fun c43 => ?_)
              refine lv_iconst (v := 5) hx hb dX11_weigh_72 rfl ?_
              have hpost : ((5 : Int32).toInt = 0 ∧ WGY a3 (sI H0 (td (a3 : Int).toNat) (X.1.2 6 2)).toInt a1 a2 (CBn (nCI nd H0 a3))) ∨ ((5 : Int32).toInt ≠ 0 ∧ ¬ WGY a3 (sI H0 (td (a3 : Int).toNat) (X.1.2 6 2)).toInt a1 a2 (CBn (nCI nd H0 a3))) := by first | exact Or.inr ⟨by decide, fun h => absurd h.2.2.2.2.2.2.2 (by show ¬ CBn (fun i => (nC nd H0 (a3 : Int).toNat i).toInt); rw [← hnq]; assumption)⟩ | exact Or.inr ⟨by decide, fun h => by obtain ⟨q1, q2, q3, q4, q5, q6, q7, -⟩ := h; omega⟩
              have c44 : (5 : Int32).toInt = 5 := (by decide)
              exact ret 5 H0 locs38 _ _ dX11_weigh_73 ⟨hKp0, hpost⟩ hC0 hS38
          · refine q_if_eq hx hb (a := 0) (by decide) (tgt := 72) dX11_weigh_57 rfl (fun c45 => ?_) (fun c45 => absurd c45 (by omega))
            refine lv_iconst (v := 5) hx hb dX11_weigh_72 rfl ?_
            have hpost : ((5 : Int32).toInt = 0 ∧ WGY a3 (sI H0 (td (a3 : Int).toNat) (X.1.2 6 2)).toInt a1 a2 (CBn (nCI nd H0 a3))) ∨ ((5 : Int32).toInt ≠ 0 ∧ ¬ WGY a3 (sI H0 (td (a3 : Int).toNat) (X.1.2 6 2)).toInt a1 a2 (CBn (nCI nd H0 a3))) := by first | exact Or.inr ⟨by decide, fun h => absurd h.2.2.2.2.2.2.2 (by show ¬ CBn (fun i => (nC nd H0 (a3 : Int).toNat i).toInt); rw [← hnq]; assumption)⟩ | exact Or.inr ⟨by decide, fun h => by obtain ⟨q1, q2, q3, q4, q5, q6, q7, -⟩ := h; omega⟩
            have c46 : (5 : Int32).toInt = 5 := (by decide)
            exact ret 5 H0 locs35 _ _ dX11_weigh_73 ⟨hKp0, hpost⟩ hC0 hS35
        · refine q_if_eq hx hb (a := 0) (by decide) (tgt := 72) dX11_weigh_46 rfl (fun c47 => ?_) (fun c47 => absurd c47 (by omega))
          refine lv_iconst (v := 5) hx hb dX11_weigh_72 rfl ?_
          have hpost : ((5 : Int32).toInt = 0 ∧ WGY a3 (sI H0 (td (a3 : Int).toNat) (X.1.2 6 2)).toInt a1 a2 (CBn (nCI nd H0 a3))) ∨ ((5 : Int32).toInt ≠ 0 ∧ ¬ WGY a3 (sI H0 (td (a3 : Int).toNat) (X.1.2 6 2)).toInt a1 a2 (CBn (nCI nd H0 a3))) := by first | exact Or.inr ⟨by decide, fun h => absurd h.2.2.2.2.2.2.2 (by show ¬ CBn (fun i => (nC nd H0 (a3 : Int).toNat i).toInt); rw [← hnq]; assumption)⟩ | exact Or.inr ⟨by decide, fun h => by obtain ⟨q1, q2, q3, q4, q5, q6, q7, -⟩ := h; omega⟩
          have c48 : (5 : Int32).toInt = 5 := (by decide)
          exact ret 5 H0 locs32 _ _ dX11_weigh_73 ⟨hKp0, hpost⟩ hC0 hS32
      · refine lv_iconst (v := 4) hx hb dX11_weigh_36 rfl ?_
        have hpost : ((4 : Int32).toInt = 0 ∧ WGY a3 (sI H0 (td (a3 : Int).toNat) (X.1.2 6 2)).toInt a1 a2 (CBn (nCI nd H0 a3))) ∨ ((4 : Int32).toInt ≠ 0 ∧ ¬ WGY a3 (sI H0 (td (a3 : Int).toNat) (X.1.2 6 2)).toInt a1 a2 (CBn (nCI nd H0 a3))) := Or.inr ⟨by decide, fun h => by obtain ⟨q1, q2, q3, q4, q5, q6, q7, -⟩ := h; omega⟩
        have c49 : (4 : Int32).toInt = 4 := (by decide)
        exact ret 4 H0 locs24 _ _ dX11_weigh_37 ⟨hKp0, hpost⟩ hC0 hS24
  · refine q_if_ne hx hb (a := 0) (by decide) (tgt := 9) dX11_weigh_4 rfl (fun c50 => absurd c50 (by omega)) (fun c50 => ?_)
    refine lv_iconst (v := 1) hx hb dX11_weigh_7 rfl ?_
    have hpost : ((1 : Int32).toInt = 0 ∧ WGY a3 (sI H0 (td (a3 : Int).toNat) (X.1.2 6 2)).toInt a1 a2 (CBn (nCI nd H0 a3))) ∨ ((1 : Int32).toInt ≠ 0 ∧ ¬ WGY a3 (sI H0 (td (a3 : Int).toNat) (X.1.2 6 2)).toInt a1 a2 (CBn (nCI nd H0 a3))) := Or.inr ⟨by decide, fun h => by obtain ⟨q1, q2, q3, q4, q5, q6, q7, -⟩ := h; omega⟩
    have c51 : (1 : Int32).toInt = 1 := (by decide)
    exact ret 1 H0 locs21 _ _ dX11_weigh_8 ⟨hKp0, hpost⟩ hC0 hS21
set_option maxRecDepth 100000 in
set_option maxHeartbeats 4000000 in
theorem m_X1_tellFraction (l : Launch) (X : xW) (Γ : Nat → Option Nat) (H0 : Heap) (hC0 : Conf X Γ H0) (h0 : Nat) (g0 : Γ h0 = some 9) (p1 : Int64) {a1 : Int} (e1 : p1.toInt = a1) (p2 : Int64) {a2 : Int} (e2 : p2.toInt = a2) : Ctr l X Γ yX1_tellFraction cX1_tellFraction 12 none 0 [.ref h0, .long p1, .long p2] H0 (QV X Γ (fun H1 => Kp X Γ [0, 2, 3, 4, 5, 18, 21, 23, 25, 27] H0 H1)) := by
  refine q_enterV (own := "SnowForts$Odds") (by decide) rfl (Nat.le_of_ble_eq_true rfl) ?_
  intro p e s m args below meth c ls Qz E hl ret hS0
  have hx := E.1; have hb := E.2.1
  have hKp0 : Kp X Γ [0, 2, 3, 4, 5, 18, 21, 23, 25, 27] H0 H0 := Kp.rf
  have hl : lv_has ls 12 [(0, .ref h0), (1, .long p1), (3, .long p2)] := hl
  refine lv_lload_n hx hb dX1_tellFraction_0 rfl (lv_at hl 2 rfl) ?_
  refine lv_lstore hx hb dX1_tellFraction_1 hl (by decide) rfl (fun ls hl => ?_)
  replace hl : lv_has ls 12 [(5, .long p2), (0, .ref h0), (1, .long p1), (3, .long p2)] := hl
  refine lv_lload_n hx hb dX1_tellFraction_3 rfl (lv_at hl 2 rfl) ?_
  refine lv_lstore hx hb dX1_tellFraction_4 hl (by decide) rfl (fun ls hl => ?_)
  replace hl : lv_has ls 12 [(7, .long p1), (5, .long p2), (0, .ref h0), (1, .long p1), (3, .long p2)] := hl
  refine lv_iconst (v := 0) hx hb dX1_tellFraction_6 rfl ?_
  refine lv_istore hx hb dX1_tellFraction_7 hl (by decide) rfl (fun ls hl => ?_)
  replace hl : lv_has ls 12 [(9, .int 0), (7, .long p1), (5, .long p2), (0, .ref h0), (1, .long p1), (3, .long p2)] := hl
  have L9 : ∀ (n24 : Nat) (locs24 : List Loc) (v21 : Int32) (z21 : Int) (v22 : Int64) (z22 : Int) (v23 : Int64) (z23 : Int) (ls : Array Slot), (200 - z21).toNat < n24 → v21.toInt = z21 → v22.toInt = z22 → v23.toInt = z23 → z21 ≤ 200 → 0 ≤ z21 → va_S (AΓ Γ) H0 H0 locs24 → lv_has ls 12 [(9, .int v21), (7, .long v22), (5, .long v23), (0, .ref h0), (1, .long p1), (3, .long p2)] → W p l e (rmL 0) s m args below meth c H0 locs24 0 0 Qz (F0 m 9 ls []) := by
    intro n24
    induction n24 with
    | zero => intro locs24 v21 z21 v22 z22 v23 z23 ls hm24 ev21 ev22 ev23 iv24_0 iv24_1 hS24 hl; exact absurd hm24 (Nat.not_lt_zero _)
    | succ n24 ih24 =>
      intro locs24 v21 z21 v22 z22 v23 z23 ls hm24 ev21 ev22 ev23 iv24_0 iv24_1 hS24 hl
      refine lv_iload hx hb dX1_tellFraction_9 (lv_at hl 0 rfl) ?_
      refine lv_sipush (v := 200) hx hb dX1_tellFraction_11 rfl ?_
      refine q_icmp_ge hx hb (a := z21) (b := 200) ev21 (by decide) (tgt := 45) dX1_tellFraction_14 rfl (fun c25 => ?_) (fun c25 => ?_)
      · refine lv_lload hx hb dX1_tellFraction_45 (lv_at hl 2 rfl) ?_
        refine lv_lconst (v := 0) hx hb dX1_tellFraction_47 rfl ?_
        refine q_lcmp_le hx hb (a := z23) (b := 0) ev23 (show (0 : Int64).toInt = 0 from by decide) (tgt := 68) dX1_tellFraction_48 dX1_tellFraction_49 rfl (fun c26 => ?_) (fun c26 => ?_)
        · exact ret H0 locs24 _ _ dX1_tellFraction_68 hKp0 hC0 hS24
        · refine lv_aload_n hx hb dX1_tellFraction_52 rfl (lv_at hl 3 rfl) ?_
          refine lv_lload_n hx hb dX1_tellFraction_53 rfl (lv_at hl 4 rfl) ?_
          refine lv_lload hx hb dX1_tellFraction_54 (lv_at hl 2 rfl) ?_
          refine lv_ldiv hx hb dX1_tellFraction_56 (l_nz ev23 (by omega)) (lv_topl (fun v27 ev27 => ?_))
          refine q_put E hC0 hS24 g0 fp_RX1_56 tv_J rfl rfl dX1_tellFraction_57 (fun H28 locs28 hC28 hS28 U28 => ?_)
          have hKp28 := Kp.upO E g0 fp_RX1_56 rfl U28 hKp0
          refine lv_aload_n hx hb dX1_tellFraction_60 rfl (lv_at hl 3 rfl) ?_
          refine lv_lload_n hx hb dX1_tellFraction_61 rfl (lv_at hl 5 rfl) ?_
          refine lv_lload hx hb dX1_tellFraction_62 (lv_at hl 2 rfl) ?_
          refine lv_ldiv hx hb dX1_tellFraction_64 (l_nz ev23 (by omega)) (lv_topl (fun v29 ev29 => ?_))
          refine q_put E hC28 hS28 g0 fp_RX1_7 tv_J rfl rfl dX1_tellFraction_65 (fun H30 locs30 hC30 hS30 U30 => ?_)
          have hKp30 := Kp.upO E g0 fp_RX1_7 rfl U30 hKp28
          exact ret H30 locs30 _ _ dX1_tellFraction_68 hKp30 hC30 hS30
      · refine lv_lload hx hb dX1_tellFraction_17 (lv_at hl 1 rfl) ?_
        refine lv_lconst (v := 0) hx hb dX1_tellFraction_19 rfl ?_
        refine q_lcmp_eq hx hb (a := z22) (b := 0) ev22 (show (0 : Int64).toInt = 0 from by decide) (tgt := 45) dX1_tellFraction_20 dX1_tellFraction_21 rfl (fun c31 => ?_) (fun c31 => ?_)
        · refine lv_lload hx hb dX1_tellFraction_45 (lv_at hl 2 rfl) ?_
          refine lv_lconst (v := 0) hx hb dX1_tellFraction_47 rfl ?_
          refine q_lcmp_le hx hb (a := z23) (b := 0) ev23 (show (0 : Int64).toInt = 0 from by decide) (tgt := 68) dX1_tellFraction_48 dX1_tellFraction_49 rfl (fun c32 => ?_) (fun c32 => ?_)
          · exact ret H0 locs24 _ _ dX1_tellFraction_68 hKp0 hC0 hS24
          · refine lv_aload_n hx hb dX1_tellFraction_52 rfl (lv_at hl 3 rfl) ?_
            refine lv_lload_n hx hb dX1_tellFraction_53 rfl (lv_at hl 4 rfl) ?_
            refine lv_lload hx hb dX1_tellFraction_54 (lv_at hl 2 rfl) ?_
            refine lv_ldiv hx hb dX1_tellFraction_56 (l_nz ev23 (by omega)) (lv_topl (fun v33 ev33 => ?_))
            refine q_put E hC0 hS24 g0 fp_RX1_56 tv_J rfl rfl dX1_tellFraction_57 (fun H34 locs34 hC34 hS34 U34 => ?_)
            have hKp34 := Kp.upO E g0 fp_RX1_56 rfl U34 hKp0
            refine lv_aload_n hx hb dX1_tellFraction_60 rfl (lv_at hl 3 rfl) ?_
            refine lv_lload_n hx hb dX1_tellFraction_61 rfl (lv_at hl 5 rfl) ?_
            refine lv_lload hx hb dX1_tellFraction_62 (lv_at hl 2 rfl) ?_
            refine lv_ldiv hx hb dX1_tellFraction_64 (l_nz ev23 (by omega)) (lv_topl (fun v35 ev35 => ?_))
            refine q_put E hC34 hS34 g0 fp_RX1_7 tv_J rfl rfl dX1_tellFraction_65 (fun H36 locs36 hC36 hS36 U36 => ?_)
            have hKp36 := Kp.upO E g0 fp_RX1_7 rfl U36 hKp34
            exact ret H36 locs36 _ _ dX1_tellFraction_68 hKp36 hC36 hS36
        · refine lv_lload hx hb dX1_tellFraction_24 (lv_at hl 2 rfl) ?_
          refine lv_lload hx hb dX1_tellFraction_26 (lv_at hl 1 rfl) ?_
          refine lv_lrem hx hb dX1_tellFraction_28 (l_nz ev22 (by omega)) (lv_topl (fun v37 ev37 => ?_))
          refine lv_lstore hx hb dX1_tellFraction_29 hl (by decide) rfl (fun ls hl => ?_)
          replace hl : lv_has ls 12 [(10, .long v37), (9, .int v21), (7, .long v22), (5, .long v23), (0, .ref h0), (1, .long p1), (3, .long p2)] := hl
          refine lv_lload hx hb dX1_tellFraction_31 (lv_at hl 2 rfl) ?_
          refine lv_lstore hx hb dX1_tellFraction_33 hl (by decide) rfl (fun ls hl => ?_)
          replace hl : lv_has ls 12 [(5, .long v22), (10, .long v37), (9, .int v21), (7, .long v22), (0, .ref h0), (1, .long p1), (3, .long p2)] := hl
          refine lv_lload hx hb dX1_tellFraction_35 (lv_at hl 1 rfl) ?_
          refine lv_lstore hx hb dX1_tellFraction_37 hl (by decide) rfl (fun ls hl => ?_)
          replace hl : lv_has ls 12 [(7, .long v37), (5, .long v22), (10, .long v37), (9, .int v21), (0, .ref h0), (1, .long p1), (3, .long p2)] := hl
          obtain ⟨v38, ev38⟩ : ∃ z, z = v21 + Int32.ofInt 1 := ⟨_, rfl⟩
          have ev38i : v38.toInt = (z21 + 1) := i_add ev38 ev21 (by decide) (by omega) (by omega)
          refine lv_iinc hx hb dX1_tellFraction_39 hl (k := 3) rfl ev38.symm (by decide) rfl (fun ls hl => ?_)
          replace hl : lv_has ls 12 [(9, .int v38), (7, .long v37), (5, .long v22), (10, .long v37), (0, .ref h0), (1, .long p1), (3, .long p2)] := hl
          refine lv_goto (tgt := 9) hx hb dX1_tellFraction_42 rfl ?_
          exact ih24 locs24 v38 ((z21 + 1)) v37 (v37.toInt) v22 (z22) ls (by omega) ev38i rfl ev22 (by omega) (by omega) hS24 (lv_sub hl [0, 1, 2, 4, 5, 6] rfl)
  exact L9 _ [] 0 0 p1 a1 p2 a2 ls (Nat.lt_succ_self _) (by decide) e1 e2 (by omega) (by omega) hS0 hl
set_option maxRecDepth 100000 in
set_option maxHeartbeats 4000000 in
theorem m_X1_tellStanding (l : Launch) (X : xW) (Γ : Nat → Option Nat) (H0 : Heap) (hC0 : Conf X Γ H0) (h0 : Nat) (g0 : Γ h0 = some 9) : Ctr l X Γ yX1_tellStanding cX1_tellStanding 1 none 1 [.ref h0] H0 (QV X Γ (fun H1 => Kp X Γ [0, 2, 3, 4, 5, 18, 21, 23, 25, 27] H0 H1)) := by
  refine q_enterV (own := "SnowForts$Odds") (by decide) rfl (Nat.le_of_ble_eq_true rfl) ?_
  intro p e s m args below meth c ls Qz E hl ret hS0
  have hx := E.1; have hb := E.2.1
  have hKp0 : Kp X Γ [0, 2, 3, 4, 5, 18, 21, 23, 25, 27] H0 H0 := Kp.rf
  have hl : lv_has ls 1 [(0, .ref h0)] := hl
  refine lv_aload_n hx hb dX1_tellStanding_0 rfl (lv_at hl 0 rfl) ?_
  refine lv_aload_n hx hb dX1_tellStanding_1 rfl (lv_at hl 0 rfl) ?_
  refine q_getJ E hC0 g0 fa_RX1_35 dX1_tellStanding_2 (fun v21 ev21 => ?_)
  refine lv_aload_n hx hb dX1_tellStanding_5 rfl (lv_at hl 0 rfl) ?_
  refine q_getR E hC0 g0 fa_RX1_13 dX1_tellStanding_6 (fun q22 eq22 gq22 => ?_)
  refine lv_iconst (v := 0) hx hb dX1_tellStanding_9 rfl ?_
  refine q_lald2 E hC0 gq22 rfl rfl (fun _ => rfl) (a := 0) (show (0 : Int32).toInt = 0 from by decide) (by omega) (by omega) dX1_tellStanding_10 (fun v23 ev23 => ?_)
  refine lv_lsub hx hb dX1_tellStanding_11 (lv_topl (fun v24 ev24 => ?_))
  refine lv_aload_n hx hb dX1_tellStanding_12 rfl (lv_at hl 0 rfl) ?_
  refine q_getJ E hC0 g0 fa_RX1_35 dX1_tellStanding_13 (fun v25 ev25 => ?_)
  refine q_goV (q_runV (As := [.long v24, .long v25]) (rest := []) E hC0 hS0 (m_X1_tellFraction l X Γ H0 hC0 h0 g0 v24 (a1 := v24.toInt) rfl v25 (a2 := v25.toInt) rfl) cw_X1_tellFraction cl_RX1_52 g0 ⟨rfl, rfl⟩ rfl hl.1 rfl (Nat.zero_le _) (by decide) dX1_tellStanding_16) hS0 (fun H26 locs26 hr26 hC26 hS26 => ?_)
  have hKp26 := hKp0.tr (hr26.mono rfl)
  exact ret H26 locs26 _ _ dX1_tellStanding_19 hKp26 hC26 hS26
set_option maxRecDepth 100000 in
set_option maxHeartbeats 4000000 in
theorem m_X11_stands (l : Launch) (X : xW) (Γ : Nat → Option Nat) (H0 : Heap) (hC0 : Conf X Γ H0) (h0 : Nat) (g0 : Γ h0 = some 0) (p1 : Int32) {a1 : Int} (e1 : p1.toInt = a1) (p2 : Int32) {a2 : Int} (e2 : p2.toInt = a2) (p3 : Int32) {a3 : Int} (e3 : p3.toInt = a3) (ta : Nat) (td nd : Nat → Nat) (sh : SHP X Γ H0 h0 ta td nd) : Ctr l X Γ yX11_stands cX11_stands 5 (some .boolean) 5 [.ref h0, .int p1, .int p2, .int p3] H0 (QI X Γ (fun v H1 => Kp X Γ [0, 2, 3, 4, 5, 18, 21, 23, 25, 27] H0 H1 ∧ ((v = 1 ∧ (WGY a3 (sI H0 (td (a3 : Int).toNat) (X.1.2 6 2)).toInt a1 a2 (CBn (nCI nd H0 a3)))) ∨ (v = 0 ∧ (¬ WGY a3 (sI H0 (td (a3 : Int).toNat) (X.1.2 6 2)).toInt a1 a2 (CBn (nCI nd H0 a3))))))) := by
  refine q_enterZ (own := "SnowForts") (by decide) rfl (Nat.le_of_ble_eq_true rfl) ?_
  intro p e s m args below meth c ls Qz E hl ret hS0
  have hx := E.1; have hb := E.2.1
  have hKp0 : Kp X Γ [0, 2, 3, 4, 5, 18, 21, 23, 25, 27] H0 H0 := Kp.rf
  have hl : lv_has ls 5 [(0, .ref h0), (1, .int p1), (2, .int p2), (3, .int p3)] := hl
  refine lv_aload_n hx hb dX11_stands_0 rfl (lv_at hl 0 rfl) ?_
  refine lv_iload_n hx hb dX11_stands_1 rfl (lv_at hl 1 rfl) ?_
  refine lv_iload_n hx hb dX11_stands_2 rfl (lv_at hl 2 rfl) ?_
  refine lv_iload_n hx hb dX11_stands_3 rfl (lv_at hl 3 rfl) ?_
  refine q_goI (q_runV (As := [.int p1, .int p2, .int p3]) (rest := []) E hC0 hS0 (m_X11_weigh l X Γ H0 hC0 h0 g0 p1 (a1 := a1) e1 p2 (a2 := a2) e2 p3 (a3 := a3) e3 ta td nd sh) cw_X11_weigh cl_RX11_353 g0 ⟨rfl, rfl⟩ rfl hl.1 rfl (Nat.zero_le _) (by decide) dX11_stands_4) hS0 (fun v21 H21 locs21 hr21 hC21 hS21 => ?_)
  obtain ⟨hp21, hr21⟩ := hr21
  have hKp21 := hKp0.tr (hp21.mono rfl)
  have f21_0 := hr21
  have hwg := f21_0
  refine lv_istore hx hb dX11_stands_7 hl (by decide) rfl (fun ls hl => ?_)
  replace hl : lv_has ls 5 [(4, .int v21), (0, .ref h0), (1, .int p1), (2, .int p2), (3, .int p3)] := hl
  refine lv_iload hx hb dX11_stands_9 (lv_at hl 0 rfl) ?_
  refine q_if_eq hx hb (a := v21.toInt) rfl (tgt := 21) dX11_stands_11 rfl (fun c22 => ?_) (fun c22 => ?_)
  · refine lv_aload_n hx hb dX11_stands_21 rfl (lv_at hl 1 rfl) ?_
    refine q_getR E hC21 g0 fa_RX11_84 dX11_stands_22 (fun q23 eq23 gq23 => ?_)
    refine q_goV (q_runV (As := []) (rest := []) E hC21 hS21 (m_X1_tellStanding l X Γ H21 hC21 q23 gq23) cw_X1_tellStanding cl_RX11_356 gq23 ⟨rfl, rfl⟩ rfl hl.1 rfl (Nat.zero_le _) (by decide) dX11_stands_25) hS21 (fun H24 locs24 hr24 hC24 hS24 => ?_)
    have hKp24 := hKp21.tr (hr24.mono rfl)
    refine lv_aload_n hx hb dX11_stands_28 rfl (lv_at hl 1 rfl) ?_
    refine q_goI (q_runV (As := []) (rest := []) E hC24 hS24 (m_X11_grant l X Γ H24 hC24 h0 g0) cw_X11_grant cl_RX11_135 g0 ⟨rfl, rfl⟩ rfl hl.1 rfl (Nat.zero_le _) (by decide) dX11_stands_29) hS24 (fun v25 H25 locs25 hr25 hC25 hS25 => ?_)
    obtain ⟨hp25, hr25⟩ := hr25
    have hKp25 := hKp24.tr (hp25.mono rfl)
    rcases hr25 with ⟨rfl, -⟩ | ⟨rfl, f25b⟩
    · have hya : WGY a3 (sI H0 (td (a3 : Int).toNat) (X.1.2 6 2)).toInt a1 a2 (CBn (nCI nd H0 a3)) := by (rcases hwg with ⟨h, hh⟩ | ⟨h, hh⟩ <;> first | exact hh | (exfalso; omega))
      exact ret 1 H25 locs25 _ _ dX11_stands_32 (Or.inr rfl) ⟨hKp25, Or.inl ⟨rfl, hya⟩⟩ hC25 hS25
    · exact absurd f25b (by decide)
  · refine lv_aload_n hx hb dX11_stands_14 rfl (lv_at hl 1 rfl) ?_
    refine lv_iload hx hb dX11_stands_15 (lv_at hl 0 rfl) ?_
    refine q_goI (q_runV (As := [.int v21]) (rest := []) E hC21 hS21 (m_X11_deny l X Γ H21 hC21 h0 g0 v21 (a1 := v21.toInt) rfl) cw_X11_deny cl_RX11_128 g0 ⟨rfl, rfl⟩ rfl hl.1 rfl (Nat.zero_le _) (by decide) dX11_stands_17) hS21 (fun v26 H26 locs26 hr26 hC26 hS26 => ?_)
    obtain ⟨hp26, hr26⟩ := hr26
    have hKp26 := hKp21.tr (hp26.mono rfl)
    rcases hr26 with ⟨rfl, f26a⟩ | ⟨rfl, -⟩
    · exact absurd f26a (by decide)
    · have hnb : ¬ WGY a3 (sI H0 (td (a3 : Int).toNat) (X.1.2 6 2)).toInt a1 a2 (CBn (nCI nd H0 a3)) := by (rcases hwg with ⟨h, hh⟩ | ⟨h, hh⟩ <;> first | exact hh | (exfalso; omega))
      exact ret 0 H26 locs26 _ _ dX11_stands_20 (Or.inl rfl) ⟨hKp26, Or.inr ⟨rfl, hnb⟩⟩ hC26 hS26
set_option maxRecDepth 100000 in
set_option maxHeartbeats 4000000 in
theorem m_X1_tellMean (l : Launch) (X : xW) (Γ : Nat → Option Nat) (H0 : Heap) (hC0 : Conf X Γ H0) (h0 : Nat) (g0 : Γ h0 = some 9) : Ctr l X Γ yX1_tellMean cX1_tellMean 4 none 1 [.ref h0] H0 (QV X Γ (fun H1 => Kp X Γ [0, 2, 3, 4, 5, 18, 21, 23, 25, 27] H0 H1)) := by
  refine q_enterV (own := "SnowForts$Odds") (by decide) rfl (Nat.le_of_ble_eq_true rfl) ?_
  intro p e s m args below meth c ls Qz E hl ret hS0
  have hx := E.1; have hb := E.2.1
  have hKp0 : Kp X Γ [0, 2, 3, 4, 5, 18, 21, 23, 25, 27] H0 H0 := Kp.rf
  have hl : lv_has ls 4 [(0, .ref h0)] := hl
  refine lv_lconst (v := 0) hx hb dX1_tellMean_0 rfl ?_
  refine lv_lstore_n hx hb dX1_tellMean_1 rfl hl (by decide) rfl (fun ls hl => ?_)
  replace hl : lv_has ls 4 [(1, .long 0), (0, .ref h0)] := hl
  refine lv_iconst (v := 0) hx hb dX1_tellMean_2 rfl ?_
  refine lv_istore_n hx hb dX1_tellMean_3 rfl hl (by decide) rfl (fun ls hl => ?_)
  replace hl : lv_has ls 4 [(3, .int 0), (1, .long 0), (0, .ref h0)] := hl
  have L4 : ∀ (n23 : Nat) (locs23 : List Loc) (v21 : Int32) (z21 : Int) (v22 : Int64) (z22 : Int) (ls : Array Slot), (100 - z21).toNat < n23 → v21.toInt = z21 → v22.toInt = z22 → z21 ≤ 100 → 0 ≤ z21 → va_S (AΓ Γ) H0 H0 locs23 → lv_has ls 4 [(3, .int v21), (1, .long v22), (0, .ref h0)] → W p l e (rmL 1) s m args below meth c H0 locs23 0 0 Qz (F0 m 4 ls []) := by
    intro n23
    induction n23 with
    | zero => intro locs23 v21 z21 v22 z22 ls hm23 ev21 ev22 iv23_0 iv23_1 hS23 hl; exact absurd hm23 (Nat.not_lt_zero _)
    | succ n23 ih23 =>
      intro locs23 v21 z21 v22 z22 ls hm23 ev21 ev22 iv23_0 iv23_1 hS23 hl
      refine lv_iload_n hx hb dX1_tellMean_4 rfl (lv_at hl 0 rfl) ?_
      refine lv_bipush (v := 100) hx hb dX1_tellMean_5 rfl ?_
      refine q_icmp_ge hx hb (a := z21) (b := 100) ev21 (by decide) (tgt := 28) dX1_tellMean_7 rfl (fun c24 => ?_) (fun c24 => ?_)
      · refine lv_aload_n hx hb dX1_tellMean_28 rfl (lv_at hl 2 rfl) ?_
        refine lv_lload_n hx hb dX1_tellMean_29 rfl (lv_at hl 1 rfl) ?_
        refine lv_aload_n hx hb dX1_tellMean_30 rfl (lv_at hl 2 rfl) ?_
        refine q_getJ E hC0 g0 fa_RX1_35 dX1_tellMean_31 (fun v25 ev25 => ?_)
        refine q_goV (q_runV (As := [.long v22, .long v25]) (rest := []) E hC0 hS23 (m_X1_tellFraction l X Γ H0 hC0 h0 g0 v22 (a1 := z22) ev22 v25 (a2 := v25.toInt) rfl) cw_X1_tellFraction cl_RX1_52 g0 ⟨rfl, rfl⟩ rfl hl.1 rfl (Nat.zero_le _) (by decide) dX1_tellMean_34) hS23 (fun H26 locs26 hr26 hC26 hS26 => ?_)
        have hKp26 := hKp0.tr (hr26.mono rfl)
        exact ret H26 locs26 _ _ dX1_tellMean_37 hKp26 hC26 hS26
      · refine lv_lload_n hx hb dX1_tellMean_10 rfl (lv_at hl 1 rfl) ?_
        refine lv_iload_n hx hb dX1_tellMean_11 rfl (lv_at hl 0 rfl) ?_
        refine lv_i2l (v := v21.toInt64) hx hb dX1_tellMean_12 rfl (lv_topl (fun v27 ev27 => ?_))
        have ev27i : v27.toInt = z21 := l_ofi ev27.symm ev21
        refine lv_aload_n hx hb dX1_tellMean_13 rfl (lv_at hl 2 rfl) ?_
        refine q_getR E hC0 g0 fa_RX1_13 dX1_tellMean_14 (fun q28 eq28 gq28 => ?_)
        refine lv_iload_n hx hb dX1_tellMean_17 rfl (lv_at hl 0 rfl) ?_
        refine q_lald2 E hC0 gq28 rfl rfl (fun _ => rfl) (a := z21) ev21 (by omega) (by omega) dX1_tellMean_18 (fun v29 ev29 => ?_)
        refine lv_lmul hx hb dX1_tellMean_19 (lv_topl (fun v30 ev30 => ?_))
        refine lv_ladd hx hb dX1_tellMean_20 (lv_topl (fun v31 ev31 => ?_))
        refine lv_lstore_n hx hb dX1_tellMean_21 rfl hl (by decide) rfl (fun ls hl => ?_)
        replace hl : lv_has ls 4 [(1, .long v31), (3, .int v21), (0, .ref h0)] := hl
        obtain ⟨v32, ev32⟩ : ∃ z, z = v21 + Int32.ofInt 1 := ⟨_, rfl⟩
        have ev32i : v32.toInt = (z21 + 1) := i_add ev32 ev21 (by decide) (by omega) (by omega)
        refine lv_iinc hx hb dX1_tellMean_22 hl (k := 1) rfl ev32.symm (by decide) rfl (fun ls hl => ?_)
        replace hl : lv_has ls 4 [(3, .int v32), (1, .long v31), (0, .ref h0)] := hl
        refine lv_goto (tgt := 4) hx hb dX1_tellMean_25 rfl ?_
        exact ih23 locs23 v32 ((z21 + 1)) v31 (v31.toInt) ls (by omega) ev32i rfl (by omega) (by omega) hS23 hl
  exact L4 _ [] 0 0 0 0 ls (Nat.lt_succ_self _) (by decide) (show (0 : Int64).toInt = 0 from by decide) (by omega) (by omega) hS0 hl
set_option maxRecDepth 100000 in
set_option maxHeartbeats 4000000 in
theorem m_X11_mean (l : Launch) (X : xW) (Γ : Nat → Option Nat) (H0 : Heap) (hC0 : Conf X Γ H0) (h0 : Nat) (g0 : Γ h0 = some 0) (p1 : Int32) {a1 : Int} (e1 : p1.toInt = a1) (p2 : Int32) {a2 : Int} (e2 : p2.toInt = a2) (p3 : Int32) {a3 : Int} (e3 : p3.toInt = a3) (ta : Nat) (td nd : Nat → Nat) (sh : SHP X Γ H0 h0 ta td nd) : Ctr l X Γ yX11_mean cX11_mean 5 (some .boolean) 5 [.ref h0, .int p1, .int p2, .int p3] H0 (QI X Γ (fun v H1 => Kp X Γ [0, 2, 3, 4, 5, 18, 21, 23, 25, 27] H0 H1 ∧ ((v = 1 ∧ (WGY a3 (sI H0 (td (a3 : Int).toNat) (X.1.2 6 2)).toInt a1 a2 (CBn (nCI nd H0 a3)))) ∨ (v = 0 ∧ (¬ WGY a3 (sI H0 (td (a3 : Int).toNat) (X.1.2 6 2)).toInt a1 a2 (CBn (nCI nd H0 a3))))))) := by
  refine q_enterZ (own := "SnowForts") (by decide) rfl (Nat.le_of_ble_eq_true rfl) ?_
  intro p e s m args below meth c ls Qz E hl ret hS0
  have hx := E.1; have hb := E.2.1
  have hKp0 : Kp X Γ [0, 2, 3, 4, 5, 18, 21, 23, 25, 27] H0 H0 := Kp.rf
  have hl : lv_has ls 5 [(0, .ref h0), (1, .int p1), (2, .int p2), (3, .int p3)] := hl
  refine lv_aload_n hx hb dX11_mean_0 rfl (lv_at hl 0 rfl) ?_
  refine lv_iload_n hx hb dX11_mean_1 rfl (lv_at hl 1 rfl) ?_
  refine lv_iload_n hx hb dX11_mean_2 rfl (lv_at hl 2 rfl) ?_
  refine lv_iload_n hx hb dX11_mean_3 rfl (lv_at hl 3 rfl) ?_
  refine q_goI (q_runV (As := [.int p1, .int p2, .int p3]) (rest := []) E hC0 hS0 (m_X11_weigh l X Γ H0 hC0 h0 g0 p1 (a1 := a1) e1 p2 (a2 := a2) e2 p3 (a3 := a3) e3 ta td nd sh) cw_X11_weigh cl_RX11_353 g0 ⟨rfl, rfl⟩ rfl hl.1 rfl (Nat.zero_le _) (by decide) dX11_mean_4) hS0 (fun v21 H21 locs21 hr21 hC21 hS21 => ?_)
  obtain ⟨hp21, hr21⟩ := hr21
  have hKp21 := hKp0.tr (hp21.mono rfl)
  have f21_0 := hr21
  have hwg := f21_0
  refine lv_istore hx hb dX11_mean_7 hl (by decide) rfl (fun ls hl => ?_)
  replace hl : lv_has ls 5 [(4, .int v21), (0, .ref h0), (1, .int p1), (2, .int p2), (3, .int p3)] := hl
  refine lv_iload hx hb dX11_mean_9 (lv_at hl 0 rfl) ?_
  refine q_if_eq hx hb (a := v21.toInt) rfl (tgt := 21) dX11_mean_11 rfl (fun c22 => ?_) (fun c22 => ?_)
  · refine lv_aload_n hx hb dX11_mean_21 rfl (lv_at hl 1 rfl) ?_
    refine q_getR E hC21 g0 fa_RX11_84 dX11_mean_22 (fun q23 eq23 gq23 => ?_)
    refine q_goV (q_runV (As := []) (rest := []) E hC21 hS21 (m_X1_tellMean l X Γ H21 hC21 q23 gq23) cw_X1_tellMean cl_RX11_359 gq23 ⟨rfl, rfl⟩ rfl hl.1 rfl (Nat.zero_le _) (by decide) dX11_mean_25) hS21 (fun H24 locs24 hr24 hC24 hS24 => ?_)
    have hKp24 := hKp21.tr (hr24.mono rfl)
    refine lv_aload_n hx hb dX11_mean_28 rfl (lv_at hl 1 rfl) ?_
    refine q_goI (q_runV (As := []) (rest := []) E hC24 hS24 (m_X11_grant l X Γ H24 hC24 h0 g0) cw_X11_grant cl_RX11_135 g0 ⟨rfl, rfl⟩ rfl hl.1 rfl (Nat.zero_le _) (by decide) dX11_mean_29) hS24 (fun v25 H25 locs25 hr25 hC25 hS25 => ?_)
    obtain ⟨hp25, hr25⟩ := hr25
    have hKp25 := hKp24.tr (hp25.mono rfl)
    rcases hr25 with ⟨rfl, -⟩ | ⟨rfl, f25b⟩
    · have hya : WGY a3 (sI H0 (td (a3 : Int).toNat) (X.1.2 6 2)).toInt a1 a2 (CBn (nCI nd H0 a3)) := by (rcases hwg with ⟨h, hh⟩ | ⟨h, hh⟩ <;> first | exact hh | (exfalso; omega))
      exact ret 1 H25 locs25 _ _ dX11_mean_32 (Or.inr rfl) ⟨hKp25, Or.inl ⟨rfl, hya⟩⟩ hC25 hS25
    · exact absurd f25b (by decide)
  · refine lv_aload_n hx hb dX11_mean_14 rfl (lv_at hl 1 rfl) ?_
    refine lv_iload hx hb dX11_mean_15 (lv_at hl 0 rfl) ?_
    refine q_goI (q_runV (As := [.int v21]) (rest := []) E hC21 hS21 (m_X11_deny l X Γ H21 hC21 h0 g0 v21 (a1 := v21.toInt) rfl) cw_X11_deny cl_RX11_128 g0 ⟨rfl, rfl⟩ rfl hl.1 rfl (Nat.zero_le _) (by decide) dX11_mean_17) hS21 (fun v26 H26 locs26 hr26 hC26 hS26 => ?_)
    obtain ⟨hp26, hr26⟩ := hr26
    have hKp26 := hKp21.tr (hp26.mono rfl)
    rcases hr26 with ⟨rfl, f26a⟩ | ⟨rfl, -⟩
    · exact absurd f26a (by decide)
    · have hnb : ¬ WGY a3 (sI H0 (td (a3 : Int).toNat) (X.1.2 6 2)).toInt a1 a2 (CBn (nCI nd H0 a3)) := by (rcases hwg with ⟨h, hh⟩ | ⟨h, hh⟩ <;> first | exact hh | (exfalso; omega))
      exact ret 0 H26 locs26 _ _ dX11_mean_20 (Or.inl rfl) ⟨hKp26, Or.inr ⟨rfl, hnb⟩⟩ hC26 hS26
set_option maxRecDepth 100000 in
set_option maxHeartbeats 4000000 in
theorem m_X5_behindEnd (l : Launch) (X : xW) (Γ : Nat → Option Nat) (H0 : Heap) (hC0 : Conf X Γ H0) (h0 : Nat) (g0 : Γ h0 = some 10) (h1 : Nat) (g1 : Γ h1 = some 6) (p2 : Int32) {a2 : Int} (e2 : p2.toInt = a2) : Ctr l X Γ yX5_behindEnd cX5_behindEnd 4 (some .int) 1 [.ref h0, .ref h1, .int p2] H0 (QI X Γ (fun v H1 => Kp X Γ [0, 2, 3, 4, 5, 18, 21, 23, 25, 27] H0 H1 ∧ (True))) := by
  refine q_enterI (own := "SnowForts$Runner") (by decide) rfl (Nat.le_of_ble_eq_true rfl) ?_
  intro p e s m args below meth c ls Qz E hl ret hS0
  have hx := E.1; have hb := E.2.1
  have hKp0 : Kp X Γ [0, 2, 3, 4, 5, 18, 21, 23, 25, 27] H0 H0 := Kp.rf
  have hl : lv_has ls 4 [(0, .ref h0), (1, .ref h1), (2, .int p2)] := hl
  refine lv_iload_n hx hb dX5_behindEnd_0 rfl (lv_at hl 2 rfl) ?_
  refine q_goIp (q_runS (As := [.int p2]) (rest := []) E hS0 (m_X2_isItem l X Γ H0 hC0 p2 (a0 := a2) e2) cw_X2_isItem cl_RX5_44 rfl hl.1 rfl (Nat.zero_le _) (by decide) dX5_behindEnd_1) hS0 (fun v21 locs21 hr21 hS21 => ?_)
  rcases hr21 with ⟨rfl, f21a0, f21a1⟩ | ⟨rfl, -⟩
  · refine q_if_eq hx hb (a := 1) (by decide) (tgt := 16) dX5_behindEnd_4 rfl (fun c22 => absurd c22 (by omega)) (fun c22 => ?_)
    refine lv_aload_n hx hb dX5_behindEnd_7 rfl (lv_at hl 1 rfl) ?_
    refine q_getR E hC0 g1 fa_RX5_62 dX5_behindEnd_8 (fun q23 eq23 gq23 => ?_)
    refine lv_iload_n hx hb dX5_behindEnd_11 rfl (lv_at hl 2 rfl) ?_
    refine q_iald E hC0 gq23 rfl rfl (fun _ h => h) (i_in (a := a2) e2 (by omega) (by omega)) dX5_behindEnd_12 (fun v24 ev24 _ _ => ?_)
    refine lv_goto (tgt := 17) hx hb dX5_behindEnd_13 rfl ?_
    refine lv_istore_n hx hb dX5_behindEnd_17 rfl hl (by decide) rfl (fun ls hl => ?_)
    replace hl : lv_has ls 4 [(3, .int v24), (0, .ref h0), (1, .ref h1), (2, .int p2)] := hl
    refine lv_iload_n hx hb dX5_behindEnd_18 rfl (lv_at hl 0 rfl) ?_
    refine q_goIp (q_runS (As := [.int v24]) (rest := []) E hS21 (m_X2_isItem l X Γ H0 hC0 v24 (a0 := v24.toInt) rfl) cw_X2_isItem cl_RX5_44 rfl hl.1 rfl (Nat.zero_le _) (by decide) dX5_behindEnd_19) hS21 (fun v25 locs25 hr25 hS25 => ?_)
    rcases hr25 with ⟨rfl, f25a0, f25a1⟩ | ⟨rfl, -⟩
    · refine q_if_eq hx hb (a := 1) (by decide) (tgt := 46) dX5_behindEnd_22 rfl (fun c26 => absurd c26 (by omega)) (fun c26 => ?_)
      refine lv_aload_n hx hb dX5_behindEnd_25 rfl (lv_at hl 2 rfl) ?_
      refine q_getR E hC0 g1 fa_RX5_48 dX5_behindEnd_26 (fun q27 eq27 gq27 => ?_)
      refine lv_iload_n hx hb dX5_behindEnd_29 rfl (lv_at hl 0 rfl) ?_
      refine q_iald E hC0 gq27 rfl rfl (fun _ h => h) (i_in (a := v24.toInt) rfl (by omega) (by omega)) dX5_behindEnd_30 (fun v28 ev28 _ _ => ?_)
      refine lv_bipush (v := 11) hx hb dX5_behindEnd_31 rfl ?_
      refine q_icmp_ne hx hb (a := v28.toInt) (b := 11) rfl (by decide) (tgt := 46) dX5_behindEnd_33 rfl (fun c29 => ?_) (fun c29 => ?_)
      · refine lv_iload_n hx hb dX5_behindEnd_46 rfl (lv_at hl 3 rfl) ?_
        refine lv_iconst (v := 1) hx hb dX5_behindEnd_47 rfl ?_
        refine lv_iadd hx hb dX5_behindEnd_48 (lv_topi (fun v30 ev30 => ?_))
        have ev30i : v30.toInt = (a2 + 1) := i_add ev30 e2 (by decide) (by omega) (by omega)
        exact ret v30 H0 locs25 _ _ dX5_behindEnd_49 ⟨hKp0, trivial⟩ hC0 hS25
      · refine lv_aload_n hx hb dX5_behindEnd_36 rfl (lv_at hl 1 rfl) ?_
        refine q_getR E hC0 g0 fa_RX5_17 dX5_behindEnd_37 (fun q31 eq31 gq31 => ?_)
        refine lv_iload_n hx hb dX5_behindEnd_40 rfl (lv_at hl 0 rfl) ?_
        refine q_iald E hC0 gq31 rfl rfl (fun _ h => h) (i_in (a := v24.toInt) rfl (by omega) (by omega)) dX5_behindEnd_41 (fun v32 ev32 _ _ => ?_)
        refine lv_iconst (v := 1) hx hb dX5_behindEnd_42 rfl ?_
        refine q_icmp_gt hx hb (a := v32.toInt) (b := 1) rfl (by decide) (tgt := 50) dX5_behindEnd_43 rfl (fun c33 => ?_) (fun c33 => ?_)
        · refine lv_aload_n hx hb dX5_behindEnd_50 rfl (lv_at hl 1 rfl) ?_
          refine q_getR E hC0 g0 fa_RX5_17 dX5_behindEnd_51 (fun q34 eq34 gq34 => ?_)
          refine lv_iload_n hx hb dX5_behindEnd_54 rfl (lv_at hl 0 rfl) ?_
          refine lv_dup2_11 hx hb dX5_behindEnd_55 rfl rfl ?_
          refine q_iald E hC0 gq34 rfl rfl (fun _ h => h) (i_in (a := v24.toInt) rfl (by omega) (by omega)) dX5_behindEnd_56 (fun v35 ev35 _ _ => ?_)
          refine lv_iconst (v := 1) hx hb dX5_behindEnd_57 rfl ?_
          refine lv_isub hx hb dX5_behindEnd_58 (lv_topi (fun v36 ev36 => ?_))
          refine q_iast E hC0 hS25 gq34 (by decide) rfl rfl (i_in (a := v24.toInt) rfl (by omega) (by omega)) tv_F dX5_behindEnd_59 (fun H37 locs37 hC37 hS37 U37 => ?_)
          have hKp37 := Kp.upA gq34 rfl (by decide) rfl U37 hKp0
          refine lv_iload_n hx hb dX5_behindEnd_60 rfl (lv_at hl 0 rfl) ?_
          refine lv_iconst (v := 1) hx hb dX5_behindEnd_61 rfl ?_
          refine lv_iadd hx hb dX5_behindEnd_62 (lv_topi (fun v38 ev38 => ?_))
          have ev38i : v38.toInt = (v24.toInt + 1) := i_add ev38 rfl (by decide) (by omega) (by omega)
          exact ret v38 H37 locs37 _ _ dX5_behindEnd_63 ⟨hKp37, trivial⟩ hC37 hS37
        · refine lv_iload_n hx hb dX5_behindEnd_46 rfl (lv_at hl 3 rfl) ?_
          refine lv_iconst (v := 1) hx hb dX5_behindEnd_47 rfl ?_
          refine lv_iadd hx hb dX5_behindEnd_48 (lv_topi (fun v39 ev39 => ?_))
          have ev39i : v39.toInt = (a2 + 1) := i_add ev39 e2 (by decide) (by omega) (by omega)
          exact ret v39 H0 locs25 _ _ dX5_behindEnd_49 ⟨hKp0, trivial⟩ hC0 hS25
    · refine q_if_eq hx hb (a := 0) (by decide) (tgt := 46) dX5_behindEnd_22 rfl (fun c40 => ?_) (fun c40 => absurd c40 (by omega))
      refine lv_iload_n hx hb dX5_behindEnd_46 rfl (lv_at hl 3 rfl) ?_
      refine lv_iconst (v := 1) hx hb dX5_behindEnd_47 rfl ?_
      refine lv_iadd hx hb dX5_behindEnd_48 (lv_topi (fun v41 ev41 => ?_))
      have ev41i : v41.toInt = (a2 + 1) := i_add ev41 e2 (by decide) (by omega) (by omega)
      exact ret v41 H0 locs25 _ _ dX5_behindEnd_49 ⟨hKp0, trivial⟩ hC0 hS25
  · refine q_if_eq hx hb (a := 0) (by decide) (tgt := 16) dX5_behindEnd_4 rfl (fun c42 => ?_) (fun c42 => absurd c42 (by omega))
    refine lv_iconst (v := (-1)) hx hb dX5_behindEnd_16 rfl ?_
    refine lv_istore_n hx hb dX5_behindEnd_17 rfl hl (by decide) rfl (fun ls hl => ?_)
    replace hl : lv_has ls 4 [(3, .int (-1)), (0, .ref h0), (1, .ref h1), (2, .int p2)] := hl
    refine lv_iload_n hx hb dX5_behindEnd_18 rfl (lv_at hl 0 rfl) ?_
    refine q_goIp (q_runS (As := [.int (-1)]) (rest := []) E hS21 (m_X2_isItem l X Γ H0 hC0 (-1) (a0 := (-1)) (by decide)) cw_X2_isItem cl_RX5_44 rfl hl.1 rfl (Nat.zero_le _) (by decide) dX5_behindEnd_19) hS21 (fun v43 locs43 hr43 hS43 => ?_)
    rcases hr43 with ⟨rfl, f43a0, f43a1⟩ | ⟨rfl, -⟩
    · refine q_if_eq hx hb (a := 1) (by decide) (tgt := 46) dX5_behindEnd_22 rfl (fun c44 => absurd c44 (by omega)) (fun c44 => ?_)
      refine lv_aload_n hx hb dX5_behindEnd_25 rfl (lv_at hl 2 rfl) ?_
      refine q_getR E hC0 g1 fa_RX5_48 dX5_behindEnd_26 (fun q45 eq45 gq45 => ?_)
      refine lv_iload_n hx hb dX5_behindEnd_29 rfl (lv_at hl 0 rfl) ?_
      refine q_iald E hC0 gq45 rfl rfl (fun _ h => h) (i_in (a := (-1)) (show ((-1) : Int32).toInt = (-1) from by decide) (by omega) (by omega)) dX5_behindEnd_30 (fun v46 ev46 _ _ => ?_)
      refine lv_bipush (v := 11) hx hb dX5_behindEnd_31 rfl ?_
      refine q_icmp_ne hx hb (a := v46.toInt) (b := 11) rfl (by decide) (tgt := 46) dX5_behindEnd_33 rfl (fun c47 => ?_) (fun c47 => ?_)
      · refine lv_iload_n hx hb dX5_behindEnd_46 rfl (lv_at hl 3 rfl) ?_
        refine lv_iconst (v := 1) hx hb dX5_behindEnd_47 rfl ?_
        refine lv_iadd hx hb dX5_behindEnd_48 (lv_topi (fun v48 ev48 => ?_))
        exact ret v48 H0 locs43 _ _ dX5_behindEnd_49 ⟨hKp0, trivial⟩ hC0 hS43
      · refine lv_aload_n hx hb dX5_behindEnd_36 rfl (lv_at hl 1 rfl) ?_
        refine q_getR E hC0 g0 fa_RX5_17 dX5_behindEnd_37 (fun q49 eq49 gq49 => ?_)
        refine lv_iload_n hx hb dX5_behindEnd_40 rfl (lv_at hl 0 rfl) ?_
        refine q_iald E hC0 gq49 rfl rfl (fun _ h => h) (i_in (a := (-1)) (show ((-1) : Int32).toInt = (-1) from by decide) (by omega) (by omega)) dX5_behindEnd_41 (fun v50 ev50 _ _ => ?_)
        refine lv_iconst (v := 1) hx hb dX5_behindEnd_42 rfl ?_
        refine q_icmp_gt hx hb (a := v50.toInt) (b := 1) rfl (by decide) (tgt := 50) dX5_behindEnd_43 rfl (fun c51 => ?_) (fun c51 => ?_)
        · refine lv_aload_n hx hb dX5_behindEnd_50 rfl (lv_at hl 1 rfl) ?_
          refine q_getR E hC0 g0 fa_RX5_17 dX5_behindEnd_51 (fun q52 eq52 gq52 => ?_)
          refine lv_iload_n hx hb dX5_behindEnd_54 rfl (lv_at hl 0 rfl) ?_
          refine lv_dup2_11 hx hb dX5_behindEnd_55 rfl rfl ?_
          refine q_iald E hC0 gq52 rfl rfl (fun _ h => h) (i_in (a := (-1)) (show ((-1) : Int32).toInt = (-1) from by decide) (by omega) (by omega)) dX5_behindEnd_56 (fun v53 ev53 _ _ => ?_)
          refine lv_iconst (v := 1) hx hb dX5_behindEnd_57 rfl ?_
          refine lv_isub hx hb dX5_behindEnd_58 (lv_topi (fun v54 ev54 => ?_))
          refine q_iast E hC0 hS43 gq52 (by decide) rfl rfl (i_in (a := (-1)) (show ((-1) : Int32).toInt = (-1) from by decide) (by omega) (by omega)) tv_F dX5_behindEnd_59 (fun H55 locs55 hC55 hS55 U55 => ?_)
          have hKp55 := Kp.upA gq52 rfl (by decide) rfl U55 hKp0
          refine lv_iload_n hx hb dX5_behindEnd_60 rfl (lv_at hl 0 rfl) ?_
          refine lv_iconst (v := 1) hx hb dX5_behindEnd_61 rfl ?_
          refine lv_iadd hx hb dX5_behindEnd_62 (lv_topi (fun v56 ev56 => ?_))
          have ev56i : v56.toInt = ((-1) + 1) := i_add ev56 (by decide) (by decide) (by omega) (by omega)
          exact ret v56 H55 locs55 _ _ dX5_behindEnd_63 ⟨hKp55, trivial⟩ hC55 hS55
        · refine lv_iload_n hx hb dX5_behindEnd_46 rfl (lv_at hl 3 rfl) ?_
          refine lv_iconst (v := 1) hx hb dX5_behindEnd_47 rfl ?_
          refine lv_iadd hx hb dX5_behindEnd_48 (lv_topi (fun v57 ev57 => ?_))
          exact ret v57 H0 locs43 _ _ dX5_behindEnd_49 ⟨hKp0, trivial⟩ hC0 hS43
    · refine q_if_eq hx hb (a := 0) (by decide) (tgt := 46) dX5_behindEnd_22 rfl (fun c58 => ?_) (fun c58 => absurd c58 (by omega))
      refine lv_iload_n hx hb dX5_behindEnd_46 rfl (lv_at hl 3 rfl) ?_
      refine lv_iconst (v := 1) hx hb dX5_behindEnd_47 rfl ?_
      refine lv_iadd hx hb dX5_behindEnd_48 (lv_topi (fun v59 ev59 => ?_))
      exact ret v59 H0 locs43 _ _ dX5_behindEnd_49 ⟨hKp0, trivial⟩ hC0 hS43
set_option maxRecDepth 100000 in
set_option maxHeartbeats 4000000 in
theorem m_X5_behindTest (l : Launch) (X : xW) (Γ : Nat → Option Nat) (H0 : Heap) (hC0 : Conf X Γ H0) (h0 : Nat) (g0 : Γ h0 = some 6) (p1 : Int32) {a1 : Int} (e1 : p1.toInt = a1) (p2 : Int32) {a2 : Int} (e2 : p2.toInt = a2) : Ctr l X Γ yX5_behindTest cX5_behindTest 6 (some .int) 1 [.ref h0, .int p1, .int p2] H0 (QI X Γ (fun v H1 => H1 = H0 ∧ (True))) := by
  refine q_enterI (own := "SnowForts$Runner") (by decide) rfl (Nat.le_of_ble_eq_true rfl) ?_
  intro p e s m args below meth c ls Qz E hl ret hS0
  have hx := E.1; have hb := E.2.1
  have hl : lv_has ls 6 [(0, .ref h0), (1, .int p1), (2, .int p2)] := hl
  refine lv_iload_n hx hb dX5_behindTest_0 rfl (lv_at hl 1 rfl) ?_
  refine q_goIp (q_runS (As := [.int p1]) (rest := []) E hS0 (m_X2_isItem l X Γ H0 hC0 p1 (a0 := a1) e1) cw_X2_isItem cl_RX5_44 rfl hl.1 rfl (Nat.zero_le _) (by decide) dX5_behindTest_1) hS0 (fun v21 locs21 hr21 hS21 => ?_)
  rcases hr21 with ⟨rfl, f21a0, f21a1⟩ | ⟨rfl, -⟩
  · refine q_if_ne hx hb (a := 1) (by decide) (tgt := 11) dX5_behindTest_4 rfl (fun c22 => ?_) (fun c22 => absurd c22 (by omega))
    refine lv_aload_n hx hb dX5_behindTest_11 rfl (lv_at hl 0 rfl) ?_
    refine q_getR E hC0 g0 fa_RX5_65 dX5_behindTest_12 (fun q23 eq23 gq23 => ?_)
    refine lv_iload_n hx hb dX5_behindTest_15 rfl (lv_at hl 1 rfl) ?_
    refine q_iald E hC0 gq23 rfl rfl (fun _ h => h) (i_in (a := a1) e1 (by omega) (by omega)) dX5_behindTest_16 (fun v24 ev24 _ _ => ?_)
    refine lv_istore_n hx hb dX5_behindTest_17 rfl hl (by decide) rfl (fun ls hl => ?_)
    replace hl : lv_has ls 6 [(3, .int v24), (0, .ref h0), (1, .int p1), (2, .int p2)] := hl
    refine lv_aload_n hx hb dX5_behindTest_18 rfl (lv_at hl 1 rfl) ?_
    refine q_getR E hC0 g0 fa_RX5_92 dX5_behindTest_19 (fun q25 eq25 gq25 => ?_)
    refine lv_iload_n hx hb dX5_behindTest_22 rfl (lv_at hl 2 rfl) ?_
    refine q_iald E hC0 gq25 rfl rfl (fun _ h => h) (i_in (a := a1) e1 (by omega) (by omega)) dX5_behindTest_23 (fun v26 ev26 _ _ => ?_)
    refine lv_istore hx hb dX5_behindTest_24 hl (by decide) rfl (fun ls hl => ?_)
    replace hl : lv_has ls 6 [(4, .int v26), (3, .int v24), (0, .ref h0), (1, .int p1), (2, .int p2)] := hl
    refine lv_iload hx hb dX5_behindTest_26 (lv_at hl 0 rfl) ?_
    refine lv_bipush (v := 60) hx hb dX5_behindTest_28 rfl ?_
    refine q_icmp_ne hx hb (a := v26.toInt) (b := 60) rfl (by decide) (tgt := 46) dX5_behindTest_30 rfl (fun c27 => ?_) (fun c27 => ?_)
    · refine lv_iload hx hb dX5_behindTest_46 (lv_at hl 0 rfl) ?_
      refine lv_bipush (v := 62) hx hb dX5_behindTest_48 rfl ?_
      refine q_icmp_ne hx hb (a := v26.toInt) (b := 62) rfl (by decide) (tgt := 66) dX5_behindTest_50 rfl (fun c28 => ?_) (fun c28 => ?_)
      · refine lv_iload_n hx hb dX5_behindTest_66 rfl (lv_at hl 4 rfl) ?_
        refine lv_iload_n hx hb dX5_behindTest_67 rfl (lv_at hl 1 rfl) ?_
        have c29 := i_rng p2; rw [show p2.toInt = a2 from e2] at c29
        have c30 := i_rng v24; rw [show v24.toInt = v24.toInt from rfl] at c30
        refine q_icmp_ne hx hb (a := a2) (b := v24.toInt) e2 rfl (tgt := 75) dX5_behindTest_68 rfl (fun c31 => ?_) (fun c31 => ?_)
        · refine lv_iconst (v := 0) hx hb dX5_behindTest_75 rfl ?_
          refine lv_istore hx hb dX5_behindTest_76 hl (by decide) rfl (fun ls hl => ?_)
          replace hl : lv_has ls 6 [(5, .int 0), (4, .int v26), (3, .int v24), (0, .ref h0), (1, .int p1), (2, .int p2)] := hl
          refine lv_iload hx hb dX5_behindTest_78 (lv_at hl 0 rfl) ?_
          refine q_if_eq hx hb (a := 0) (by decide) (tgt := 89) dX5_behindTest_80 rfl (fun c32 => ?_) (fun c32 => absurd c32 (by omega))
          refine lv_aload_n hx hb dX5_behindTest_89 rfl (lv_at hl 3 rfl) ?_
          refine q_getR E hC0 g0 fa_RX5_62 dX5_behindTest_90 (fun q33 eq33 gq33 => ?_)
          refine lv_iload_n hx hb dX5_behindTest_93 rfl (lv_at hl 4 rfl) ?_
          refine q_iald E hC0 gq33 rfl rfl (fun _ h => h) (i_in (a := a1) e1 (by omega) (by omega)) dX5_behindTest_94 (fun v34 ev34 _ _ => ?_)
          refine lv_iconst (v := 1) hx hb dX5_behindTest_95 rfl ?_
          refine lv_iadd hx hb dX5_behindTest_96 (lv_topi (fun v35 ev35 => ?_))
          exact ret v35 H0 locs21 _ _ dX5_behindTest_97 ⟨rfl, trivial⟩ hC0 hS21
        · refine lv_iconst (v := 1) hx hb dX5_behindTest_71 rfl ?_
          refine lv_goto (tgt := 76) hx hb dX5_behindTest_72 rfl ?_
          refine lv_istore hx hb dX5_behindTest_76 hl (by decide) rfl (fun ls hl => ?_)
          replace hl : lv_has ls 6 [(5, .int 1), (4, .int v26), (3, .int v24), (0, .ref h0), (1, .int p1), (2, .int p2)] := hl
          refine lv_iload hx hb dX5_behindTest_78 (lv_at hl 0 rfl) ?_
          refine q_if_eq hx hb (a := 1) (by decide) (tgt := 89) dX5_behindTest_80 rfl (fun c36 => absurd c36 (by omega)) (fun c36 => ?_)
          refine lv_iload_n hx hb dX5_behindTest_83 rfl (lv_at hl 4 rfl) ?_
          refine lv_iconst (v := 1) hx hb dX5_behindTest_84 rfl ?_
          refine lv_iadd hx hb dX5_behindTest_85 (lv_topi (fun v37 ev37 => ?_))
          have ev37i : v37.toInt = (a1 + 1) := i_add ev37 e1 (by decide) (by omega) (by omega)
          refine lv_goto (tgt := 97) hx hb dX5_behindTest_86 rfl ?_
          exact ret v37 H0 locs21 _ _ dX5_behindTest_97 ⟨rfl, trivial⟩ hC0 hS21
      · refine lv_iload_n hx hb dX5_behindTest_53 rfl (lv_at hl 4 rfl) ?_
        refine lv_iload_n hx hb dX5_behindTest_54 rfl (lv_at hl 1 rfl) ?_
        have c38 := i_rng p2; rw [show p2.toInt = a2 from e2] at c38
        have c39 := i_rng v24; rw [show v24.toInt = v24.toInt from rfl] at c39
        refine q_icmp_le hx hb (a := a2) (b := v24.toInt) e2 rfl (tgt := 62) dX5_behindTest_55 rfl (fun c40 => ?_) (fun c40 => ?_)
        · refine lv_iconst (v := 0) hx hb dX5_behindTest_62 rfl ?_
          refine lv_goto (tgt := 76) hx hb dX5_behindTest_63 rfl ?_
          refine lv_istore hx hb dX5_behindTest_76 hl (by decide) rfl (fun ls hl => ?_)
          replace hl : lv_has ls 6 [(5, .int 0), (4, .int v26), (3, .int v24), (0, .ref h0), (1, .int p1), (2, .int p2)] := hl
          refine lv_iload hx hb dX5_behindTest_78 (lv_at hl 0 rfl) ?_
          refine q_if_eq hx hb (a := 0) (by decide) (tgt := 89) dX5_behindTest_80 rfl (fun c41 => ?_) (fun c41 => absurd c41 (by omega))
          refine lv_aload_n hx hb dX5_behindTest_89 rfl (lv_at hl 3 rfl) ?_
          refine q_getR E hC0 g0 fa_RX5_62 dX5_behindTest_90 (fun q42 eq42 gq42 => ?_)
          refine lv_iload_n hx hb dX5_behindTest_93 rfl (lv_at hl 4 rfl) ?_
          refine q_iald E hC0 gq42 rfl rfl (fun _ h => h) (i_in (a := a1) e1 (by omega) (by omega)) dX5_behindTest_94 (fun v43 ev43 _ _ => ?_)
          refine lv_iconst (v := 1) hx hb dX5_behindTest_95 rfl ?_
          refine lv_iadd hx hb dX5_behindTest_96 (lv_topi (fun v44 ev44 => ?_))
          exact ret v44 H0 locs21 _ _ dX5_behindTest_97 ⟨rfl, trivial⟩ hC0 hS21
        · refine lv_iconst (v := 1) hx hb dX5_behindTest_58 rfl ?_
          refine lv_goto (tgt := 76) hx hb dX5_behindTest_59 rfl ?_
          refine lv_istore hx hb dX5_behindTest_76 hl (by decide) rfl (fun ls hl => ?_)
          replace hl : lv_has ls 6 [(5, .int 1), (4, .int v26), (3, .int v24), (0, .ref h0), (1, .int p1), (2, .int p2)] := hl
          refine lv_iload hx hb dX5_behindTest_78 (lv_at hl 0 rfl) ?_
          refine q_if_eq hx hb (a := 1) (by decide) (tgt := 89) dX5_behindTest_80 rfl (fun c45 => absurd c45 (by omega)) (fun c45 => ?_)
          refine lv_iload_n hx hb dX5_behindTest_83 rfl (lv_at hl 4 rfl) ?_
          refine lv_iconst (v := 1) hx hb dX5_behindTest_84 rfl ?_
          refine lv_iadd hx hb dX5_behindTest_85 (lv_topi (fun v46 ev46 => ?_))
          have ev46i : v46.toInt = (a1 + 1) := i_add ev46 e1 (by decide) (by omega) (by omega)
          refine lv_goto (tgt := 97) hx hb dX5_behindTest_86 rfl ?_
          exact ret v46 H0 locs21 _ _ dX5_behindTest_97 ⟨rfl, trivial⟩ hC0 hS21
    · refine lv_iload_n hx hb dX5_behindTest_33 rfl (lv_at hl 4 rfl) ?_
      refine lv_iload_n hx hb dX5_behindTest_34 rfl (lv_at hl 1 rfl) ?_
      have c47 := i_rng p2; rw [show p2.toInt = a2 from e2] at c47
      have c48 := i_rng v24; rw [show v24.toInt = v24.toInt from rfl] at c48
      refine q_icmp_ge hx hb (a := a2) (b := v24.toInt) e2 rfl (tgt := 42) dX5_behindTest_35 rfl (fun c49 => ?_) (fun c49 => ?_)
      · refine lv_iconst (v := 0) hx hb dX5_behindTest_42 rfl ?_
        refine lv_goto (tgt := 76) hx hb dX5_behindTest_43 rfl ?_
        refine lv_istore hx hb dX5_behindTest_76 hl (by decide) rfl (fun ls hl => ?_)
        replace hl : lv_has ls 6 [(5, .int 0), (4, .int v26), (3, .int v24), (0, .ref h0), (1, .int p1), (2, .int p2)] := hl
        refine lv_iload hx hb dX5_behindTest_78 (lv_at hl 0 rfl) ?_
        refine q_if_eq hx hb (a := 0) (by decide) (tgt := 89) dX5_behindTest_80 rfl (fun c50 => ?_) (fun c50 => absurd c50 (by omega))
        refine lv_aload_n hx hb dX5_behindTest_89 rfl (lv_at hl 3 rfl) ?_
        refine q_getR E hC0 g0 fa_RX5_62 dX5_behindTest_90 (fun q51 eq51 gq51 => ?_)
        refine lv_iload_n hx hb dX5_behindTest_93 rfl (lv_at hl 4 rfl) ?_
        refine q_iald E hC0 gq51 rfl rfl (fun _ h => h) (i_in (a := a1) e1 (by omega) (by omega)) dX5_behindTest_94 (fun v52 ev52 _ _ => ?_)
        refine lv_iconst (v := 1) hx hb dX5_behindTest_95 rfl ?_
        refine lv_iadd hx hb dX5_behindTest_96 (lv_topi (fun v53 ev53 => ?_))
        exact ret v53 H0 locs21 _ _ dX5_behindTest_97 ⟨rfl, trivial⟩ hC0 hS21
      · refine lv_iconst (v := 1) hx hb dX5_behindTest_38 rfl ?_
        refine lv_goto (tgt := 76) hx hb dX5_behindTest_39 rfl ?_
        refine lv_istore hx hb dX5_behindTest_76 hl (by decide) rfl (fun ls hl => ?_)
        replace hl : lv_has ls 6 [(5, .int 1), (4, .int v26), (3, .int v24), (0, .ref h0), (1, .int p1), (2, .int p2)] := hl
        refine lv_iload hx hb dX5_behindTest_78 (lv_at hl 0 rfl) ?_
        refine q_if_eq hx hb (a := 1) (by decide) (tgt := 89) dX5_behindTest_80 rfl (fun c54 => absurd c54 (by omega)) (fun c54 => ?_)
        refine lv_iload_n hx hb dX5_behindTest_83 rfl (lv_at hl 4 rfl) ?_
        refine lv_iconst (v := 1) hx hb dX5_behindTest_84 rfl ?_
        refine lv_iadd hx hb dX5_behindTest_85 (lv_topi (fun v55 ev55 => ?_))
        have ev55i : v55.toInt = (a1 + 1) := i_add ev55 e1 (by decide) (by omega) (by omega)
        refine lv_goto (tgt := 97) hx hb dX5_behindTest_86 rfl ?_
        exact ret v55 H0 locs21 _ _ dX5_behindTest_97 ⟨rfl, trivial⟩ hC0 hS21
  · refine q_if_ne hx hb (a := 0) (by decide) (tgt := 11) dX5_behindTest_4 rfl (fun c56 => absurd c56 (by omega)) (fun c56 => ?_)
    refine lv_iload_n hx hb dX5_behindTest_7 rfl (lv_at hl 1 rfl) ?_
    refine lv_iconst (v := 1) hx hb dX5_behindTest_8 rfl ?_
    refine lv_iadd hx hb dX5_behindTest_9 (lv_topi (fun v57 ev57 => ?_))
    exact ret v57 H0 locs21 _ _ dX5_behindTest_10 ⟨rfl, trivial⟩ hC0 hS21
set_option maxRecDepth 100000 in
set_option maxHeartbeats 4000000 in
theorem m_X9_wallOf (l : Launch) (X : xW) (Γ : Nat → Option Nat) (H0 : Heap) (hC0 : Conf X Γ H0) (h0 : Nat) (g0 : Γ h0 = some 5) (p1 : Int32) {a1 : Int} (e1 : p1.toInt = a1) : Ctr l X Γ yX9_wallOf cX9_wallOf 2 (some .int) 0 [.ref h0, .int p1] H0 (QI X Γ (fun v H1 => H1 = H0 ∧ (True))) := by
  refine q_enterI (own := "SnowForts$Yard") (by decide) rfl (Nat.le_of_ble_eq_true rfl) ?_
  intro p e s m args below meth c ls Qz E hl ret hS0
  have hx := E.1; have hb := E.2.1
  have hl : lv_has ls 2 [(0, .ref h0), (1, .int p1)] := hl
  refine lv_iload_n hx hb dX9_wallOf_0 rfl (lv_at hl 1 rfl) ?_
  refine q_if_lt hx hb (a := a1) e1 (tgt := 19) dX9_wallOf_1 rfl (fun c21 => ?_) (fun c21 => ?_)
  · refine lv_iconst (v := 0) hx hb dX9_wallOf_19 rfl ?_
    exact ret 0 H0 [] _ _ dX9_wallOf_20 ⟨rfl, trivial⟩ hC0 hS0
  · refine lv_iload_n hx hb dX9_wallOf_4 rfl (lv_at hl 1 rfl) ?_
    refine lv_bipush (v := 36) hx hb dX9_wallOf_5 rfl ?_
    refine q_icmp_ge hx hb (a := a1) (b := 36) e1 (by decide) (tgt := 19) dX9_wallOf_7 rfl (fun c22 => ?_) (fun c22 => ?_)
    · refine lv_iconst (v := 0) hx hb dX9_wallOf_19 rfl ?_
      exact ret 0 H0 [] _ _ dX9_wallOf_20 ⟨rfl, trivial⟩ hC0 hS0
    · refine lv_aload_n hx hb dX9_wallOf_10 rfl (lv_at hl 0 rfl) ?_
      refine q_getR E hC0 g0 fa_RX9_37 dX9_wallOf_11 (fun q23 eq23 gq23 => ?_)
      refine lv_iload_n hx hb dX9_wallOf_14 rfl (lv_at hl 1 rfl) ?_
      refine q_iald E hC0 gq23 rfl rfl (fun _ h => h) (i_in (a := a1) e1 (by omega) (by omega)) dX9_wallOf_15 (fun v24 ev24 _ _ => ?_)
      refine lv_goto (tgt := 20) hx hb dX9_wallOf_16 rfl ?_
      exact ret v24 H0 [] _ _ dX9_wallOf_20 ⟨rfl, trivial⟩ hC0 hS0
set_option maxRecDepth 100000 in
set_option maxHeartbeats 4000000 in
theorem m_X5_draw (l : Launch) (X : xW) (Γ : Nat → Option Nat) (H0 : Heap) (hC0 : Conf X Γ H0) (h0 : Nat) (g0 : Γ h0 = some 10) (p1 : Int32) {a1 : Int} (e1 : p1.toInt = a1) : Ctr l X Γ yX5_draw cX5_draw 2 (some .int) 0 [.ref h0, .int p1] H0 (QI X Γ (fun v H1 => Kp X Γ [0, 2, 3, 4, 5, 18, 21, 23, 25, 27] H0 H1 ∧ (True))) := by
  refine q_enterI (own := "SnowForts$Runner") (by decide) rfl (Nat.le_of_ble_eq_true rfl) ?_
  intro p e s m args below meth c ls Qz E hl ret hS0
  have hx := E.1; have hb := E.2.1
  have hKp0 : Kp X Γ [0, 2, 3, 4, 5, 18, 21, 23, 25, 27] H0 H0 := Kp.rf
  have hl : lv_has ls 2 [(0, .ref h0), (1, .int p1)] := hl
  refine lv_aload_n hx hb dX5_draw_0 rfl (lv_at hl 0 rfl) ?_
  refine lv_aload_n hx hb dX5_draw_1 rfl (lv_at hl 0 rfl) ?_
  refine q_getI E hC0 g0 fa_RX5_31 dX5_draw_2 (fun v21 ev21 _ _ => ?_)
  refine lv_sipush (v := 2741) hx hb dX5_draw_5 rfl ?_
  refine lv_imul hx hb dX5_draw_8 (lv_topi (fun v22 ev22 => ?_))
  refine lv_sipush (v := 9337) hx hb dX5_draw_9 rfl ?_
  refine lv_iadd hx hb dX5_draw_12 (lv_topi (fun v23 ev23 => ?_))
  refine lv_ldc (v := 65536) hx hb E.2.2.2.1 (E.2.2.2.2.1 _ w_1263) dX5_draw_13 ?_
  refine lv_irem hx hb dX5_draw_15 (by decide) (lv_topi (fun v24 ev24 => ?_))
  have ev24b := i_remB ev24 rfl (show (65536 : Int32).toInt = 65536 from by decide) (by decide)
  refine q_put E hC0 hS0 g0 fp_RX5_31 tv_F rfl rfl dX5_draw_16 (fun H25 locs25 hC25 hS25 U25 => ?_)
  have hKp25 := Kp.upO E g0 fp_RX5_31 rfl U25 hKp0
  have e26 := up_I U25
  refine lv_iload_n hx hb dX5_draw_19 rfl (lv_at hl 1 rfl) ?_
  refine q_if_le hx hb (a := a1) e1 (tgt := 35) dX5_draw_20 rfl (fun c27 => ?_) (fun c27 => ?_)
  · refine lv_iconst (v := 0) hx hb dX5_draw_35 rfl ?_
    exact ret 0 H25 locs25 _ _ dX5_draw_36 ⟨hKp25, trivial⟩ hC25 hS25
  · refine lv_aload_n hx hb dX5_draw_23 rfl (lv_at hl 0 rfl) ?_
    refine q_getI E hC25 g0 fa_RX5_31 dX5_draw_24 (fun v28 ev28 _ _ => ?_)
    have qv28 := e26.symm.trans ev28; subst qv28
    refine lv_bipush (v := 8) hx hb dX5_draw_27 rfl ?_
    refine lv_idiv hx hb dX5_draw_29 (by decide) (lv_topi (fun v29 ev29 => ?_))
    refine lv_iload_n hx hb dX5_draw_30 rfl (lv_at hl 1 rfl) ?_
    refine lv_irem hx hb dX5_draw_31 (i_nz e1 (by omega)) (lv_topi (fun v30 ev30 => ?_))
    refine lv_goto (tgt := 36) hx hb dX5_draw_32 rfl ?_
    exact ret v30 H25 locs25 _ _ dX5_draw_36 ⟨hKp25, trivial⟩ hC25 hS25
set_option maxRecDepth 100000 in
set_option maxHeartbeats 4000000 in
theorem m_X5_act (l : Launch) (X : xW) (Γ : Nat → Option Nat) (H0 : Heap) (hC0 : Conf X Γ H0) (h0 : Nat) (g0 : Γ h0 = some 10) (h1 : Nat) (g1 : Γ h1 = some 6) (h2 : Nat) (g2 : Γ h2 = some 5) (p3 : Int32) {a3 : Int} (e3 : p3.toInt = a3) : Ctr l X Γ yX5_act cX5_act 7 none 4 [.ref h0, .ref h1, .ref h2, .int p3] H0 (QV X Γ (fun H1 => Kp X Γ [0, 2, 3, 4, 5, 18, 21, 23, 25, 27] H0 H1)) := by
  refine q_enterV (own := "SnowForts$Runner") (by decide) rfl (Nat.le_of_ble_eq_true rfl) ?_
  intro p e s m args below meth c ls Qz E hl ret hS0
  have hx := E.1; have hb := E.2.1
  have hKp0 : Kp X Γ [0, 2, 3, 4, 5, 18, 21, 23, 25, 27] H0 H0 := Kp.rf
  have hl : lv_has ls 7 [(0, .ref h0), (1, .ref h1), (2, .ref h2), (3, .int p3)] := hl
  refine lv_iload_n hx hb dX5_act_0 rfl (lv_at hl 3 rfl) ?_
  refine q_goIp (q_runS (As := [.int p3]) (rest := []) E hS0 (m_X2_isItem l X Γ H0 hC0 p3 (a0 := a3) e3) cw_X2_isItem cl_RX5_44 rfl hl.1 rfl (Nat.zero_le _) (by decide) dX5_act_1) hS0 (fun v21 locs21 hr21 hS21 => ?_)
  rcases hr21 with ⟨rfl, f21a0, f21a1⟩ | ⟨rfl, -⟩
  · refine q_if_ne hx hb (a := 1) (by decide) (tgt := 8) dX5_act_4 rfl (fun c22 => ?_) (fun c22 => absurd c22 (by omega))
    refine lv_aload_n hx hb dX5_act_8 rfl (lv_at hl 1 rfl) ?_
    refine q_getR E hC0 g1 fa_RX5_65 dX5_act_9 (fun q23 eq23 gq23 => ?_)
    refine lv_iload_n hx hb dX5_act_12 rfl (lv_at hl 3 rfl) ?_
    refine q_iald E hC0 gq23 rfl rfl (fun _ h => h) (i_in (a := a3) e3 (by omega) (by omega)) dX5_act_13 (fun v24 ev24 _ _ => ?_)
    refine lv_istore hx hb dX5_act_14 hl (by decide) rfl (fun ls hl => ?_)
    replace hl : lv_has ls 7 [(4, .int v24), (0, .ref h0), (1, .ref h1), (2, .ref h2), (3, .int p3)] := hl
    refine lv_aload_n hx hb dX5_act_16 rfl (lv_at hl 2 rfl) ?_
    refine q_getR E hC0 g1 fa_RX5_75 dX5_act_17 (fun q25 eq25 gq25 => ?_)
    refine lv_iload_n hx hb dX5_act_20 rfl (lv_at hl 4 rfl) ?_
    refine q_iald E hC0 gq25 rfl rfl (fun _ h => h) (i_in (a := a3) e3 (by omega) (by omega)) dX5_act_21 (fun v26 ev26 _ _ => ?_)
    refine lv_istore hx hb dX5_act_22 hl (by decide) rfl (fun ls hl => ?_)
    replace hl : lv_has ls 7 [(5, .int v26), (4, .int v24), (0, .ref h0), (1, .ref h1), (2, .ref h2), (3, .int p3)] := hl
    refine lv_aload_n hx hb dX5_act_24 rfl (lv_at hl 3 rfl) ?_
    refine q_getR E hC0 g1 fa_RX5_48 dX5_act_25 (fun q27 eq27 gq27 => ?_)
    refine lv_iload_n hx hb dX5_act_28 rfl (lv_at hl 5 rfl) ?_
    refine q_iald E hC0 gq27 rfl rfl (fun _ h => h) (i_in (a := a3) e3 (by omega) (by omega)) dX5_act_29 (fun v28 ev28 _ _ => ?_)
    by_cases c29_0 : v28.toInt = 0
    · have c29_x := (show v28.toInt = v28.toInt from rfl).trans c29_0
      refine lv_tableIn hx hb dX5_act_30 (by rw [c29_x]; decide) (by rw [c29_x]; decide) (off := 38) (by rw [c29_x]; rfl) (tgt := 68) rfl ?_
      refine lv_aload_n hx hb dX5_act_68 rfl (lv_at hl 4 rfl) ?_
      refine lv_iload hx hb dX5_act_69 (lv_at hl 1 rfl) ?_
      refine q_goI (q_runV (As := [.int v24]) (rest := []) E hC0 hS21 (m_X9_snowFalls l X Γ H0 hC0 h2 g2 v24 (a1 := v24.toInt) rfl) cw_X9_snowFalls cl_RX5_95 g2 ⟨rfl, rfl⟩ rfl hl.1 rfl (Nat.zero_le _) (by decide) dX5_act_71) hS21 (fun v30 H30 locs30 hr30 hC30 hS30 => ?_)
      obtain ⟨hp30, hr30⟩ := hr30
      have hKp30 := hKp0.tr (hp30.mono rfl)
      refine lv_pop hx hb dX5_act_74 rfl ?_
      refine lv_goto (tgt := 238) hx hb dX5_act_75 rfl ?_
      exact ret H30 locs30 _ _ dX5_act_238 hKp30 hC30 hS30
    by_cases c29_1 : v28.toInt = 1
    · have c29_x := (show v28.toInt = v28.toInt from rfl).trans c29_1
      refine lv_tableIn hx hb dX5_act_30 (by rw [c29_x]; decide) (by rw [c29_x]; decide) (off := 48) (by rw [c29_x]; rfl) (tgt := 78) rfl ?_
      refine lv_aload_n hx hb dX5_act_78 rfl (lv_at hl 4 rfl) ?_
      refine lv_iload hx hb dX5_act_79 (lv_at hl 1 rfl) ?_
      refine q_goI (q_runV (As := [.int v24]) (rest := []) E hC0 hS21 (m_X9_melts l X Γ H0 hC0 h2 g2 v24 (a1 := v24.toInt) rfl) cw_X9_melts cl_RX5_98 g2 ⟨rfl, rfl⟩ rfl hl.1 rfl (Nat.zero_le _) (by decide) dX5_act_81) hS21 (fun v31 H31 locs31 hr31 hC31 hS31 => ?_)
      obtain ⟨hp31, hr31⟩ := hr31
      have hKp31 := hKp0.tr (hp31.mono rfl)
      refine lv_pop hx hb dX5_act_84 rfl ?_
      refine lv_goto (tgt := 238) hx hb dX5_act_85 rfl ?_
      exact ret H31 locs31 _ _ dX5_act_238 hKp31 hC31 hS31
    by_cases c29_2 : v28.toInt = 2
    · have c29_x := (show v28.toInt = v28.toInt from rfl).trans c29_2
      refine lv_tableIn hx hb dX5_act_30 (by rw [c29_x]; decide) (by rw [c29_x]; decide) (off := 58) (by rw [c29_x]; rfl) (tgt := 88) rfl ?_
      refine lv_aload_n hx hb dX5_act_88 rfl (lv_at hl 4 rfl) ?_
      refine lv_iload hx hb dX5_act_89 (lv_at hl 1 rfl) ?_
      refine lv_aload_n hx hb dX5_act_91 rfl (lv_at hl 2 rfl) ?_
      refine lv_aload_n hx hb dX5_act_92 rfl (lv_at hl 3 rfl) ?_
      refine q_getR E hC0 g1 fa_RX5_92 dX5_act_93 (fun q32 eq32 gq32 => ?_)
      refine lv_iload_n hx hb dX5_act_96 rfl (lv_at hl 5 rfl) ?_
      refine q_iald E hC0 gq32 rfl rfl (fun _ h => h) (i_in (a := a3) e3 (by omega) (by omega)) dX5_act_97 (fun v33 ev33 _ _ => ?_)
      refine lv_iload hx hb dX5_act_98 (lv_at hl 1 rfl) ?_
      refine lv_isub hx hb dX5_act_100 (lv_topi (fun v34 ev34 => ?_))
      refine lv_iconst (v := 1) hx hb dX5_act_101 rfl ?_
      refine lv_iadd hx hb dX5_act_102 (lv_topi (fun v35 ev35 => ?_))
      refine q_goI (q_runV (As := [.int v35]) (rest := [.int v24, .ref h2]) E hC0 hS21 (m_X5_draw l X Γ H0 hC0 h0 g0 v35 (a1 := v35.toInt) rfl) cw_X5_draw cl_RX5_101 g0 ⟨rfl, rfl⟩ rfl hl.1 rfl (show _ ≤ _ from by simp [Value.category]) (by decide) dX5_act_103) hS21 (fun v36 H36 locs36 hr36 hC36 hS36 => ?_)
      obtain ⟨hp36, hr36⟩ := hr36
      have hKp36 := hKp0.tr (hp36.mono rfl)
      refine lv_iadd hx hb dX5_act_106 (lv_topi (fun v37 ev37 => ?_))
      refine q_goI (q_runV (As := [.int v37]) (rest := []) E hC36 hS36 (m_X9_snowFalls l X Γ H36 hC36 h2 g2 v37 (a1 := v37.toInt) rfl) cw_X9_snowFalls cl_RX5_95 g2 ⟨rfl, rfl⟩ rfl hl.1 rfl (Nat.zero_le _) (by decide) dX5_act_107) hS36 (fun v38 H38 locs38 hr38 hC38 hS38 => ?_)
      obtain ⟨hp38, hr38⟩ := hr38
      have hKp38 := hKp36.tr (hp38.mono rfl)
      refine lv_pop hx hb dX5_act_110 rfl ?_
      refine lv_goto (tgt := 238) hx hb dX5_act_111 rfl ?_
      exact ret H38 locs38 _ _ dX5_act_238 hKp38 hC38 hS38
    by_cases c29_3 : v28.toInt = 3
    · have c29_x := (show v28.toInt = v28.toInt from rfl).trans c29_3
      refine lv_tableIn hx hb dX5_act_30 (by rw [c29_x]; decide) (by rw [c29_x]; decide) (off := 84) (by rw [c29_x]; rfl) (tgt := 114) rfl ?_
      refine lv_aload_n hx hb dX5_act_114 rfl (lv_at hl 4 rfl) ?_
      refine lv_iload hx hb dX5_act_115 (lv_at hl 0 rfl) ?_
      refine lv_iload hx hb dX5_act_117 (lv_at hl 1 rfl) ?_
      refine q_goI (q_runV (As := [.int v26, .int v24]) (rest := []) E hC0 hS21 (m_X9_raises l X Γ H0 hC0 h2 g2 v26 (a1 := v26.toInt) rfl v24 (a2 := v24.toInt) rfl) cw_X9_raises cl_RX5_104 g2 ⟨rfl, rfl⟩ rfl hl.1 rfl (Nat.zero_le _) (by decide) dX5_act_119) hS21 (fun v39 H39 locs39 hr39 hC39 hS39 => ?_)
      obtain ⟨hp39, hr39⟩ := hr39
      have hKp39 := hKp0.tr (hp39.mono rfl)
      refine lv_istore hx hb dX5_act_122 hl (by decide) rfl (fun ls hl => ?_)
      replace hl : lv_has ls 7 [(6, .int v39), (5, .int v26), (4, .int v24), (0, .ref h0), (1, .ref h1), (2, .ref h2), (3, .int p3)] := hl
      refine lv_aload_n hx hb dX5_act_124 rfl (lv_at hl 3 rfl) ?_
      refine lv_dup hx hb dX5_act_125 rfl ?_
      refine q_getI E hC39 g0 fa_RX5_24 dX5_act_126 (fun v40 ev40 _ _ => ?_)
      refine lv_iload hx hb dX5_act_129 (lv_at hl 0 rfl) ?_
      refine lv_iadd hx hb dX5_act_131 (lv_topi (fun v41 ev41 => ?_))
      refine q_put E hC39 hS39 g0 fp_RX5_24 tv_F rfl rfl dX5_act_132 (fun H42 locs42 hC42 hS42 U42 => ?_)
      have hKp42 := Kp.upO E g0 fp_RX5_24 rfl U42 hKp39
      have e43 := up_I U42
      refine lv_aload_n hx hb dX5_act_135 rfl (lv_at hl 3 rfl) ?_
      refine lv_dup hx hb dX5_act_136 rfl ?_
      refine q_getI E hC42 g0 fa_RX5_21 dX5_act_137 (fun v44 ev44 _ _ => ?_)
      refine lv_iload hx hb dX5_act_140 (lv_at hl 0 rfl) ?_
      refine q_if_ne hx hb (a := v39.toInt) rfl (tgt := 149) dX5_act_142 rfl (fun c45 => ?_) (fun c45 => ?_)
      · refine lv_iconst (v := 0) hx hb dX5_act_149 rfl ?_
        refine lv_iadd hx hb dX5_act_150 (lv_topi (fun v46 ev46 => ?_))
        have c47 := i_rng v44; rw [show v44.toInt = v44.toInt from rfl] at c47
        have ev46i : v46.toInt = (v44.toInt + 0) := i_add ev46 rfl (by decide) (by omega) (by omega)
        refine q_put E hC42 hS42 g0 fp_RX5_21 tv_F rfl rfl dX5_act_151 (fun H48 locs48 hC48 hS48 U48 => ?_)
        have hKp48 := Kp.upO E g0 fp_RX5_21 rfl U48 hKp42
        have e49 := up_I U48
        refine lv_goto (tgt := 238) hx hb dX5_act_154 rfl ?_
        exact ret H48 locs48 _ _ dX5_act_238 hKp48 hC48 hS48
      · refine lv_iconst (v := 1) hx hb dX5_act_145 rfl ?_
        refine lv_goto (tgt := 150) hx hb dX5_act_146 rfl ?_
        refine lv_iadd hx hb dX5_act_150 (lv_topi (fun v50 ev50 => ?_))
        refine q_put E hC42 hS42 g0 fp_RX5_21 tv_F rfl rfl dX5_act_151 (fun H51 locs51 hC51 hS51 U51 => ?_)
        have hKp51 := Kp.upO E g0 fp_RX5_21 rfl U51 hKp42
        have e52 := up_I U51
        refine lv_goto (tgt := 238) hx hb dX5_act_154 rfl ?_
        exact ret H51 locs51 _ _ dX5_act_238 hKp51 hC51 hS51
    by_cases c29_4 : v28.toInt = 4
    · have c29_x := (show v28.toInt = v28.toInt from rfl).trans c29_4
      refine lv_tableIn hx hb dX5_act_30 (by rw [c29_x]; decide) (by rw [c29_x]; decide) (off := 127) (by rw [c29_x]; rfl) (tgt := 157) rfl ?_
      refine lv_aload_n hx hb dX5_act_157 rfl (lv_at hl 2 rfl) ?_
      refine lv_dup hx hb dX5_act_158 rfl ?_
      refine q_getI E hC0 g0 fa_RX5_21 dX5_act_159 (fun v53 ev53 _ _ => ?_)
      refine lv_aload_n hx hb dX5_act_162 rfl (lv_at hl 4 rfl) ?_
      refine lv_iload hx hb dX5_act_163 (lv_at hl 0 rfl) ?_
      refine q_goI (q_runV (As := [.int v26]) (rest := [.int v53, .ref h0]) E hC0 hS21 (m_X9_freezes l X Γ H0 hC0 h2 g2 v26 (a1 := v26.toInt) rfl) cw_X9_freezes cl_RX5_108 g2 ⟨rfl, rfl⟩ rfl hl.1 rfl (show _ ≤ _ from by simp [Value.category]) (by decide) dX5_act_165) hS21 (fun v54 H54 locs54 hr54 hC54 hS54 => ?_)
      obtain ⟨hp54, hr54⟩ := hr54
      have hKp54 := hKp0.tr (hp54.mono rfl)
      rcases hr54 with rfl | rfl
      · refine q_if_eq hx hb (a := 0) (by decide) (tgt := 175) dX5_act_168 rfl (fun c55 => ?_) (fun c55 => absurd c55 (by omega))
        refine lv_iconst (v := 1) hx hb dX5_act_175 rfl ?_
        refine lv_iadd hx hb dX5_act_176 (lv_topi (fun v56 ev56 => ?_))
        refine q_put E hC54 hS54 g0 fp_RX5_21 tv_F rfl rfl dX5_act_177 (fun H57 locs57 hC57 hS57 U57 => ?_)
        have hKp57 := Kp.upO E g0 fp_RX5_21 rfl U57 hKp54
        have e58 := up_I U57
        refine lv_goto (tgt := 238) hx hb dX5_act_180 rfl ?_
        exact ret H57 locs57 _ _ dX5_act_238 hKp57 hC57 hS57
      · refine q_if_eq hx hb (a := 1) (by decide) (tgt := 175) dX5_act_168 rfl (fun c59 => absurd c59 (by omega)) (fun c59 => ?_)
        refine lv_iconst (v := 0) hx hb dX5_act_171 rfl ?_
        refine lv_goto (tgt := 176) hx hb dX5_act_172 rfl ?_
        refine lv_iadd hx hb dX5_act_176 (lv_topi (fun v60 ev60 => ?_))
        have c61 := i_rng v53; rw [show v53.toInt = v53.toInt from rfl] at c61
        have ev60i : v60.toInt = (v53.toInt + 0) := i_add ev60 rfl (by decide) (by omega) (by omega)
        refine q_put E hC54 hS54 g0 fp_RX5_21 tv_F rfl rfl dX5_act_177 (fun H62 locs62 hC62 hS62 U62 => ?_)
        have hKp62 := Kp.upO E g0 fp_RX5_21 rfl U62 hKp54
        have e63 := up_I U62
        refine lv_goto (tgt := 238) hx hb dX5_act_180 rfl ?_
        exact ret H62 locs62 _ _ dX5_act_238 hKp62 hC62 hS62
    by_cases c29_5 : v28.toInt = 5
    · have c29_x := (show v28.toInt = v28.toInt from rfl).trans c29_5
      refine lv_tableIn hx hb dX5_act_30 (by rw [c29_x]; decide) (by rw [c29_x]; decide) (off := 153) (by rw [c29_x]; rfl) (tgt := 183) rfl ?_
      refine lv_aload_n hx hb dX5_act_183 rfl (lv_at hl 2 rfl) ?_
      refine lv_dup hx hb dX5_act_184 rfl ?_
      refine q_getI E hC0 g0 fa_RX5_21 dX5_act_185 (fun v64 ev64 _ _ => ?_)
      refine lv_aload_n hx hb dX5_act_188 rfl (lv_at hl 4 rfl) ?_
      refine lv_iload hx hb dX5_act_189 (lv_at hl 0 rfl) ?_
      refine lv_aload_n hx hb dX5_act_191 rfl (lv_at hl 3 rfl) ?_
      refine q_getR E hC0 g1 fa_RX5_111 dX5_act_192 (fun q65 eq65 gq65 => ?_)
      refine lv_iload_n hx hb dX5_act_195 rfl (lv_at hl 5 rfl) ?_
      refine q_iald E hC0 gq65 rfl rfl (fun _ h => h) (i_in (a := a3) e3 (by omega) (by omega)) dX5_act_196 (fun v66 ev66 _ _ => ?_)
      refine lv_iload hx hb dX5_act_197 (lv_at hl 1 rfl) ?_
      refine q_goI (q_runV (As := [.int v26, .int v66, .int v24]) (rest := [.int v64, .ref h0]) E hC0 hS21 (m_X9_takes l X Γ H0 hC0 h2 g2 v26 (a1 := v26.toInt) rfl v66 (a2 := v66.toInt) rfl v24 (a3 := v24.toInt) rfl) cw_X9_takes cl_RX5_114 g2 ⟨rfl, rfl⟩ rfl hl.1 rfl (show _ ≤ _ from by simp [Value.category]) (by decide) dX5_act_199) hS21 (fun v67 H67 locs67 hr67 hC67 hS67 => ?_)
      obtain ⟨hp67, hr67⟩ := hr67
      have hKp67 := hKp0.tr (hp67.mono rfl)
      refine q_if_ne hx hb (a := v67.toInt) rfl (tgt := 209) dX5_act_202 rfl (fun c68 => ?_) (fun c68 => ?_)
      · refine lv_iconst (v := 0) hx hb dX5_act_209 rfl ?_
        refine lv_iadd hx hb dX5_act_210 (lv_topi (fun v69 ev69 => ?_))
        have c70 := i_rng v64; rw [show v64.toInt = v64.toInt from rfl] at c70
        have ev69i : v69.toInt = (v64.toInt + 0) := i_add ev69 rfl (by decide) (by omega) (by omega)
        refine q_put E hC67 hS67 g0 fp_RX5_21 tv_F rfl rfl dX5_act_211 (fun H71 locs71 hC71 hS71 U71 => ?_)
        have hKp71 := Kp.upO E g0 fp_RX5_21 rfl U71 hKp67
        have e72 := up_I U71
        refine lv_goto (tgt := 238) hx hb dX5_act_214 rfl ?_
        exact ret H71 locs71 _ _ dX5_act_238 hKp71 hC71 hS71
      · refine lv_iconst (v := 1) hx hb dX5_act_205 rfl ?_
        refine lv_goto (tgt := 210) hx hb dX5_act_206 rfl ?_
        refine lv_iadd hx hb dX5_act_210 (lv_topi (fun v73 ev73 => ?_))
        refine q_put E hC67 hS67 g0 fp_RX5_21 tv_F rfl rfl dX5_act_211 (fun H74 locs74 hC74 hS74 U74 => ?_)
        have hKp74 := Kp.upO E g0 fp_RX5_21 rfl U74 hKp67
        have e75 := up_I U74
        refine lv_goto (tgt := 238) hx hb dX5_act_214 rfl ?_
        exact ret H74 locs74 _ _ dX5_act_238 hKp74 hC74 hS74
    refine lv_tableOut hx hb dX5_act_30 (by rw [show v28.toInt = v28.toInt from rfl]; omega) (tgt := 217) rfl ?_
    refine lv_aload_n hx hb dX5_act_217 rfl (lv_at hl 2 rfl) ?_
    refine lv_dup hx hb dX5_act_218 rfl ?_
    refine q_getI E hC0 g0 fa_RX5_21 dX5_act_219 (fun v76 ev76 _ _ => ?_)
    refine lv_aload_n hx hb dX5_act_222 rfl (lv_at hl 4 rfl) ?_
    refine q_goI (q_runV (As := []) (rest := [.int v76, .ref h0]) E hC0 hS21 (m_X9_sleeps l X Γ H0 hC0 h2 g2) cw_X9_sleeps cl_RX5_118 g2 ⟨rfl, rfl⟩ rfl hl.1 rfl (show _ ≤ _ from by simp [Value.category]) (by decide) dX5_act_223) hS21 (fun v77 H77 locs77 hr77 hC77 hS77 => ?_)
    obtain ⟨hp77, hr77⟩ := hr77
    have hKp77 := hKp0.tr (hp77.mono rfl)
    rcases hr77 with rfl | rfl
    · refine q_if_eq hx hb (a := 0) (by decide) (tgt := 233) dX5_act_226 rfl (fun c78 => ?_) (fun c78 => absurd c78 (by omega))
      refine lv_iconst (v := 1) hx hb dX5_act_233 rfl ?_
      refine lv_iadd hx hb dX5_act_234 (lv_topi (fun v79 ev79 => ?_))
      refine q_put E hC77 hS77 g0 fp_RX5_21 tv_F rfl rfl dX5_act_235 (fun H80 locs80 hC80 hS80 U80 => ?_)
      have hKp80 := Kp.upO E g0 fp_RX5_21 rfl U80 hKp77
      have e81 := up_I U80
      exact ret H80 locs80 _ _ dX5_act_238 hKp80 hC80 hS80
    · refine q_if_eq hx hb (a := 1) (by decide) (tgt := 233) dX5_act_226 rfl (fun c82 => absurd c82 (by omega)) (fun c82 => ?_)
      refine lv_iconst (v := 0) hx hb dX5_act_229 rfl ?_
      refine lv_goto (tgt := 234) hx hb dX5_act_230 rfl ?_
      refine lv_iadd hx hb dX5_act_234 (lv_topi (fun v83 ev83 => ?_))
      have c84 := i_rng v76; rw [show v76.toInt = v76.toInt from rfl] at c84
      have ev83i : v83.toInt = (v76.toInt + 0) := i_add ev83 rfl (by decide) (by omega) (by omega)
      refine q_put E hC77 hS77 g0 fp_RX5_21 tv_F rfl rfl dX5_act_235 (fun H85 locs85 hC85 hS85 U85 => ?_)
      have hKp85 := Kp.upO E g0 fp_RX5_21 rfl U85 hKp77
      have e86 := up_I U85
      exact ret H85 locs85 _ _ dX5_act_238 hKp85 hC85 hS85
  · refine q_if_ne hx hb (a := 0) (by decide) (tgt := 8) dX5_act_4 rfl (fun c87 => absurd c87 (by omega)) (fun c87 => ?_)
    exact ret H0 locs21 _ _ dX5_act_7 hKp0 hC0 hS21
set_option maxRecDepth 100000 in
set_option maxHeartbeats 4000000 in
theorem m_X5_behindStep (l : Launch) (X : xW) (Γ : Nat → Option Nat) (H0 : Heap) (hC0 : Conf X Γ H0) (h0 : Nat) (g0 : Γ h0 = some 10) (h1 : Nat) (g1 : Γ h1 = some 6) (h2 : Nat) (g2 : Γ h2 = some 5) (h3 : Nat) (g3 : Γ h3 = some 7) (p4 : Int32) {a4 : Int} (e4 : p4.toInt = a4) : Ctr l X Γ yX5_behindStep cX5_behindStep 6 (some .int) 5 [.ref h0, .ref h1, .ref h2, .ref h3, .int p4] H0 (QI X Γ (fun v H1 => Kp X Γ [0, 2, 3, 4, 5, 18, 21, 23, 25, 27] H0 H1 ∧ (True))) := by
  refine q_enterI (own := "SnowForts$Runner") (by decide) rfl (Nat.le_of_ble_eq_true rfl) ?_
  intro p e s m args below meth c ls Qz E hl ret hS0
  have hx := E.1; have hb := E.2.1
  have hKp0 : Kp X Γ [0, 2, 3, 4, 5, 18, 21, 23, 25, 27] H0 H0 := Kp.rf
  have hl : lv_has ls 6 [(0, .ref h0), (1, .ref h1), (2, .ref h2), (3, .ref h3), (4, .int p4)] := hl
  refine lv_iload hx hb dX5_behindStep_0 (lv_at hl 4 rfl) ?_
  refine q_goIp (q_runS (As := [.int p4]) (rest := []) E hS0 (m_X2_isItem l X Γ H0 hC0 p4 (a0 := a4) e4) cw_X2_isItem cl_RX5_44 rfl hl.1 rfl (Nat.zero_le _) (by decide) dX5_behindStep_2) hS0 (fun v21 locs21 hr21 hS21 => ?_)
  rcases hr21 with ⟨rfl, f21a0, f21a1⟩ | ⟨rfl, -⟩
  · refine q_if_ne hx hb (a := 1) (by decide) (tgt := 13) dX5_behindStep_5 rfl (fun c22 => ?_) (fun c22 => absurd c22 (by omega))
    refine lv_aload_n hx hb dX5_behindStep_13 rfl (lv_at hl 1 rfl) ?_
    refine q_getR E hC0 g1 fa_RX5_65 dX5_behindStep_14 (fun q23 eq23 gq23 => ?_)
    refine lv_iload hx hb dX5_behindStep_17 (lv_at hl 4 rfl) ?_
    refine q_iald E hC0 gq23 rfl rfl (fun _ h => h) (i_in (a := a4) e4 (by omega) (by omega)) dX5_behindStep_19 (fun v24 ev24 _ _ => ?_)
    refine lv_istore hx hb dX5_behindStep_20 hl (by decide) rfl (fun ls hl => ?_)
    replace hl : lv_has ls 6 [(5, .int v24), (0, .ref h0), (1, .ref h1), (2, .ref h2), (3, .ref h3), (4, .int p4)] := hl
    refine lv_aload_n hx hb dX5_behindStep_22 rfl (lv_at hl 2 rfl) ?_
    refine q_getR E hC0 g1 fa_RX5_48 dX5_behindStep_23 (fun q25 eq25 gq25 => ?_)
    refine lv_iload hx hb dX5_behindStep_26 (lv_at hl 5 rfl) ?_
    refine q_iald E hC0 gq25 rfl rfl (fun _ h => h) (i_in (a := a4) e4 (by omega) (by omega)) dX5_behindStep_28 (fun v26 ev26 _ _ => ?_)
    by_cases c27_7 : v26.toInt = 7
    · have c27_x := (show v26.toInt = v26.toInt from rfl).trans c27_7
      refine lv_tableIn hx hb dX5_behindStep_29 (by rw [c27_x]; decide) (by rw [c27_x]; decide) (off := 49) (by rw [c27_x]; rfl) (tgt := 78) rfl ?_
      refine lv_aload_n hx hb dX5_behindStep_78 rfl (lv_at hl 2 rfl) ?_
      refine lv_iload hx hb dX5_behindStep_79 (lv_at hl 5 rfl) ?_
      refine lv_aload_n hx hb dX5_behindStep_81 rfl (lv_at hl 3 rfl) ?_
      refine q_getI E hC0 g2 fa_RX5_68 dX5_behindStep_82 (fun v28 ev28 _ _ => ?_)
      refine q_goIp (q_runS (As := [.ref h1, .int p4, .int v28]) (rest := []) E hS21 (m_X5_behindTest l X Γ H0 hC0 h1 g1 p4 (a1 := a4) e4 v28 (a2 := v28.toInt) rfl) cw_X5_behindTest cl_RX5_71 rfl hl.1 rfl (Nat.zero_le _) (by decide) dX5_behindStep_85) hS21 (fun v29 locs29 hr29 hS29 => ?_)
      exact ret v29 H0 locs29 _ _ dX5_behindStep_88 ⟨hKp0, trivial⟩ hC0 hS29
    by_cases c27_8 : v26.toInt = 8
    · have c27_x := (show v26.toInt = v26.toInt from rfl).trans c27_8
      refine lv_tableIn hx hb dX5_behindStep_29 (by rw [c27_x]; decide) (by rw [c27_x]; decide) (off := 60) (by rw [c27_x]; rfl) (tgt := 89) rfl ?_
      refine lv_aload_n hx hb dX5_behindStep_89 rfl (lv_at hl 2 rfl) ?_
      refine lv_iload hx hb dX5_behindStep_90 (lv_at hl 5 rfl) ?_
      refine lv_aload_n hx hb dX5_behindStep_92 rfl (lv_at hl 3 rfl) ?_
      refine lv_aload_n hx hb dX5_behindStep_93 rfl (lv_at hl 2 rfl) ?_
      refine q_getR E hC0 g1 fa_RX5_75 dX5_behindStep_94 (fun q30 eq30 gq30 => ?_)
      refine lv_iload hx hb dX5_behindStep_97 (lv_at hl 5 rfl) ?_
      refine q_iald E hC0 gq30 rfl rfl (fun _ h => h) (i_in (a := a4) e4 (by omega) (by omega)) dX5_behindStep_99 (fun v31 ev31 _ _ => ?_)
      refine q_goIp (q_runV (As := [.int v31]) (rest := [.int p4, .ref h1]) E hC0 hS21 (m_X9_wallOf l X Γ H0 hC0 h2 g2 v31 (a1 := v31.toInt) rfl) cw_X9_wallOf cl_RX5_78 g2 ⟨rfl, rfl⟩ rfl hl.1 rfl (show _ ≤ _ from by simp [Value.category]) (by decide) dX5_behindStep_100) hS21 (fun v32 locs32 hr32 hS32 => ?_)
      refine q_goIp (q_runS (As := [.ref h1, .int p4, .int v32]) (rest := []) E hS32 (m_X5_behindTest l X Γ H0 hC0 h1 g1 p4 (a1 := a4) e4 v32 (a2 := v32.toInt) rfl) cw_X5_behindTest cl_RX5_71 rfl hl.1 rfl (Nat.zero_le _) (by decide) dX5_behindStep_103) hS32 (fun v33 locs33 hr33 hS33 => ?_)
      exact ret v33 H0 locs33 _ _ dX5_behindStep_106 ⟨hKp0, trivial⟩ hC0 hS33
    by_cases c27_9 : v26.toInt = 9
    · have c27_x := (show v26.toInt = v26.toInt from rfl).trans c27_9
      refine lv_tableIn hx hb dX5_behindStep_29 (by rw [c27_x]; decide) (by rw [c27_x]; decide) (off := 90) (by rw [c27_x]; rfl) (tgt := 119) rfl ?_
      refine lv_aload_n hx hb dX5_behindStep_119 rfl (lv_at hl 3 rfl) ?_
      refine q_goIp (q_runV (As := []) (rest := []) E hC0 hS21 (m_X9_allBreaches l X Γ H0 hC0 h2 g2) cw_X9_allBreaches cl_RX5_34 g2 ⟨rfl, rfl⟩ rfl hl.1 rfl (Nat.zero_le _) (by decide) dX5_behindStep_120) hS21 (fun v34 locs34 hr34 hS34 => ?_)
      refine q_if_le hx hb (a := v34.toInt) rfl (tgt := 133) dX5_behindStep_123 rfl (fun c35 => ?_) (fun c35 => ?_)
      · refine lv_aload_n hx hb dX5_behindStep_133 rfl (lv_at hl 2 rfl) ?_
        refine q_getR E hC0 g1 fa_RX5_62 dX5_behindStep_134 (fun q36 eq36 gq36 => ?_)
        refine lv_iload hx hb dX5_behindStep_137 (lv_at hl 5 rfl) ?_
        refine q_iald E hC0 gq36 rfl rfl (fun _ h => h) (i_in (a := a4) e4 (by omega) (by omega)) dX5_behindStep_139 (fun v37 ev37 _ _ => ?_)
        refine lv_iconst (v := 1) hx hb dX5_behindStep_140 rfl ?_
        refine lv_iadd hx hb dX5_behindStep_141 (lv_topi (fun v38 ev38 => ?_))
        exact ret v38 H0 locs34 _ _ dX5_behindStep_142 ⟨hKp0, trivial⟩ hC0 hS34
      · refine lv_iload hx hb dX5_behindStep_126 (lv_at hl 5 rfl) ?_
        refine lv_iconst (v := 1) hx hb dX5_behindStep_128 rfl ?_
        refine lv_iadd hx hb dX5_behindStep_129 (lv_topi (fun v39 ev39 => ?_))
        have ev39i : v39.toInt = (a4 + 1) := i_add ev39 e4 (by decide) (by omega) (by omega)
        refine lv_goto (tgt := 142) hx hb dX5_behindStep_130 rfl ?_
        exact ret v39 H0 locs34 _ _ dX5_behindStep_142 ⟨hKp0, trivial⟩ hC0 hS34
    by_cases c27_10 : v26.toInt = 10
    · have c27_x := (show v26.toInt = v26.toInt from rfl).trans c27_10
      refine lv_tableIn hx hb dX5_behindStep_29 (by rw [c27_x]; decide) (by rw [c27_x]; decide) (off := 78) (by rw [c27_x]; rfl) (tgt := 107) rfl ?_
      refine lv_aload_n hx hb dX5_behindStep_107 rfl (lv_at hl 2 rfl) ?_
      refine lv_iload hx hb dX5_behindStep_108 (lv_at hl 5 rfl) ?_
      refine lv_aload_n hx hb dX5_behindStep_110 rfl (lv_at hl 4 rfl) ?_
      refine lv_aload_n hx hb dX5_behindStep_111 rfl (lv_at hl 3 rfl) ?_
      refine q_goI (q_runV (As := [.ref h2]) (rest := [.int p4, .ref h1]) E hC0 hS21 (m_X7_costOver l X Γ H0 hC0 h3 g3 h2 g2) cw_X7_costOver cl_RX5_82 g3 ⟨rfl, rfl⟩ rfl hl.1 rfl (show _ ≤ _ from by simp [Value.category]) (by decide) dX5_behindStep_112) hS21 (fun v40 H40 locs40 hr40 hC40 hS40 => ?_)
      obtain ⟨hp40, hr40⟩ := hr40
      have hKp40 := hKp0.tr (hp40.mono rfl)
      refine q_goIp (q_runS (As := [.ref h1, .int p4, .int v40]) (rest := []) E hS40 (m_X5_behindTest l X Γ H40 hC40 h1 g1 p4 (a1 := a4) e4 v40 (a2 := v40.toInt) rfl) cw_X5_behindTest cl_RX5_71 rfl hl.1 rfl (Nat.zero_le _) (by decide) dX5_behindStep_115) hS40 (fun v41 locs41 hr41 hS41 => ?_)
      exact ret v41 H40 locs41 _ _ dX5_behindStep_118 ⟨hKp40, trivial⟩ hC40 hS41
    by_cases c27_11 : v26.toInt = 11
    · have c27_x := (show v26.toInt = v26.toInt from rfl).trans c27_11
      refine lv_tableIn hx hb dX5_behindStep_29 (by rw [c27_x]; decide) (by rw [c27_x]; decide) (off := 35) (by rw [c27_x]; rfl) (tgt := 64) rfl ?_
      refine lv_aload_n hx hb dX5_behindStep_64 rfl (lv_at hl 1 rfl) ?_
      refine q_getR E hC0 g0 fa_RX5_17 dX5_behindStep_65 (fun q42 eq42 gq42 => ?_)
      refine lv_iload hx hb dX5_behindStep_68 (lv_at hl 5 rfl) ?_
      refine lv_iload hx hb dX5_behindStep_70 (lv_at hl 0 rfl) ?_
      refine q_iast E hC0 hS21 gq42 (by decide) rfl rfl (i_in (a := a4) e4 (by omega) (by omega)) tv_F dX5_behindStep_72 (fun H43 locs43 hC43 hS43 U43 => ?_)
      have hKp43 := Kp.upA gq42 rfl (by decide) rfl U43 hKp0
      refine lv_iload hx hb dX5_behindStep_73 (lv_at hl 5 rfl) ?_
      refine lv_iconst (v := 1) hx hb dX5_behindStep_75 rfl ?_
      refine lv_iadd hx hb dX5_behindStep_76 (lv_topi (fun v44 ev44 => ?_))
      have ev44i : v44.toInt = (a4 + 1) := i_add ev44 e4 (by decide) (by omega) (by omega)
      exact ret v44 H43 locs43 _ _ dX5_behindStep_77 ⟨hKp43, trivial⟩ hC43 hS43
    refine lv_tableOut hx hb dX5_behindStep_29 (by rw [show v26.toInt = v26.toInt from rfl]; omega) (tgt := 143) rfl ?_
    refine lv_aload_n hx hb dX5_behindStep_143 rfl (lv_at hl 1 rfl) ?_
    refine lv_aload_n hx hb dX5_behindStep_144 rfl (lv_at hl 2 rfl) ?_
    refine lv_aload_n hx hb dX5_behindStep_145 rfl (lv_at hl 3 rfl) ?_
    refine lv_iload hx hb dX5_behindStep_146 (lv_at hl 5 rfl) ?_
    refine q_goV (q_runV (As := [.ref h1, .ref h2, .int p4]) (rest := []) E hC0 hS21 (m_X5_act l X Γ H0 hC0 h0 g0 h1 g1 h2 g2 p4 (a3 := a4) e4) cw_X5_act cl_RX5_88 g0 ⟨rfl, rfl⟩ rfl hl.1 rfl (Nat.zero_le _) (by decide) dX5_behindStep_148) hS21 (fun H45 locs45 hr45 hC45 hS45 => ?_)
    have hKp45 := hKp0.tr (hr45.mono rfl)
    refine lv_iload hx hb dX5_behindStep_151 (lv_at hl 5 rfl) ?_
    refine lv_iconst (v := 1) hx hb dX5_behindStep_153 rfl ?_
    refine lv_iadd hx hb dX5_behindStep_154 (lv_topi (fun v46 ev46 => ?_))
    have ev46i : v46.toInt = (a4 + 1) := i_add ev46 e4 (by decide) (by omega) (by omega)
    exact ret v46 H45 locs45 _ _ dX5_behindStep_155 ⟨hKp45, trivial⟩ hC45 hS45
  · refine q_if_ne hx hb (a := 0) (by decide) (tgt := 13) dX5_behindStep_5 rfl (fun c47 => absurd c47 (by omega)) (fun c47 => ?_)
    refine lv_iload hx hb dX5_behindStep_8 (lv_at hl 4 rfl) ?_
    refine lv_iconst (v := 1) hx hb dX5_behindStep_10 rfl ?_
    refine lv_iadd hx hb dX5_behindStep_11 (lv_topi (fun v48 ev48 => ?_))
    exact ret v48 H0 locs21 _ _ dX5_behindStep_12 ⟨hKp0, trivial⟩ hC0 hS21
set_option maxRecDepth 100000 in
set_option maxHeartbeats 4000000 in
theorem m_X5_perform (l : Launch) (X : xW) (Γ : Nat → Option Nat) (H0 : Heap) (hC0 : Conf X Γ H0) (h0 : Nat) (g0 : Γ h0 = some 10) (h1 : Nat) (g1 : Γ h1 = some 6) (h2 : Nat) (g2 : Γ h2 = some 5) (h3 : Nat) (g3 : Γ h3 = some 7) (p4 : Int32) {a4 : Int} (e4 : p4.toInt = a4) : Ctr l X Γ yX5_perform cX5_perform 9 none 6 [.ref h0, .ref h1, .ref h2, .ref h3, .int p4] H0 (QV X Γ (fun H1 => Kp X Γ [0, 2, 3, 4, 5, 18, 21, 23, 25, 27] H0 H1)) := by
  refine q_enterV (own := "SnowForts$Runner") (by decide) rfl (Nat.le_of_ble_eq_true rfl) ?_
  intro p e s m args below meth c ls Qz E hl ret hS0
  have hx := E.1; have hb := E.2.1
  have hKp0 : Kp X Γ [0, 2, 3, 4, 5, 18, 21, 23, 25, 27] H0 H0 := Kp.rf
  have hl : lv_has ls 9 [(0, .ref h0), (1, .ref h1), (2, .ref h2), (3, .ref h3), (4, .int p4)] := hl
  refine lv_aload_n hx hb dX5_perform_0 rfl (lv_at hl 0 rfl) ?_
  refine lv_iconst (v := 0) hx hb dX5_perform_1 rfl ?_
  refine q_put E hC0 hS0 g0 fp_RX5_9 tv_F rfl rfl dX5_perform_2 (fun H21 locs21 hC21 hS21 U21 => ?_)
  have hKp21 := Kp.upO E g0 fp_RX5_9 rfl U21 hKp0
  have e22 := up_I U21
  refine lv_aload_n hx hb dX5_perform_5 rfl (lv_at hl 0 rfl) ?_
  refine lv_iconst (v := 0) hx hb dX5_perform_6 rfl ?_
  refine q_put E hC21 hS21 g0 fp_RX5_21 tv_F rfl rfl dX5_perform_7 (fun H23 locs23 hC23 hS23 U23 => ?_)
  have hKp23 := Kp.upO E g0 fp_RX5_21 rfl U23 hKp21
  have e24 := up_I U23
  refine lv_aload_n hx hb dX5_perform_10 rfl (lv_at hl 0 rfl) ?_
  refine lv_iconst (v := 0) hx hb dX5_perform_11 rfl ?_
  refine q_put E hC23 hS23 g0 fp_RX5_24 tv_F rfl rfl dX5_perform_12 (fun H25 locs25 hC25 hS25 U25 => ?_)
  have hKp25 := Kp.upO E g0 fp_RX5_24 rfl U25 hKp23
  have e26 := up_I U25
  refine lv_aload_n hx hb dX5_perform_15 rfl (lv_at hl 0 rfl) ?_
  refine lv_iconst (v := 0) hx hb dX5_perform_16 rfl ?_
  refine q_put E hC25 hS25 g0 fp_RX5_27 (tv_I (show (0 : Int32).toInt = 0 from by decide) (by omega) (by omega)) (z_of (z01 (show (0 : Int32).toInt = 0 from by decide) (by omega) (by omega))) (fit_B (z01 (show (0 : Int32).toInt = 0 from by decide) (by omega) (by omega))) dX5_perform_17 (fun H27 locs27 hC27 hS27 U27 => ?_)
  have hKp27 := Kp.upO E g0 fp_RX5_27 rfl U27 hKp25
  have e28 := up_I U27
  refine lv_aload_n hx hb dX5_perform_20 rfl (lv_at hl 0 rfl) ?_
  refine lv_iload hx hb dX5_perform_21 (lv_at hl 4 rfl) ?_
  refine q_put E hC27 hS27 g0 fp_RX5_31 tv_F rfl rfl dX5_perform_23 (fun H29 locs29 hC29 hS29 U29 => ?_)
  have hKp29 := Kp.upO E g0 fp_RX5_31 rfl U29 hKp27
  have e30 := up_I U29
  refine lv_aload_n hx hb dX5_perform_26 rfl (lv_at hl 2 rfl) ?_
  refine q_goIp (q_runV (As := []) (rest := []) E hC29 hS29 (m_X9_allBreaches l X Γ H29 hC29 h2 g2) cw_X9_allBreaches cl_RX5_34 g2 ⟨rfl, rfl⟩ rfl hl.1 rfl (Nat.zero_le _) (by decide) dX5_perform_27) hS29 (fun v31 locs31 hr31 hS31 => ?_)
  refine lv_istore hx hb dX5_perform_30 hl (by decide) rfl (fun ls hl => ?_)
  replace hl : lv_has ls 9 [(5, .int v31), (0, .ref h0), (1, .ref h1), (2, .ref h2), (3, .ref h3), (4, .int p4)] := hl
  refine lv_iconst (v := 0) hx hb dX5_perform_32 rfl ?_
  refine lv_istore hx hb dX5_perform_33 hl (by decide) rfl (fun ls hl => ?_)
  replace hl : lv_has ls 9 [(6, .int 0), (5, .int v31), (0, .ref h0), (1, .ref h1), (2, .ref h2), (3, .ref h3), (4, .int p4)] := hl
  refine lv_iconst (v := 0) hx hb dX5_perform_35 rfl ?_
  refine lv_istore hx hb dX5_perform_36 hl (by decide) rfl (fun ls hl => ?_)
  replace hl : lv_has ls 9 [(7, .int 0), (6, .int 0), (5, .int v31), (0, .ref h0), (1, .ref h1), (2, .ref h2), (3, .ref h3), (4, .int p4)] := hl
  have L38 : ∀ (n34 : Nat) (H34 : Heap) (locs34 : List Loc) (v32 : Int32) (z32 : Int) (v33 : Int32) (z33 : Int) (ls : Array Slot), (1000000 - z32).toNat < n34 → v32.toInt = z32 → v33.toInt = z33 → z32 ≤ 1000000 → 0 ≤ z32 → Conf X Γ H34 → va_S (AΓ Γ) H0 H34 locs34 → Kp X Γ [0, 2, 3, 4, 5, 18, 21, 23, 25, 27] H0 H34 → lv_has ls 9 [(7, .int v32), (6, .int v33), (5, .int v31), (0, .ref h0), (1, .ref h1), (2, .ref h2), (3, .ref h3), (4, .int p4)] → W p l e (rmL 6) s m args below meth c H34 locs34 0 0 Qz (F0 m 38 ls []) := by
    intro n34
    induction n34 with
    | zero => intro H34 locs34 v32 z32 v33 z33 ls hm34 ev32 ev33 iv34_0 iv34_1 hC34 hS34 hKp34 hl; exact absurd hm34 (Nat.not_lt_zero _)
    | succ n34 ih34 =>
      intro H34 locs34 v32 z32 v33 z33 ls hm34 ev32 ev33 iv34_0 iv34_1 hC34 hS34 hKp34 hl
      refine lv_iload hx hb dX5_perform_38 (lv_at hl 0 rfl) ?_
      refine lv_ldc (v := 1000000) hx hb E.2.2.2.1 (E.2.2.2.2.1 _ w_1235) dX5_perform_40 ?_
      refine q_icmp_ge hx hb (a := z32) (b := 1000000) ev32 (by decide) (tgt := 145) dX5_perform_42 rfl (fun c35 => ?_) (fun c35 => ?_)
      · refine lv_aload_n hx hb dX5_perform_145 rfl (lv_at hl 3 rfl) ?_
        refine lv_aload_n hx hb dX5_perform_146 rfl (lv_at hl 5 rfl) ?_
        refine q_goIp (q_runV (As := []) (rest := [.ref h0]) E hC34 hS34 (m_X9_allBreaches l X Γ H34 hC34 h2 g2) cw_X9_allBreaches cl_RX5_34 g2 ⟨rfl, rfl⟩ rfl hl.1 rfl (show _ ≤ _ from by simp [Value.category]) (by decide) dX5_perform_147) hS34 (fun v36 locs36 hr36 hS36 => ?_)
        refine lv_iload hx hb dX5_perform_150 (lv_at hl 2 rfl) ?_
        refine lv_isub hx hb dX5_perform_152 (lv_topi (fun v37 ev37 => ?_))
        refine q_put E hC34 hS36 g0 fp_RX5_59 tv_F rfl rfl dX5_perform_153 (fun H38 locs38 hC38 hS38 U38 => ?_)
        have hKp38 := Kp.upO E g0 fp_RX5_59 rfl U38 hKp34
        have e39 := up_I U38
        exact ret H38 locs38 _ _ dX5_perform_156 hKp38 hC38 hS38
      · refine lv_iload hx hb dX5_perform_45 (lv_at hl 1 rfl) ?_
        refine lv_aload_n hx hb dX5_perform_47 rfl (lv_at hl 4 rfl) ?_
        refine q_getI E hC34 g1 fa_RX5_41 dX5_perform_48 (fun v40 ev40 _ _ => ?_)
        have c41 := i_rng v33; rw [show v33.toInt = z33 from ev33] at c41
        have c42 := i_rng v40; rw [show v40.toInt = v40.toInt from rfl] at c42
        refine q_icmp_ge hx hb (a := z33) (b := v40.toInt) ev33 rfl (tgt := 145) dX5_perform_51 rfl (fun c43 => ?_) (fun c43 => ?_)
        · refine lv_aload_n hx hb dX5_perform_145 rfl (lv_at hl 3 rfl) ?_
          refine lv_aload_n hx hb dX5_perform_146 rfl (lv_at hl 5 rfl) ?_
          refine q_goIp (q_runV (As := []) (rest := [.ref h0]) E hC34 hS34 (m_X9_allBreaches l X Γ H34 hC34 h2 g2) cw_X9_allBreaches cl_RX5_34 g2 ⟨rfl, rfl⟩ rfl hl.1 rfl (show _ ≤ _ from by simp [Value.category]) (by decide) dX5_perform_147) hS34 (fun v44 locs44 hr44 hS44 => ?_)
          refine lv_iload hx hb dX5_perform_150 (lv_at hl 2 rfl) ?_
          refine lv_isub hx hb dX5_perform_152 (lv_topi (fun v45 ev45 => ?_))
          refine q_put E hC34 hS44 g0 fp_RX5_59 tv_F rfl rfl dX5_perform_153 (fun H46 locs46 hC46 hS46 U46 => ?_)
          have hKp46 := Kp.upO E g0 fp_RX5_59 rfl U46 hKp34
          have e47 := up_I U46
          exact ret H46 locs46 _ _ dX5_perform_156 hKp46 hC46 hS46
        · refine lv_iload hx hb dX5_perform_54 (lv_at hl 1 rfl) ?_
          refine q_goIp (q_runS (As := [.int v33]) (rest := []) E hS34 (m_X2_isItem l X Γ H34 hC34 v33 (a0 := z33) ev33) cw_X2_isItem cl_RX5_44 rfl hl.1 rfl (Nat.zero_le _) (by decide) dX5_perform_56) hS34 (fun v48 locs48 hr48 hS48 => ?_)
          rcases hr48 with ⟨rfl, f48a0, f48a1⟩ | ⟨rfl, -⟩
          · refine q_if_eq hx hb (a := 1) (by decide) (tgt := 145) dX5_perform_59 rfl (fun c49 => absurd c49 (by omega)) (fun c49 => ?_)
            refine lv_aload_n hx hb dX5_perform_62 rfl (lv_at hl 4 rfl) ?_
            refine q_getR E hC34 g1 fa_RX5_48 dX5_perform_63 (fun q50 eq50 gq50 => ?_)
            refine lv_iload hx hb dX5_perform_66 (lv_at hl 1 rfl) ?_
            refine q_iald E hC34 gq50 rfl rfl (fun _ h => h) (i_in (a := z33) ev33 (by omega) (by omega)) dX5_perform_68 (fun v51 ev51 _ _ => ?_)
            refine lv_istore hx hb dX5_perform_69 hl (by decide) rfl (fun ls hl => ?_)
            replace hl : lv_has ls 9 [(8, .int v51), (7, .int v32), (6, .int v33), (5, .int v31), (0, .ref h0), (1, .ref h1), (2, .ref h2), (3, .ref h3), (4, .int p4)] := hl
            refine lv_iload hx hb dX5_perform_71 (lv_at hl 0 rfl) ?_
            refine lv_bipush (v := 13) hx hb dX5_perform_73 rfl ?_
            refine q_icmp_ne hx hb (a := v51.toInt) (b := 13) rfl (by decide) (tgt := 90) dX5_perform_75 rfl (fun c52 => ?_) (fun c52 => ?_)
            · refine lv_aload_n hx hb dX5_perform_90 rfl (lv_at hl 4 rfl) ?_
              refine q_getI E hC34 g0 fa_RX5_9 dX5_perform_91 (fun v53 ev53 _ _ => ?_)
              refine lv_sipush (v := 300) hx hb dX5_perform_94 rfl ?_
              refine q_icmp_lt hx hb (a := v53.toInt) (b := 300) rfl (by decide) (tgt := 108) dX5_perform_97 rfl (fun c54 => ?_) (fun c54 => ?_)
              · refine lv_aload_n hx hb dX5_perform_108 rfl (lv_at hl 4 rfl) ?_
                refine lv_dup hx hb dX5_perform_109 rfl ?_
                refine q_getI E hC34 g0 fa_RX5_9 dX5_perform_110 (fun v55 ev55 _ _ => ?_)
                have qv55 := ev53.symm.trans ev55; subst qv55
                refine lv_iconst (v := 1) hx hb dX5_perform_113 rfl ?_
                refine lv_iadd hx hb dX5_perform_114 (lv_topi (fun v56 ev56 => ?_))
                have c57 := i_rng v53; rw [show v53.toInt = v53.toInt from rfl] at c57
                have ev56i : v56.toInt = (v53.toInt + 1) := i_add ev56 rfl (by decide) (by omega) (by omega)
                refine q_put E hC34 hS48 g0 fp_RX5_9 tv_F rfl rfl dX5_perform_115 (fun H58 locs58 hC58 hS58 U58 => ?_)
                have hKp58 := Kp.upO E g0 fp_RX5_9 rfl U58 hKp34
                have e59 := up_I U58
                refine lv_iload hx hb dX5_perform_118 (lv_at hl 0 rfl) ?_
                refine lv_bipush (v := 12) hx hb dX5_perform_120 rfl ?_
                refine q_icmp_ne hx hb (a := v51.toInt) (b := 12) rfl (by decide) (tgt := 128) dX5_perform_122 rfl (fun c60 => ?_) (fun c60 => ?_)
                · refine lv_aload_n hx hb dX5_perform_128 rfl (lv_at hl 4 rfl) ?_
                  refine lv_aload_n hx hb dX5_perform_129 rfl (lv_at hl 5 rfl) ?_
                  refine lv_aload_n hx hb dX5_perform_130 rfl (lv_at hl 6 rfl) ?_
                  refine lv_aload_n hx hb dX5_perform_131 rfl (lv_at hl 7 rfl) ?_
                  refine lv_iload hx hb dX5_perform_132 (lv_at hl 2 rfl) ?_
                  refine q_goI (q_runV (As := [.ref h1, .ref h2, .ref h3, .int v33]) (rest := []) E hC58 hS58 (m_X5_behindStep l X Γ H58 hC58 h0 g0 h1 g1 h2 g2 h3 g3 v33 (a4 := z33) ev33) cw_X5_behindStep cl_RX5_55 g0 ⟨rfl, rfl⟩ rfl hl.1 rfl (Nat.zero_le _) (by decide) dX5_perform_134) hS58 (fun v61 H61 locs61 hr61 hC61 hS61 => ?_)
                  obtain ⟨hp61, hr61⟩ := hr61
                  have hKp61 := hKp58.tr (hp61.mono rfl)
                  refine lv_istore hx hb dX5_perform_137 hl (by decide) rfl (fun ls hl => ?_)
                  replace hl : lv_has ls 9 [(6, .int v61), (8, .int v51), (7, .int v32), (5, .int v31), (0, .ref h0), (1, .ref h1), (2, .ref h2), (3, .ref h3), (4, .int p4)] := hl
                  obtain ⟨v62, ev62⟩ : ∃ z, z = v32 + Int32.ofInt 1 := ⟨_, rfl⟩
                  have ev62i : v62.toInt = (z32 + 1) := i_add ev62 ev32 (by decide) (by omega) (by omega)
                  refine lv_iinc hx hb dX5_perform_139 hl (k := 2) rfl ev62.symm (by decide) rfl (fun ls hl => ?_)
                  replace hl : lv_has ls 9 [(7, .int v62), (6, .int v61), (8, .int v51), (5, .int v31), (0, .ref h0), (1, .ref h1), (2, .ref h2), (3, .ref h3), (4, .int p4)] := hl
                  refine lv_goto (tgt := 38) hx hb dX5_perform_142 rfl ?_
                  exact ih34 H61 locs61 v62 ((z32 + 1)) v61 (v61.toInt) ls (by omega) ev62i rfl (by omega) (by omega) hC61 hS61 hKp61 (lv_sub hl [0, 1, 3, 4, 5, 6, 7, 8] rfl)
                · refine lv_goto (tgt := 145) hx hb dX5_perform_125 rfl ?_
                  refine lv_aload_n hx hb dX5_perform_145 rfl (lv_at hl 4 rfl) ?_
                  refine lv_aload_n hx hb dX5_perform_146 rfl (lv_at hl 6 rfl) ?_
                  refine q_goIp (q_runV (As := []) (rest := [.ref h0]) E hC58 hS58 (m_X9_allBreaches l X Γ H58 hC58 h2 g2) cw_X9_allBreaches cl_RX5_34 g2 ⟨rfl, rfl⟩ rfl hl.1 rfl (show _ ≤ _ from by simp [Value.category]) (by decide) dX5_perform_147) hS58 (fun v63 locs63 hr63 hS63 => ?_)
                  refine lv_iload hx hb dX5_perform_150 (lv_at hl 3 rfl) ?_
                  refine lv_isub hx hb dX5_perform_152 (lv_topi (fun v64 ev64 => ?_))
                  refine q_put E hC58 hS63 g0 fp_RX5_59 tv_F rfl rfl dX5_perform_153 (fun H65 locs65 hC65 hS65 U65 => ?_)
                  have hKp65 := Kp.upO E g0 fp_RX5_59 rfl U65 hKp58
                  have e66 := up_I U65
                  exact ret H65 locs65 _ _ dX5_perform_156 hKp65 hC65 hS65
              · refine lv_aload_n hx hb dX5_perform_100 rfl (lv_at hl 4 rfl) ?_
                refine lv_iconst (v := 1) hx hb dX5_perform_101 rfl ?_
                refine q_put E hC34 hS48 g0 fp_RX5_27 (tv_I (show (1 : Int32).toInt = 1 from by decide) (by omega) (by omega)) (z_of (z01 (show (1 : Int32).toInt = 1 from by decide) (by omega) (by omega))) (fit_B (z01 (show (1 : Int32).toInt = 1 from by decide) (by omega) (by omega))) dX5_perform_102 (fun H67 locs67 hC67 hS67 U67 => ?_)
                have hKp67 := Kp.upO E g0 fp_RX5_27 rfl U67 hKp34
                have e68 := up_I U67
                refine lv_goto (tgt := 145) hx hb dX5_perform_105 rfl ?_
                refine lv_aload_n hx hb dX5_perform_145 rfl (lv_at hl 4 rfl) ?_
                refine lv_aload_n hx hb dX5_perform_146 rfl (lv_at hl 6 rfl) ?_
                refine q_goIp (q_runV (As := []) (rest := [.ref h0]) E hC67 hS67 (m_X9_allBreaches l X Γ H67 hC67 h2 g2) cw_X9_allBreaches cl_RX5_34 g2 ⟨rfl, rfl⟩ rfl hl.1 rfl (show _ ≤ _ from by simp [Value.category]) (by decide) dX5_perform_147) hS67 (fun v69 locs69 hr69 hS69 => ?_)
                refine lv_iload hx hb dX5_perform_150 (lv_at hl 3 rfl) ?_
                refine lv_isub hx hb dX5_perform_152 (lv_topi (fun v70 ev70 => ?_))
                refine q_put E hC67 hS69 g0 fp_RX5_59 tv_F rfl rfl dX5_perform_153 (fun H71 locs71 hC71 hS71 U71 => ?_)
                have hKp71 := Kp.upO E g0 fp_RX5_59 rfl U71 hKp67
                have e72 := up_I U71
                exact ret H71 locs71 _ _ dX5_perform_156 hKp71 hC71 hS71
            · refine lv_aload_n hx hb dX5_perform_78 rfl (lv_at hl 4 rfl) ?_
              refine lv_aload_n hx hb dX5_perform_79 rfl (lv_at hl 5 rfl) ?_
              refine lv_iload hx hb dX5_perform_80 (lv_at hl 2 rfl) ?_
              refine q_goI (q_runV (As := [.ref h1, .int v33]) (rest := []) E hC34 hS48 (m_X5_behindEnd l X Γ H34 hC34 h0 g0 h1 g1 v33 (a2 := z33) ev33) cw_X5_behindEnd cl_RX5_51 g0 ⟨rfl, rfl⟩ rfl hl.1 rfl (Nat.zero_le _) (by decide) dX5_perform_82) hS48 (fun v73 H73 locs73 hr73 hC73 hS73 => ?_)
              obtain ⟨hp73, hr73⟩ := hr73
              have hKp73 := hKp34.tr (hp73.mono rfl)
              refine lv_istore hx hb dX5_perform_85 hl (by decide) rfl (fun ls hl => ?_)
              replace hl : lv_has ls 9 [(6, .int v73), (8, .int v51), (7, .int v32), (5, .int v31), (0, .ref h0), (1, .ref h1), (2, .ref h2), (3, .ref h3), (4, .int p4)] := hl
              refine lv_goto (tgt := 139) hx hb dX5_perform_87 rfl ?_
              obtain ⟨v74, ev74⟩ : ∃ z, z = v32 + Int32.ofInt 1 := ⟨_, rfl⟩
              have ev74i : v74.toInt = (z32 + 1) := i_add ev74 ev32 (by decide) (by omega) (by omega)
              refine lv_iinc hx hb dX5_perform_139 hl (k := 2) rfl ev74.symm (by decide) rfl (fun ls hl => ?_)
              replace hl : lv_has ls 9 [(7, .int v74), (6, .int v73), (8, .int v51), (5, .int v31), (0, .ref h0), (1, .ref h1), (2, .ref h2), (3, .ref h3), (4, .int p4)] := hl
              refine lv_goto (tgt := 38) hx hb dX5_perform_142 rfl ?_
              exact ih34 H73 locs73 v74 ((z32 + 1)) v73 (v73.toInt) ls (by omega) ev74i rfl (by omega) (by omega) hC73 hS73 hKp73 (lv_sub hl [0, 1, 3, 4, 5, 6, 7, 8] rfl)
          · refine q_if_eq hx hb (a := 0) (by decide) (tgt := 145) dX5_perform_59 rfl (fun c75 => ?_) (fun c75 => absurd c75 (by omega))
            refine lv_aload_n hx hb dX5_perform_145 rfl (lv_at hl 3 rfl) ?_
            refine lv_aload_n hx hb dX5_perform_146 rfl (lv_at hl 5 rfl) ?_
            refine q_goIp (q_runV (As := []) (rest := [.ref h0]) E hC34 hS48 (m_X9_allBreaches l X Γ H34 hC34 h2 g2) cw_X9_allBreaches cl_RX5_34 g2 ⟨rfl, rfl⟩ rfl hl.1 rfl (show _ ≤ _ from by simp [Value.category]) (by decide) dX5_perform_147) hS48 (fun v76 locs76 hr76 hS76 => ?_)
            refine lv_iload hx hb dX5_perform_150 (lv_at hl 2 rfl) ?_
            refine lv_isub hx hb dX5_perform_152 (lv_topi (fun v77 ev77 => ?_))
            refine q_put E hC34 hS76 g0 fp_RX5_59 tv_F rfl rfl dX5_perform_153 (fun H78 locs78 hC78 hS78 U78 => ?_)
            have hKp78 := Kp.upO E g0 fp_RX5_59 rfl U78 hKp34
            have e79 := up_I U78
            exact ret H78 locs78 _ _ dX5_perform_156 hKp78 hC78 hS78
  exact L38 _ H29 locs31 0 0 0 0 ls (Nat.lt_succ_self _) (by decide) (by decide) (by omega) (by omega) hC29 hS31 hKp29 hl
set_option maxRecDepth 100000 in
set_option maxHeartbeats 4000000 in
theorem m_X11_run (l : Launch) (X : xW) (Γ : Nat → Option Nat) (H0 : Heap) (hC0 : Conf X Γ H0) (h0 : Nat) (g0 : Γ h0 = some 0) (p1 : Int32) {a1 : Int} (e1 : p1.toInt = a1) : Ctr l X Γ yX11_run cX11_run 2 (some .int) 7 [.ref h0, .int p1] H0 (QI X Γ (fun v H1 => Kp X Γ [0, 2, 3, 4, 5, 18, 21, 23, 25, 27] H0 H1 ∧ (True))) := by
  refine q_enterI (own := "SnowForts") (by decide) rfl (Nat.le_of_ble_eq_true rfl) ?_
  intro p e s m args below meth c ls Qz E hl ret hS0
  have hx := E.1; have hb := E.2.1
  have hKp0 : Kp X Γ [0, 2, 3, 4, 5, 18, 21, 23, 25, 27] H0 H0 := Kp.rf
  have hl : lv_has ls 2 [(0, .ref h0), (1, .int p1)] := hl
  refine lv_iload_n hx hb dX11_run_0 rfl (lv_at hl 1 rfl) ?_
  refine lv_i2l (v := p1.toInt64) hx hb dX11_run_1 rfl (lv_topl (fun v21 ev21 => ?_))
  have ev21i : v21.toInt = a1 := l_ofi ev21.symm e1
  refine lv_iconst (v := 0) hx hb dX11_run_2 rfl ?_
  refine lv_sipush (v := 9999) hx hb dX11_run_3 rfl ?_
  refine q_goIp (q_runS (As := [.long v21, .int 0, .int 9999]) (rest := []) E hS0 (m_X11_isWithin l X Γ H0 hC0 v21 (a0 := a1) ev21i 0 (a1 := 0) (by decide) 9999 (a2 := 9999) (by decide)) cw_X11_isWithin cl_RX11_113 rfl hl.1 rfl (Nat.zero_le _) (by decide) dX11_run_6) hS0 (fun v22 locs22 hr22 hS22 => ?_)
  rcases hr22 with ⟨rfl, f22a0, f22a1⟩ | ⟨rfl, f22b⟩
  · refine q_if_ne hx hb (a := 1) (by decide) (tgt := 18) dX11_run_9 rfl (fun c23 => ?_) (fun c23 => absurd c23 (by omega))
    refine lv_aload_n hx hb dX11_run_18 rfl (lv_at hl 0 rfl) ?_
    refine q_getR E hC0 g0 fa_RX11_52 dX11_run_19 (fun q24 eq24 gq24 => ?_)
    refine q_getI E hC0 gq24 fa_RX11_362 dX11_run_22 (fun v25 ev25 lv25 uv25 => ?_)
    refine q_if_ne hx hb (a := v25.toInt) rfl (tgt := 35) dX11_run_25 rfl (fun c26 => ?_) (fun c26 => ?_)
    · refine lv_aload_n hx hb dX11_run_35 rfl (lv_at hl 0 rfl) ?_
      refine q_getR E hC0 g0 fa_RX11_95 dX11_run_36 (fun q27 eq27 gq27 => ?_)
      refine lv_aload_n hx hb dX11_run_39 rfl (lv_at hl 0 rfl) ?_
      refine q_getR E hC0 g0 fa_RX11_52 dX11_run_40 (fun q28 eq28 gq28 => ?_)
      refine lv_aload_n hx hb dX11_run_43 rfl (lv_at hl 0 rfl) ?_
      refine q_getR E hC0 g0 fa_RX11_42 dX11_run_44 (fun q29 eq29 gq29 => ?_)
      refine lv_aload_n hx hb dX11_run_47 rfl (lv_at hl 0 rfl) ?_
      refine q_getR E hC0 g0 fa_RX11_70 dX11_run_48 (fun q30 eq30 gq30 => ?_)
      refine lv_iload_n hx hb dX11_run_51 rfl (lv_at hl 1 rfl) ?_
      refine q_goV (q_runV (As := [.ref q28, .ref q29, .ref q30, .int p1]) (rest := []) E hC0 hS22 (m_X5_perform l X Γ H0 hC0 q27 gq27 q28 gq28 q29 gq29 q30 gq30 p1 (a4 := a1) e1) cw_X5_perform cl_RX11_366 gq27 ⟨rfl, rfl⟩ rfl hl.1 rfl (Nat.zero_le _) (by decide) dX11_run_52) hS22 (fun H31 locs31 hr31 hC31 hS31 => ?_)
      have hKp31 := hKp0.tr (hr31.mono rfl)
      refine lv_aload_n hx hb dX11_run_55 rfl (lv_at hl 0 rfl) ?_
      refine lv_aload_n hx hb dX11_run_56 rfl (lv_at hl 0 rfl) ?_
      refine q_getR E hC31 g0 fa_RX11_95 dX11_run_57 (fun q32 eq32 gq32 => ?_)
      refine q_getI E hC31 gq32 fa_RX11_370 dX11_run_60 (fun v33 ev33 _ _ => ?_)
      refine q_goI (q_runV (As := [.int v33]) (rest := []) E hC31 hS31 (m_X11_answer l X Γ H31 hC31 h0 g0 v33 (a1 := v33.toInt) rfl) cw_X11_answer cl_RX11_191 g0 ⟨rfl, rfl⟩ rfl hl.1 rfl (Nat.zero_le _) (by decide) dX11_run_63) hS31 (fun v34 H34 locs34 hr34 hC34 hS34 => ?_)
      obtain ⟨hp34, hr34⟩ := hr34
      have hKp34 := hKp31.tr (hp34.mono rfl)
      have f34_0 := hr34
      exact ret v34 H34 locs34 _ _ dX11_run_66 ⟨hKp34, trivial⟩ hC34 hS34
    · refine lv_aload_n hx hb dX11_run_28 rfl (lv_at hl 0 rfl) ?_
      refine lv_bipush (v := 8) hx hb dX11_run_29 rfl ?_
      refine q_goI (q_runV (As := [.int 8]) (rest := []) E hC0 hS22 (m_X11_refuse l X Γ H0 hC0 h0 g0 8 (a1 := 8) (by decide)) cw_X11_refuse cl_RX11_146 g0 ⟨rfl, rfl⟩ rfl hl.1 rfl (Nat.zero_le _) (by decide) dX11_run_31) hS22 (fun v35 H35 locs35 hr35 hC35 hS35 => ?_)
      obtain ⟨hp35, hr35⟩ := hr35
      have hKp35 := hKp0.tr (hp35.mono rfl)
      have f35_0 := hr35
      exact ret v35 H35 locs35 _ _ dX11_run_34 ⟨hKp35, trivial⟩ hC35 hS35
  · refine q_if_ne hx hb (a := 0) (by decide) (tgt := 18) dX11_run_9 rfl (fun c36 => absurd c36 (by omega)) (fun c36 => ?_)
    refine lv_aload_n hx hb dX11_run_12 rfl (lv_at hl 0 rfl) ?_
    refine lv_iconst (v := 5) hx hb dX11_run_13 rfl ?_
    refine q_goI (q_runV (As := [.int 5]) (rest := []) E hC0 hS22 (m_X11_refuse l X Γ H0 hC0 h0 g0 5 (a1 := 5) (by decide)) cw_X11_refuse cl_RX11_146 g0 ⟨rfl, rfl⟩ rfl hl.1 rfl (Nat.zero_le _) (by decide) dX11_run_14) hS22 (fun v37 H37 locs37 hr37 hC37 hS37 => ?_)
    obtain ⟨hp37, hr37⟩ := hr37
    have hKp37 := hKp0.tr (hp37.mono rfl)
    have f37_0 := hr37
    exact ret v37 H37 locs37 _ _ dX11_run_17 ⟨hKp37, trivial⟩ hC37 hS37
set_option maxRecDepth 100000 in
set_option maxHeartbeats 4000000 in
theorem m_X5_tell (l : Launch) (X : xW) (Γ : Nat → Option Nat) (H0 : Heap) (hC0 : Conf X Γ H0) (h0 : Nat) (g0 : Γ h0 = some 10) (p1 : Int32) {a1 : Int} (e1 : p1.toInt = a1) : Ctr l X Γ yX5_tell cX5_tell 2 (some .int) 0 [.ref h0, .int p1] H0 (QI X Γ (fun v H1 => H1 = H0 ∧ (True))) := by
  refine q_enterI (own := "SnowForts$Runner") (by decide) rfl (Nat.le_of_ble_eq_true rfl) ?_
  intro p e s m args below meth c ls Qz E hl ret hS0
  have hx := E.1; have hb := E.2.1
  have hl : lv_has ls 2 [(0, .ref h0), (1, .int p1)] := hl
  refine lv_iload_n hx hb dX5_tell_0 rfl (lv_at hl 1 rfl) ?_
  by_cases c21_0 : a1 = 0
  · have c21_x := (show p1.toInt = a1 from e1).trans c21_0
    refine lv_tableIn hx hb dX5_tell_1 (by rw [c21_x]; decide) (by rw [c21_x]; decide) (off := 27) (by rw [c21_x]; rfl) (tgt := 28) rfl ?_
    refine lv_aload_n hx hb dX5_tell_28 rfl (lv_at hl 0 rfl) ?_
    refine q_getI E hC0 g0 fa_RX5_21 dX5_tell_29 (fun v22 ev22 _ _ => ?_)
    exact ret v22 H0 [] _ _ dX5_tell_32 ⟨rfl, trivial⟩ hC0 hS0
  by_cases c21_1 : a1 = 1
  · have c21_x := (show p1.toInt = a1 from e1).trans c21_1
    refine lv_tableIn hx hb dX5_tell_1 (by rw [c21_x]; decide) (by rw [c21_x]; decide) (off := 32) (by rw [c21_x]; rfl) (tgt := 33) rfl ?_
    refine lv_aload_n hx hb dX5_tell_33 rfl (lv_at hl 0 rfl) ?_
    refine q_getI E hC0 g0 fa_RX5_24 dX5_tell_34 (fun v23 ev23 _ _ => ?_)
    exact ret v23 H0 [] _ _ dX5_tell_37 ⟨rfl, trivial⟩ hC0 hS0
  by_cases c21_2 : a1 = 2
  · have c21_x := (show p1.toInt = a1 from e1).trans c21_2
    refine lv_tableIn hx hb dX5_tell_1 (by rw [c21_x]; decide) (by rw [c21_x]; decide) (off := 37) (by rw [c21_x]; rfl) (tgt := 38) rfl ?_
    refine lv_aload_n hx hb dX5_tell_38 rfl (lv_at hl 0 rfl) ?_
    refine q_getI E hC0 g0 fa_RX5_59 dX5_tell_39 (fun v24 ev24 _ _ => ?_)
    exact ret v24 H0 [] _ _ dX5_tell_42 ⟨rfl, trivial⟩ hC0 hS0
  refine lv_tableOut hx hb dX5_tell_1 (by rw [show p1.toInt = a1 from e1]; omega) (tgt := 43) rfl ?_
  refine lv_aload_n hx hb dX5_tell_43 rfl (lv_at hl 0 rfl) ?_
  refine q_getI E hC0 g0 fa_RX5_27 dX5_tell_44 (fun v25 ev25 lv25 uv25 => ?_)
  refine q_if_eq hx hb (a := v25.toInt) rfl (tgt := 54) dX5_tell_47 rfl (fun c26 => ?_) (fun c26 => ?_)
  · refine lv_iconst (v := 0) hx hb dX5_tell_54 rfl ?_
    exact ret 0 H0 [] _ _ dX5_tell_55 ⟨rfl, trivial⟩ hC0 hS0
  · refine lv_iconst (v := 1) hx hb dX5_tell_50 rfl ?_
    refine lv_goto (tgt := 55) hx hb dX5_tell_51 rfl ?_
    exact ret 1 H0 [] _ _ dX5_tell_55 ⟨rfl, trivial⟩ hC0 hS0
set_option maxRecDepth 100000 in
set_option maxHeartbeats 4000000 in
theorem m_X11_ran (l : Launch) (X : xW) (Γ : Nat → Option Nat) (H0 : Heap) (hC0 : Conf X Γ H0) (h0 : Nat) (g0 : Γ h0 = some 0) (p1 : Int32) {a1 : Int} (e1 : p1.toInt = a1) : Ctr l X Γ yX11_ran cX11_ran 2 (some .int) 1 [.ref h0, .int p1] H0 (QI X Γ (fun v H1 => Kp X Γ [0, 2, 3, 4, 5, 18, 21, 23, 25, 27] H0 H1 ∧ (True))) := by
  refine q_enterI (own := "SnowForts") (by decide) rfl (Nat.le_of_ble_eq_true rfl) ?_
  intro p e s m args below meth c ls Qz E hl ret hS0
  have hx := E.1; have hb := E.2.1
  have hKp0 : Kp X Γ [0, 2, 3, 4, 5, 18, 21, 23, 25, 27] H0 H0 := Kp.rf
  have hl : lv_has ls 2 [(0, .ref h0), (1, .int p1)] := hl
  refine lv_iload_n hx hb dX11_ran_0 rfl (lv_at hl 1 rfl) ?_
  refine lv_i2l (v := p1.toInt64) hx hb dX11_ran_1 rfl (lv_topl (fun v21 ev21 => ?_))
  have ev21i : v21.toInt = a1 := l_ofi ev21.symm e1
  refine lv_iconst (v := 0) hx hb dX11_ran_2 rfl ?_
  refine lv_iconst (v := 3) hx hb dX11_ran_3 rfl ?_
  refine q_goIp (q_runS (As := [.long v21, .int 0, .int 3]) (rest := []) E hS0 (m_X11_isWithin l X Γ H0 hC0 v21 (a0 := a1) ev21i 0 (a1 := 0) (by decide) 3 (a2 := 3) (by decide)) cw_X11_isWithin cl_RX11_113 rfl hl.1 rfl (Nat.zero_le _) (by decide) dX11_ran_4) hS0 (fun v22 locs22 hr22 hS22 => ?_)
  rcases hr22 with ⟨rfl, f22a0, f22a1⟩ | ⟨rfl, f22b⟩
  · refine q_if_ne hx hb (a := 1) (by decide) (tgt := 16) dX11_ran_7 rfl (fun c23 => ?_) (fun c23 => absurd c23 (by omega))
    refine lv_aload_n hx hb dX11_ran_16 rfl (lv_at hl 0 rfl) ?_
    refine q_getR E hC0 g0 fa_RX11_95 dX11_ran_17 (fun q24 eq24 gq24 => ?_)
    refine q_getI E hC0 gq24 fa_RX11_370 dX11_ran_20 (fun v25 ev25 _ _ => ?_)
    refine lv_iconst (v := (-1)) hx hb dX11_ran_23 rfl ?_
    refine q_icmp_ne hx hb (a := v25.toInt) (b := (-1)) rfl (by decide) (tgt := 36) dX11_ran_24 rfl (fun c26 => ?_) (fun c26 => ?_)
    · refine lv_aload_n hx hb dX11_ran_36 rfl (lv_at hl 0 rfl) ?_
      refine lv_aload_n hx hb dX11_ran_37 rfl (lv_at hl 0 rfl) ?_
      refine q_getR E hC0 g0 fa_RX11_95 dX11_ran_38 (fun q27 eq27 gq27 => ?_)
      refine lv_iload_n hx hb dX11_ran_41 rfl (lv_at hl 1 rfl) ?_
      refine q_goIp (q_runV (As := [.int p1]) (rest := [.ref h0]) E hC0 hS22 (m_X5_tell l X Γ H0 hC0 q27 gq27 p1 (a1 := a1) e1) cw_X5_tell cl_RX11_373 gq27 ⟨rfl, rfl⟩ rfl hl.1 rfl (show _ ≤ _ from by simp [Value.category]) (by decide) dX11_ran_42) hS22 (fun v28 locs28 hr28 hS28 => ?_)
      refine q_goI (q_runV (As := [.int v28]) (rest := []) E hC0 hS28 (m_X11_answer l X Γ H0 hC0 h0 g0 v28 (a1 := v28.toInt) rfl) cw_X11_answer cl_RX11_191 g0 ⟨rfl, rfl⟩ rfl hl.1 rfl (Nat.zero_le _) (by decide) dX11_ran_45) hS28 (fun v29 H29 locs29 hr29 hC29 hS29 => ?_)
      obtain ⟨hp29, hr29⟩ := hr29
      have hKp29 := hKp0.tr (hp29.mono rfl)
      have f29_0 := hr29
      exact ret v29 H29 locs29 _ _ dX11_ran_48 ⟨hKp29, trivial⟩ hC29 hS29
    · refine lv_aload_n hx hb dX11_ran_27 rfl (lv_at hl 0 rfl) ?_
      refine lv_bipush (v := 8) hx hb dX11_ran_28 rfl ?_
      refine q_goI (q_runV (As := [.int 8]) (rest := []) E hC0 hS22 (m_X11_refuse l X Γ H0 hC0 h0 g0 8 (a1 := 8) (by decide)) cw_X11_refuse cl_RX11_146 g0 ⟨rfl, rfl⟩ rfl hl.1 rfl (Nat.zero_le _) (by decide) dX11_ran_30) hS22 (fun v30 H30 locs30 hr30 hC30 hS30 => ?_)
      obtain ⟨hp30, hr30⟩ := hr30
      have hKp30 := hKp0.tr (hp30.mono rfl)
      have f30_0 := hr30
      refine lv_goto (tgt := 48) hx hb dX11_ran_33 rfl ?_
      exact ret v30 H30 locs30 _ _ dX11_ran_48 ⟨hKp30, trivial⟩ hC30 hS30
  · refine q_if_ne hx hb (a := 0) (by decide) (tgt := 16) dX11_ran_7 rfl (fun c31 => absurd c31 (by omega)) (fun c31 => ?_)
    refine lv_aload_n hx hb dX11_ran_10 rfl (lv_at hl 0 rfl) ?_
    refine lv_iconst (v := 5) hx hb dX11_ran_11 rfl ?_
    refine q_goI (q_runV (As := [.int 5]) (rest := []) E hC0 hS22 (m_X11_refuse l X Γ H0 hC0 h0 g0 5 (a1 := 5) (by decide)) cw_X11_refuse cl_RX11_146 g0 ⟨rfl, rfl⟩ rfl hl.1 rfl (Nat.zero_le _) (by decide) dX11_ran_12) hS22 (fun v32 H32 locs32 hr32 hC32 hS32 => ?_)
    obtain ⟨hp32, hr32⟩ := hr32
    have hKp32 := hKp0.tr (hp32.mono rfl)
    have f32_0 := hr32
    exact ret v32 H32 locs32 _ _ dX11_ran_15 ⟨hKp32, trivial⟩ hC32 hS32
set_option maxRecDepth 100000 in
set_option maxHeartbeats 4000000 in
theorem m_X9_copyOf (l : Launch) (X : xW) (Γ : Nat → Option Nat) (H0 : Heap) (hC0 : Conf X Γ H0) (h0 : Nat) (g0 : Γ h0 = some 5) (h1 : Nat) (g1 : Γ h1 = some 5) : Ctr l X Γ yX9_copyOf cX9_copyOf 2 none 1 [.ref h0, .ref h1] H0 (QV X Γ (fun H1 => Kp X Γ [0, 2, 3, 4, 5, 18, 21, 23, 25, 27] H0 H1)) := by
  refine q_enterV (own := "SnowForts$Yard") (by decide) rfl (Nat.le_of_ble_eq_true rfl) ?_
  intro p e s m args below meth c ls Qz E hl ret hS0
  have hx := E.1; have hb := E.2.1
  have hKp0 : Kp X Γ [0, 2, 3, 4, 5, 18, 21, 23, 25, 27] H0 H0 := Kp.rf
  have hl : lv_has ls 2 [(0, .ref h0), (1, .ref h1)] := hl
  refine lv_aload_n hx hb dX9_copyOf_0 rfl (lv_at hl 0 rfl) ?_
  refine lv_aload_n hx hb dX9_copyOf_1 rfl (lv_at hl 1 rfl) ?_
  refine q_getI E hC0 g1 fa_RX9_9 dX9_copyOf_2 (fun v21 ev21 _ _ => ?_)
  refine q_put E hC0 hS0 g0 fp_RX9_9 tv_F rfl rfl dX9_copyOf_5 (fun H22 locs22 hC22 hS22 U22 => ?_)
  have hKp22 := Kp.upO E g0 fp_RX9_9 rfl U22 hKp0
  have e23 := up_I U22
  refine lv_aload_n hx hb dX9_copyOf_8 rfl (lv_at hl 0 rfl) ?_
  refine lv_aload_n hx hb dX9_copyOf_9 rfl (lv_at hl 1 rfl) ?_
  refine q_getI E hC22 g1 fa_RX9_15 dX9_copyOf_10 (fun v24 ev24 _ _ => ?_)
  refine q_put E hC22 hS22 g0 fp_RX9_15 tv_F rfl rfl dX9_copyOf_13 (fun H25 locs25 hC25 hS25 U25 => ?_)
  have hKp25 := Kp.upO E g0 fp_RX9_15 rfl U25 hKp22
  have e26 := up_I U25
  refine lv_aload_n hx hb dX9_copyOf_16 rfl (lv_at hl 0 rfl) ?_
  refine lv_aload_n hx hb dX9_copyOf_17 rfl (lv_at hl 1 rfl) ?_
  refine q_getI E hC25 g1 fa_RX9_52 dX9_copyOf_18 (fun v27 ev27 _ _ => ?_)
  refine q_put E hC25 hS25 g0 fp_RX9_52 tv_F rfl rfl dX9_copyOf_21 (fun H28 locs28 hC28 hS28 U28 => ?_)
  have hKp28 := Kp.upO E g0 fp_RX9_52 rfl U28 hKp25
  have e29 := up_I U28
  refine lv_aload_n hx hb dX9_copyOf_24 rfl (lv_at hl 0 rfl) ?_
  refine lv_aload_n hx hb dX9_copyOf_25 rfl (lv_at hl 1 rfl) ?_
  refine q_getI E hC28 g1 fa_RX9_55 dX9_copyOf_26 (fun v30 ev30 _ _ => ?_)
  refine q_put E hC28 hS28 g0 fp_RX9_55 tv_F rfl rfl dX9_copyOf_29 (fun H31 locs31 hC31 hS31 U31 => ?_)
  have hKp31 := Kp.upO E g0 fp_RX9_55 rfl U31 hKp28
  have e32 := up_I U31
  refine lv_aload_n hx hb dX9_copyOf_32 rfl (lv_at hl 0 rfl) ?_
  refine lv_aload_n hx hb dX9_copyOf_33 rfl (lv_at hl 1 rfl) ?_
  refine q_getI E hC31 g1 fa_RX9_58 dX9_copyOf_34 (fun v33 ev33 _ _ => ?_)
  refine q_put E hC31 hS31 g0 fp_RX9_58 tv_F rfl rfl dX9_copyOf_37 (fun H34 locs34 hC34 hS34 U34 => ?_)
  have hKp34 := Kp.upO E g0 fp_RX9_58 rfl U34 hKp31
  have e35 := up_I U34
  refine lv_aload_n hx hb dX9_copyOf_40 rfl (lv_at hl 0 rfl) ?_
  refine lv_aload_n hx hb dX9_copyOf_41 rfl (lv_at hl 1 rfl) ?_
  refine q_getI E hC34 g1 fa_RX9_61 dX9_copyOf_42 (fun v36 ev36 _ _ => ?_)
  refine q_put E hC34 hS34 g0 fp_RX9_61 tv_F rfl rfl dX9_copyOf_45 (fun H37 locs37 hC37 hS37 U37 => ?_)
  have hKp37 := Kp.upO E g0 fp_RX9_61 rfl U37 hKp34
  have e38 := up_I U37
  refine lv_aload_n hx hb dX9_copyOf_48 rfl (lv_at hl 0 rfl) ?_
  refine lv_aload_n hx hb dX9_copyOf_49 rfl (lv_at hl 1 rfl) ?_
  refine q_getI E hC37 g1 fa_RX9_64 dX9_copyOf_50 (fun v39 ev39 _ _ => ?_)
  refine q_put E hC37 hS37 g0 fp_RX9_64 tv_F rfl rfl dX9_copyOf_53 (fun H40 locs40 hC40 hS40 U40 => ?_)
  have hKp40 := Kp.upO E g0 fp_RX9_64 rfl U40 hKp37
  have e41 := up_I U40
  refine lv_aload_n hx hb dX9_copyOf_56 rfl (lv_at hl 1 rfl) ?_
  refine q_getR E hC40 g1 fa_RX9_18 dX9_copyOf_57 (fun q42 eq42 gq42 => ?_)
  refine lv_iconst (v := 0) hx hb dX9_copyOf_60 rfl ?_
  refine lv_aload_n hx hb dX9_copyOf_61 rfl (lv_at hl 0 rfl) ?_
  refine q_getR E hC40 g0 fa_RX9_18 dX9_copyOf_62 (fun q43 eq43 gq43 => ?_)
  refine lv_iconst (v := 0) hx hb dX9_copyOf_65 rfl ?_
  refine lv_iconst (v := 2) hx hb dX9_copyOf_66 rfl ?_
  refine q_copyI E hl.1 w_971 arrw hC40 hS40 gq42 gq43 (by decide) rfl rfl rfl rfl (fun _ => rfl) (fun _ => rfl) (a := 0) (b := 0) (d := 2) (show (0 : Int32).toInt = 0 from by decide) (show (0 : Int32).toInt = 0 from by decide) (show (2 : Int32).toInt = 2 from by decide) (by omega) (by omega) (by omega) (by omega) (by omega) (by decide) (Nat.zero_le _) dX9_copyOf_67 (fun H44 locs44 hC44 hS44 U44 => ?_)
  obtain ⟨U44, C44⟩ := U44
  have hKp44 := Kp.upC gq43 rfl (by decide) rfl U44 hKp40
  refine lv_aload_n hx hb dX9_copyOf_70 rfl (lv_at hl 1 rfl) ?_
  refine q_getR E hC44 g1 fa_RX9_22 dX9_copyOf_71 (fun q45 eq45 gq45 => ?_)
  refine lv_iconst (v := 0) hx hb dX9_copyOf_74 rfl ?_
  refine lv_aload_n hx hb dX9_copyOf_75 rfl (lv_at hl 0 rfl) ?_
  refine q_getR E hC44 g0 fa_RX9_22 dX9_copyOf_76 (fun q46 eq46 gq46 => ?_)
  refine lv_iconst (v := 0) hx hb dX9_copyOf_79 rfl ?_
  refine lv_iconst (v := 2) hx hb dX9_copyOf_80 rfl ?_
  refine q_copyI E hl.1 w_971 arrw hC44 hS44 gq45 gq46 (by decide) rfl rfl rfl rfl (fun _ => rfl) (fun _ => rfl) (a := 0) (b := 0) (d := 2) (show (0 : Int32).toInt = 0 from by decide) (show (0 : Int32).toInt = 0 from by decide) (show (2 : Int32).toInt = 2 from by decide) (by omega) (by omega) (by omega) (by omega) (by omega) (by decide) (Nat.zero_le _) dX9_copyOf_81 (fun H47 locs47 hC47 hS47 U47 => ?_)
  obtain ⟨U47, C47⟩ := U47
  have hKp47 := Kp.upC gq46 rfl (by decide) rfl U47 hKp44
  refine lv_aload_n hx hb dX9_copyOf_84 rfl (lv_at hl 1 rfl) ?_
  refine q_getR E hC47 g1 fa_RX9_25 dX9_copyOf_85 (fun q48 eq48 gq48 => ?_)
  refine lv_iconst (v := 0) hx hb dX9_copyOf_88 rfl ?_
  refine lv_aload_n hx hb dX9_copyOf_89 rfl (lv_at hl 0 rfl) ?_
  refine q_getR E hC47 g0 fa_RX9_25 dX9_copyOf_90 (fun q49 eq49 gq49 => ?_)
  refine lv_iconst (v := 0) hx hb dX9_copyOf_93 rfl ?_
  refine lv_iconst (v := 2) hx hb dX9_copyOf_94 rfl ?_
  refine q_copyI E hl.1 w_971 arrw hC47 hS47 gq48 gq49 (by decide) rfl rfl rfl rfl (fun _ => rfl) (fun _ => rfl) (a := 0) (b := 0) (d := 2) (show (0 : Int32).toInt = 0 from by decide) (show (0 : Int32).toInt = 0 from by decide) (show (2 : Int32).toInt = 2 from by decide) (by omega) (by omega) (by omega) (by omega) (by omega) (by decide) (Nat.zero_le _) dX9_copyOf_95 (fun H50 locs50 hC50 hS50 U50 => ?_)
  obtain ⟨U50, C50⟩ := U50
  have hKp50 := Kp.upC gq49 rfl (by decide) rfl U50 hKp47
  refine lv_aload_n hx hb dX9_copyOf_98 rfl (lv_at hl 1 rfl) ?_
  refine q_getR E hC50 g1 fa_RX9_28 dX9_copyOf_99 (fun q51 eq51 gq51 => ?_)
  refine lv_iconst (v := 0) hx hb dX9_copyOf_102 rfl ?_
  refine lv_aload_n hx hb dX9_copyOf_103 rfl (lv_at hl 0 rfl) ?_
  refine q_getR E hC50 g0 fa_RX9_28 dX9_copyOf_104 (fun q52 eq52 gq52 => ?_)
  refine lv_iconst (v := 0) hx hb dX9_copyOf_107 rfl ?_
  refine lv_iconst (v := 4) hx hb dX9_copyOf_108 rfl ?_
  refine q_copyI E hl.1 w_971 arrw hC50 hS50 gq51 gq52 (by decide) rfl rfl rfl rfl (fun _ => rfl) (fun _ => rfl) (a := 0) (b := 0) (d := 4) (show (0 : Int32).toInt = 0 from by decide) (show (0 : Int32).toInt = 0 from by decide) (show (4 : Int32).toInt = 4 from by decide) (by omega) (by omega) (by omega) (by omega) (by omega) (by decide) (Nat.zero_le _) dX9_copyOf_109 (fun H53 locs53 hC53 hS53 U53 => ?_)
  obtain ⟨U53, C53⟩ := U53
  have hKp53 := Kp.upC gq52 rfl (by decide) rfl U53 hKp50
  refine lv_aload_n hx hb dX9_copyOf_112 rfl (lv_at hl 1 rfl) ?_
  refine q_getR E hC53 g1 fa_RX9_31 dX9_copyOf_113 (fun q54 eq54 gq54 => ?_)
  refine lv_iconst (v := 0) hx hb dX9_copyOf_116 rfl ?_
  refine lv_aload_n hx hb dX9_copyOf_117 rfl (lv_at hl 0 rfl) ?_
  refine q_getR E hC53 g0 fa_RX9_31 dX9_copyOf_118 (fun q55 eq55 gq55 => ?_)
  refine lv_iconst (v := 0) hx hb dX9_copyOf_121 rfl ?_
  refine lv_iconst (v := 5) hx hb dX9_copyOf_122 rfl ?_
  refine q_copyI E hl.1 w_971 arrw hC53 hS53 gq54 gq55 (by decide) rfl rfl rfl rfl (fun _ => rfl) (fun _ => rfl) (a := 0) (b := 0) (d := 5) (show (0 : Int32).toInt = 0 from by decide) (show (0 : Int32).toInt = 0 from by decide) (show (5 : Int32).toInt = 5 from by decide) (by omega) (by omega) (by omega) (by omega) (by omega) (by decide) (Nat.zero_le _) dX9_copyOf_123 (fun H56 locs56 hC56 hS56 U56 => ?_)
  obtain ⟨U56, C56⟩ := U56
  have hKp56 := Kp.upC gq55 rfl (by decide) rfl U56 hKp53
  refine lv_aload_n hx hb dX9_copyOf_126 rfl (lv_at hl 1 rfl) ?_
  refine q_getR E hC56 g1 fa_RX9_34 dX9_copyOf_127 (fun q57 eq57 gq57 => ?_)
  refine lv_iconst (v := 0) hx hb dX9_copyOf_130 rfl ?_
  refine lv_aload_n hx hb dX9_copyOf_131 rfl (lv_at hl 0 rfl) ?_
  refine q_getR E hC56 g0 fa_RX9_34 dX9_copyOf_132 (fun q58 eq58 gq58 => ?_)
  refine lv_iconst (v := 0) hx hb dX9_copyOf_135 rfl ?_
  refine lv_bipush (v := 36) hx hb dX9_copyOf_136 rfl ?_
  refine q_copyI E hl.1 w_971 arrw hC56 hS56 gq57 gq58 (by decide) rfl rfl rfl rfl (fun _ => rfl) (fun _ => rfl) (a := 0) (b := 0) (d := 36) (show (0 : Int32).toInt = 0 from by decide) (show (0 : Int32).toInt = 0 from by decide) (show (36 : Int32).toInt = 36 from by decide) (by omega) (by omega) (by omega) (by omega) (by omega) (by decide) (Nat.zero_le _) dX9_copyOf_138 (fun H59 locs59 hC59 hS59 U59 => ?_)
  obtain ⟨U59, C59⟩ := U59
  have hKp59 := Kp.upC gq58 rfl (by decide) rfl U59 hKp56
  refine lv_aload_n hx hb dX9_copyOf_141 rfl (lv_at hl 1 rfl) ?_
  refine q_getR E hC59 g1 fa_RX9_37 dX9_copyOf_142 (fun q60 eq60 gq60 => ?_)
  refine lv_iconst (v := 0) hx hb dX9_copyOf_145 rfl ?_
  refine lv_aload_n hx hb dX9_copyOf_146 rfl (lv_at hl 0 rfl) ?_
  refine q_getR E hC59 g0 fa_RX9_37 dX9_copyOf_147 (fun q61 eq61 gq61 => ?_)
  refine lv_iconst (v := 0) hx hb dX9_copyOf_150 rfl ?_
  refine lv_bipush (v := 36) hx hb dX9_copyOf_151 rfl ?_
  refine q_copyI E hl.1 w_971 arrw hC59 hS59 gq60 gq61 (by decide) rfl rfl rfl rfl (fun _ => rfl) (fun _ => rfl) (a := 0) (b := 0) (d := 36) (show (0 : Int32).toInt = 0 from by decide) (show (0 : Int32).toInt = 0 from by decide) (show (36 : Int32).toInt = 36 from by decide) (by omega) (by omega) (by omega) (by omega) (by omega) (by decide) (Nat.zero_le _) dX9_copyOf_153 (fun H62 locs62 hC62 hS62 U62 => ?_)
  obtain ⟨U62, C62⟩ := U62
  have hKp62 := Kp.upC gq61 rfl (by decide) rfl U62 hKp59
  refine lv_aload_n hx hb dX9_copyOf_156 rfl (lv_at hl 1 rfl) ?_
  refine q_getR E hC62 g1 fa_RX9_40 dX9_copyOf_157 (fun q63 eq63 gq63 => ?_)
  refine lv_iconst (v := 0) hx hb dX9_copyOf_160 rfl ?_
  refine lv_aload_n hx hb dX9_copyOf_161 rfl (lv_at hl 0 rfl) ?_
  refine q_getR E hC62 g0 fa_RX9_40 dX9_copyOf_162 (fun q64 eq64 gq64 => ?_)
  refine lv_iconst (v := 0) hx hb dX9_copyOf_165 rfl ?_
  refine lv_bipush (v := 36) hx hb dX9_copyOf_166 rfl ?_
  refine q_copyI E hl.1 w_971 arrw hC62 hS62 gq63 gq64 (by decide) rfl rfl rfl rfl (fun _ => rfl) (fun _ => rfl) (a := 0) (b := 0) (d := 36) (show (0 : Int32).toInt = 0 from by decide) (show (0 : Int32).toInt = 0 from by decide) (show (36 : Int32).toInt = 36 from by decide) (by omega) (by omega) (by omega) (by omega) (by omega) (by decide) (Nat.zero_le _) dX9_copyOf_168 (fun H65 locs65 hC65 hS65 U65 => ?_)
  obtain ⟨U65, C65⟩ := U65
  have hKp65 := Kp.upC gq64 rfl (by decide) rfl U65 hKp62
  refine lv_aload_n hx hb dX9_copyOf_171 rfl (lv_at hl 1 rfl) ?_
  refine q_getR E hC65 g1 fa_RX9_43 dX9_copyOf_172 (fun q66 eq66 gq66 => ?_)
  refine lv_iconst (v := 0) hx hb dX9_copyOf_175 rfl ?_
  refine lv_aload_n hx hb dX9_copyOf_176 rfl (lv_at hl 0 rfl) ?_
  refine q_getR E hC65 g0 fa_RX9_43 dX9_copyOf_177 (fun q67 eq67 gq67 => ?_)
  refine lv_iconst (v := 0) hx hb dX9_copyOf_180 rfl ?_
  refine lv_bipush (v := 36) hx hb dX9_copyOf_181 rfl ?_
  refine q_copyI E hl.1 w_971 arrw hC65 hS65 gq66 gq67 (by decide) rfl rfl rfl rfl (fun _ => rfl) (fun _ => rfl) (a := 0) (b := 0) (d := 36) (show (0 : Int32).toInt = 0 from by decide) (show (0 : Int32).toInt = 0 from by decide) (show (36 : Int32).toInt = 36 from by decide) (by omega) (by omega) (by omega) (by omega) (by omega) (by decide) (Nat.zero_le _) dX9_copyOf_183 (fun H68 locs68 hC68 hS68 U68 => ?_)
  obtain ⟨U68, C68⟩ := U68
  have hKp68 := Kp.upC gq67 rfl (by decide) rfl U68 hKp65
  refine lv_aload_n hx hb dX9_copyOf_186 rfl (lv_at hl 1 rfl) ?_
  refine q_getR E hC68 g1 fa_RX9_46 dX9_copyOf_187 (fun q69 eq69 gq69 => ?_)
  refine lv_iconst (v := 0) hx hb dX9_copyOf_190 rfl ?_
  refine lv_aload_n hx hb dX9_copyOf_191 rfl (lv_at hl 0 rfl) ?_
  refine q_getR E hC68 g0 fa_RX9_46 dX9_copyOf_192 (fun q70 eq70 gq70 => ?_)
  refine lv_iconst (v := 0) hx hb dX9_copyOf_195 rfl ?_
  refine lv_bipush (v := 36) hx hb dX9_copyOf_196 rfl ?_
  refine q_copyI E hl.1 w_971 arrw hC68 hS68 gq69 gq70 (by decide) rfl rfl rfl rfl (fun _ => rfl) (fun _ => rfl) (a := 0) (b := 0) (d := 36) (show (0 : Int32).toInt = 0 from by decide) (show (0 : Int32).toInt = 0 from by decide) (show (36 : Int32).toInt = 36 from by decide) (by omega) (by omega) (by omega) (by omega) (by omega) (by decide) (Nat.zero_le _) dX9_copyOf_198 (fun H71 locs71 hC71 hS71 U71 => ?_)
  obtain ⟨U71, C71⟩ := U71
  have hKp71 := Kp.upC gq70 rfl (by decide) rfl U71 hKp68
  refine lv_aload_n hx hb dX9_copyOf_201 rfl (lv_at hl 1 rfl) ?_
  refine q_getR E hC71 g1 fa_RX9_49 dX9_copyOf_202 (fun q72 eq72 gq72 => ?_)
  refine lv_iconst (v := 0) hx hb dX9_copyOf_205 rfl ?_
  refine lv_aload_n hx hb dX9_copyOf_206 rfl (lv_at hl 0 rfl) ?_
  refine q_getR E hC71 g0 fa_RX9_49 dX9_copyOf_207 (fun q73 eq73 gq73 => ?_)
  refine lv_iconst (v := 0) hx hb dX9_copyOf_210 rfl ?_
  refine lv_bipush (v := 36) hx hb dX9_copyOf_211 rfl ?_
  refine q_copyI E hl.1 w_971 arrw hC71 hS71 gq72 gq73 (by decide) rfl rfl rfl rfl (fun _ => rfl) (fun _ => rfl) (a := 0) (b := 0) (d := 36) (show (0 : Int32).toInt = 0 from by decide) (show (0 : Int32).toInt = 0 from by decide) (show (36 : Int32).toInt = 36 from by decide) (by omega) (by omega) (by omega) (by omega) (by omega) (by decide) (Nat.zero_le _) dX9_copyOf_213 (fun H74 locs74 hC74 hS74 U74 => ?_)
  obtain ⟨U74, C74⟩ := U74
  have hKp74 := Kp.upC gq73 rfl (by decide) rfl U74 hKp71
  exact ret H74 locs74 _ _ dX9_copyOf_216 hKp74 hC74 hS74
set_option maxRecDepth 100000 in
set_option maxHeartbeats 4000000 in
theorem m_X11_peaces (l : Launch) (X : xW) (Γ : Nat → Option Nat) (H0 : Heap) (hC0 : Conf X Γ H0) (h0 : Nat) (g0 : Γ h0 = some 0) (p1 : Int32) {a1 : Int} (e1 : p1.toInt = a1) (p2 : Int32) {a2 : Int} (e2 : p2.toInt = a2) : Ctr l X Γ yX11_peaces cX11_peaces 5 (some .boolean) 7 [.ref h0, .int p1, .int p2] H0 (QI X Γ (fun v H1 => Kp X Γ [0, 2, 3, 4, 5, 18, 21, 23, 25, 27] H0 H1 ∧ (v = 0 ∨ v = 1))) := by
  refine q_enterZ (own := "SnowForts") (by decide) rfl (Nat.le_of_ble_eq_true rfl) ?_
  intro p e s m args below meth c ls Qz E hl ret hS0
  have hx := E.1; have hb := E.2.1
  have hKp0 : Kp X Γ [0, 2, 3, 4, 5, 18, 21, 23, 25, 27] H0 H0 := Kp.rf
  have hl : lv_has ls 5 [(0, .ref h0), (1, .int p1), (2, .int p2)] := hl
  refine lv_iload_n hx hb dX11_peaces_0 rfl (lv_at hl 1 rfl) ?_
  refine lv_i2l (v := p1.toInt64) hx hb dX11_peaces_1 rfl (lv_topl (fun v21 ev21 => ?_))
  have ev21i : v21.toInt = a1 := l_ofi ev21.symm e1
  refine lv_iconst (v := 0) hx hb dX11_peaces_2 rfl ?_
  refine lv_sipush (v := 9999) hx hb dX11_peaces_3 rfl ?_
  refine q_goIp (q_runS (As := [.long v21, .int 0, .int 9999]) (rest := []) E hS0 (m_X11_isWithin l X Γ H0 hC0 v21 (a0 := a1) ev21i 0 (a1 := 0) (by decide) 9999 (a2 := 9999) (by decide)) cw_X11_isWithin cl_RX11_113 rfl hl.1 rfl (Nat.zero_le _) (by decide) dX11_peaces_6) hS0 (fun v22 locs22 hr22 hS22 => ?_)
  rcases hr22 with ⟨rfl, f22a0, f22a1⟩ | ⟨rfl, f22b⟩
  · refine q_if_eq hx hb (a := 1) (by decide) (tgt := 34) dX11_peaces_9 rfl (fun c23 => absurd c23 (by omega)) (fun c23 => ?_)
    refine lv_iload_n hx hb dX11_peaces_12 rfl (lv_at hl 2 rfl) ?_
    refine lv_i2l (v := p2.toInt64) hx hb dX11_peaces_13 rfl (lv_topl (fun v24 ev24 => ?_))
    have ev24i : v24.toInt = a2 := l_ofi ev24.symm e2
    refine lv_iconst (v := 1) hx hb dX11_peaces_14 rfl ?_
    refine lv_bipush (v := 20) hx hb dX11_peaces_15 rfl ?_
    refine q_goIp (q_runS (As := [.long v24, .int 1, .int 20]) (rest := []) E hS22 (m_X11_isWithin l X Γ H0 hC0 v24 (a0 := a2) ev24i 1 (a1 := 1) (by decide) 20 (a2 := 20) (by decide)) cw_X11_isWithin cl_RX11_113 rfl hl.1 rfl (Nat.zero_le _) (by decide) dX11_peaces_17) hS22 (fun v25 locs25 hr25 hS25 => ?_)
    rcases hr25 with ⟨rfl, f25a0, f25a1⟩ | ⟨rfl, f25b⟩
    · refine q_if_eq hx hb (a := 1) (by decide) (tgt := 34) dX11_peaces_20 rfl (fun c26 => absurd c26 (by omega)) (fun c26 => ?_)
      refine lv_iload_n hx hb dX11_peaces_23 rfl (lv_at hl 1 rfl) ?_
      refine lv_iload_n hx hb dX11_peaces_24 rfl (lv_at hl 2 rfl) ?_
      refine lv_iadd hx hb dX11_peaces_25 (lv_topi (fun v27 ev27 => ?_))
      have ev27i : v27.toInt = (a1 + a2) := i_add ev27 e1 e2 (by omega) (by omega)
      refine lv_iconst (v := 1) hx hb dX11_peaces_26 rfl ?_
      refine lv_isub hx hb dX11_peaces_27 (lv_topi (fun v28 ev28 => ?_))
      have ev28i : v28.toInt = ((a1 + a2) - 1) := i_sub ev28 ev27i (by decide) (by omega) (by omega)
      refine lv_sipush (v := 9999) hx hb dX11_peaces_28 rfl ?_
      refine q_icmp_le hx hb (a := ((a1 + a2) - 1)) (b := 9999) ev28i (by decide) (tgt := 40) dX11_peaces_31 rfl (fun c29 => ?_) (fun c29 => ?_)
      · refine lv_aload_n hx hb dX11_peaces_40 rfl (lv_at hl 0 rfl) ?_
        refine q_getR E hC0 g0 fa_RX11_52 dX11_peaces_41 (fun q30 eq30 gq30 => ?_)
        refine q_getI E hC0 gq30 fa_RX11_362 dX11_peaces_44 (fun v31 ev31 lv31 uv31 => ?_)
        refine q_if_ne hx hb (a := v31.toInt) rfl (tgt := 57) dX11_peaces_47 rfl (fun c32 => ?_) (fun c32 => ?_)
        · refine lv_aload_n hx hb dX11_peaces_57 rfl (lv_at hl 0 rfl) ?_
          refine q_getR E hC0 g0 fa_RX11_46 dX11_peaces_58 (fun q33 eq33 gq33 => ?_)
          refine lv_aload_n hx hb dX11_peaces_61 rfl (lv_at hl 0 rfl) ?_
          refine q_getR E hC0 g0 fa_RX11_42 dX11_peaces_62 (fun q34 eq34 gq34 => ?_)
          refine q_goV (q_runV (As := [.ref q34]) (rest := []) E hC0 hS25 (m_X9_copyOf l X Γ H0 hC0 q33 gq33 q34 gq34) cw_X9_copyOf cl_RX11_374 gq33 ⟨rfl, rfl⟩ rfl hl.1 rfl (Nat.zero_le _) (by decide) dX11_peaces_65) hS25 (fun H35 locs35 hr35 hC35 hS35 => ?_)
          have hKp35 := hKp0.tr (hr35.mono rfl)
          refine lv_iconst (v := 0) hx hb dX11_peaces_68 rfl ?_
          refine lv_istore_n hx hb dX11_peaces_69 rfl hl (by decide) rfl (fun ls hl => ?_)
          replace hl : lv_has ls 5 [(3, .int 0), (0, .ref h0), (1, .int p1), (2, .int p2)] := hl
          refine lv_iconst (v := 0) hx hb dX11_peaces_70 rfl ?_
          refine lv_istore hx hb dX11_peaces_71 hl (by decide) rfl (fun ls hl => ?_)
          replace hl : lv_has ls 5 [(4, .int 0), (3, .int 0), (0, .ref h0), (1, .int p1), (2, .int p2)] := hl
          have L73 : ∀ (n38 : Nat) (H38 : Heap) (locs38 : List Loc) (v36 : Int32) (z36 : Int) (v37 : Int32) (z37 : Int) (ls : Array Slot), (a2 - z36).toNat < n38 → v36.toInt = z36 → v37.toInt = z37 → 0 ≤ z36 → Conf X Γ H38 → va_S (AΓ Γ) H0 H38 locs38 → Kp X Γ [0, 2, 3, 4, 5, 18, 21, 23, 25, 27] H0 H38 → lv_has ls 5 [(4, .int v36), (3, .int v37), (0, .ref h0), (1, .int p1), (2, .int p2)] → W p l e (rmL 7) s m args below meth c H38 locs38 0 0 Qz (F0 m 73 ls []) := by
            intro n38
            induction n38 with
            | zero => intro H38 locs38 v36 z36 v37 z37 ls hm38 ev36 ev37 iv38_0 hC38 hS38 hKp38 hl; exact absurd hm38 (Nat.not_lt_zero _)
            | succ n38 ih38 =>
              intro H38 locs38 v36 z36 v37 z37 ls hm38 ev36 ev37 iv38_0 hC38 hS38 hKp38 hl
              refine lv_iload hx hb dX11_peaces_73 (lv_at hl 0 rfl) ?_
              refine lv_iload_n hx hb dX11_peaces_75 rfl (lv_at hl 4 rfl) ?_
              refine q_icmp_ge hx hb (a := z36) (b := a2) ev36 e2 (tgt := 134) dX11_peaces_76 rfl (fun c39 => ?_) (fun c39 => ?_)
              · refine lv_aload_n hx hb dX11_peaces_134 rfl (lv_at hl 2 rfl) ?_
                refine q_getR E hC38 g0 fa_RX11_84 dX11_peaces_135 (fun q40 eq40 gq40 => ?_)
                refine lv_iload_n hx hb dX11_peaces_138 rfl (lv_at hl 1 rfl) ?_
                refine lv_i2l (v := v37.toInt64) hx hb dX11_peaces_139 rfl (lv_topl (fun v41 ev41 => ?_))
                have ev41i : v41.toInt = z37 := l_ofi ev41.symm ev37
                refine lv_iload_n hx hb dX11_peaces_140 rfl (lv_at hl 4 rfl) ?_
                refine lv_i2l (v := p2.toInt64) hx hb dX11_peaces_141 rfl (lv_topl (fun v42 ev42 => ?_))
                have ev42i : v42.toInt = a2 := l_ofi ev42.symm e2
                refine q_goV (q_runV (As := [.long v41, .long v42]) (rest := []) E hC38 hS38 (m_X1_tellFraction l X Γ H38 hC38 q40 gq40 v41 (a1 := z37) ev41i v42 (a2 := a2) ev42i) cw_X1_tellFraction cl_RX11_377 gq40 ⟨rfl, rfl⟩ rfl hl.1 rfl (Nat.zero_le _) (by decide) dX11_peaces_142) hS38 (fun H43 locs43 hr43 hC43 hS43 => ?_)
                have hKp43 := hKp38.tr (hr43.mono rfl)
                refine lv_aload_n hx hb dX11_peaces_145 rfl (lv_at hl 2 rfl) ?_
                refine q_goI (q_runV (As := []) (rest := []) E hC43 hS43 (m_X11_grant l X Γ H43 hC43 h0 g0) cw_X11_grant cl_RX11_135 g0 ⟨rfl, rfl⟩ rfl hl.1 rfl (Nat.zero_le _) (by decide) dX11_peaces_146) hS43 (fun v44 H44 locs44 hr44 hC44 hS44 => ?_)
                obtain ⟨hp44, hr44⟩ := hr44
                have hKp44 := hKp43.tr (hp44.mono rfl)
                rcases hr44 with ⟨rfl, -⟩ | ⟨rfl, f44b⟩
                · exact ret 1 H44 locs44 _ _ dX11_peaces_149 (Or.inr rfl) ⟨hKp44, Or.inr rfl⟩ hC44 hS44
                · exact absurd f44b (by decide)
              · refine lv_aload_n hx hb dX11_peaces_79 rfl (lv_at hl 2 rfl) ?_
                refine q_getR E hC38 g0 fa_RX11_99 dX11_peaces_80 (fun q45 eq45 gq45 => ?_)
                refine lv_aload_n hx hb dX11_peaces_83 rfl (lv_at hl 2 rfl) ?_
                refine q_getR E hC38 g0 fa_RX11_52 dX11_peaces_84 (fun q46 eq46 gq46 => ?_)
                refine lv_aload_n hx hb dX11_peaces_87 rfl (lv_at hl 2 rfl) ?_
                refine q_getR E hC38 g0 fa_RX11_42 dX11_peaces_88 (fun q47 eq47 gq47 => ?_)
                refine lv_aload_n hx hb dX11_peaces_91 rfl (lv_at hl 2 rfl) ?_
                refine q_getR E hC38 g0 fa_RX11_70 dX11_peaces_92 (fun q48 eq48 gq48 => ?_)
                refine lv_iload_n hx hb dX11_peaces_95 rfl (lv_at hl 3 rfl) ?_
                refine lv_iload hx hb dX11_peaces_96 (lv_at hl 0 rfl) ?_
                refine lv_iadd hx hb dX11_peaces_98 (lv_topi (fun v49 ev49 => ?_))
                have ev49i : v49.toInt = (a1 + z36) := i_add ev49 e1 ev36 (by omega) (by omega)
                refine q_goV (q_runV (As := [.ref q46, .ref q47, .ref q48, .int v49]) (rest := []) E hC38 hS38 (m_X5_perform l X Γ H38 hC38 q45 gq45 q46 gq46 q47 gq47 q48 gq48 v49 (a4 := (a1 + z36)) ev49i) cw_X5_perform cl_RX11_366 gq45 ⟨rfl, rfl⟩ rfl hl.1 rfl (Nat.zero_le _) (by decide) dX11_peaces_99) hS38 (fun H50 locs50 hr50 hC50 hS50 => ?_)
                have hKp50 := hKp38.tr (hr50.mono rfl)
                refine lv_iload_n hx hb dX11_peaces_102 rfl (lv_at hl 1 rfl) ?_
                refine lv_aload_n hx hb dX11_peaces_103 rfl (lv_at hl 2 rfl) ?_
                refine q_goI (q_runV (As := []) (rest := [.int v37]) E hC50 hS50 (m_X11_isPeace l X Γ H50 hC50 h0 g0) cw_X11_isPeace cl_RX11_298 g0 ⟨rfl, rfl⟩ rfl hl.1 rfl (show _ ≤ _ from by simp [Value.category]) (by decide) dX11_peaces_104) hS50 (fun v51 H51 locs51 hr51 hC51 hS51 => ?_)
                obtain ⟨hp51, hr51⟩ := hr51
                have hKp51 := hKp50.tr (hp51.mono rfl)
                rcases hr51 with rfl | rfl
                · refine q_if_eq hx hb (a := 0) (by decide) (tgt := 114) dX11_peaces_107 rfl (fun c52 => ?_) (fun c52 => absurd c52 (by omega))
                  refine lv_iconst (v := 0) hx hb dX11_peaces_114 rfl ?_
                  refine lv_iadd hx hb dX11_peaces_115 (lv_topi (fun v53 ev53 => ?_))
                  have c54 := i_rng v37; rw [show v37.toInt = z37 from ev37] at c54
                  have ev53i : v53.toInt = (z37 + 0) := i_add ev53 ev37 (by decide) (by omega) (by omega)
                  refine lv_istore_n hx hb dX11_peaces_116 rfl hl (by decide) rfl (fun ls hl => ?_)
                  replace hl : lv_has ls 5 [(3, .int v53), (4, .int v36), (0, .ref h0), (1, .int p1), (2, .int p2)] := hl
                  refine lv_aload_n hx hb dX11_peaces_117 rfl (lv_at hl 2 rfl) ?_
                  refine q_getR E hC51 g0 fa_RX11_42 dX11_peaces_118 (fun q55 eq55 gq55 => ?_)
                  refine lv_aload_n hx hb dX11_peaces_121 rfl (lv_at hl 2 rfl) ?_
                  refine q_getR E hC51 g0 fa_RX11_46 dX11_peaces_122 (fun q56 eq56 gq56 => ?_)
                  refine q_goV (q_runV (As := [.ref q56]) (rest := []) E hC51 hS51 (m_X9_copyOf l X Γ H51 hC51 q55 gq55 q56 gq56) cw_X9_copyOf cl_RX11_374 gq55 ⟨rfl, rfl⟩ rfl hl.1 rfl (Nat.zero_le _) (by decide) dX11_peaces_125) hS51 (fun H57 locs57 hr57 hC57 hS57 => ?_)
                  have hKp57 := hKp51.tr (hr57.mono rfl)
                  obtain ⟨v58, ev58⟩ : ∃ z, z = v36 + Int32.ofInt 1 := ⟨_, rfl⟩
                  have ev58i : v58.toInt = (z36 + 1) := i_add ev58 ev36 (by decide) (by omega) (by omega)
                  refine lv_iinc hx hb dX11_peaces_128 hl (k := 1) rfl ev58.symm (by decide) rfl (fun ls hl => ?_)
                  replace hl : lv_has ls 5 [(4, .int v58), (3, .int v53), (0, .ref h0), (1, .int p1), (2, .int p2)] := hl
                  refine lv_goto (tgt := 73) hx hb dX11_peaces_131 rfl ?_
                  exact ih38 H57 locs57 v58 ((z36 + 1)) v53 ((z37 + 0)) ls (by omega) ev58i ev53i (by omega) hC57 hS57 hKp57 hl
                · refine q_if_eq hx hb (a := 1) (by decide) (tgt := 114) dX11_peaces_107 rfl (fun c59 => absurd c59 (by omega)) (fun c59 => ?_)
                  refine lv_iconst (v := 1) hx hb dX11_peaces_110 rfl ?_
                  refine lv_goto (tgt := 115) hx hb dX11_peaces_111 rfl ?_
                  refine lv_iadd hx hb dX11_peaces_115 (lv_topi (fun v60 ev60 => ?_))
                  refine lv_istore_n hx hb dX11_peaces_116 rfl hl (by decide) rfl (fun ls hl => ?_)
                  replace hl : lv_has ls 5 [(3, .int v60), (4, .int v36), (0, .ref h0), (1, .int p1), (2, .int p2)] := hl
                  refine lv_aload_n hx hb dX11_peaces_117 rfl (lv_at hl 2 rfl) ?_
                  refine q_getR E hC51 g0 fa_RX11_42 dX11_peaces_118 (fun q61 eq61 gq61 => ?_)
                  refine lv_aload_n hx hb dX11_peaces_121 rfl (lv_at hl 2 rfl) ?_
                  refine q_getR E hC51 g0 fa_RX11_46 dX11_peaces_122 (fun q62 eq62 gq62 => ?_)
                  refine q_goV (q_runV (As := [.ref q62]) (rest := []) E hC51 hS51 (m_X9_copyOf l X Γ H51 hC51 q61 gq61 q62 gq62) cw_X9_copyOf cl_RX11_374 gq61 ⟨rfl, rfl⟩ rfl hl.1 rfl (Nat.zero_le _) (by decide) dX11_peaces_125) hS51 (fun H63 locs63 hr63 hC63 hS63 => ?_)
                  have hKp63 := hKp51.tr (hr63.mono rfl)
                  obtain ⟨v64, ev64⟩ : ∃ z, z = v36 + Int32.ofInt 1 := ⟨_, rfl⟩
                  have ev64i : v64.toInt = (z36 + 1) := i_add ev64 ev36 (by decide) (by omega) (by omega)
                  refine lv_iinc hx hb dX11_peaces_128 hl (k := 1) rfl ev64.symm (by decide) rfl (fun ls hl => ?_)
                  replace hl : lv_has ls 5 [(4, .int v64), (3, .int v60), (0, .ref h0), (1, .int p1), (2, .int p2)] := hl
                  refine lv_goto (tgt := 73) hx hb dX11_peaces_131 rfl ?_
                  exact ih38 H63 locs63 v64 ((z36 + 1)) v60 (v60.toInt) ls (by omega) ev64i rfl (by omega) hC63 hS63 hKp63 hl
          exact L73 _ H35 locs35 0 0 0 0 ls (Nat.lt_succ_self _) (by decide) (by decide) (by omega) hC35 hS35 hKp35 hl
        · refine lv_aload_n hx hb dX11_peaces_50 rfl (lv_at hl 0 rfl) ?_
          refine lv_bipush (v := 8) hx hb dX11_peaces_51 rfl ?_
          refine q_goI (q_runV (As := [.int 8]) (rest := []) E hC0 hS25 (m_X11_deny l X Γ H0 hC0 h0 g0 8 (a1 := 8) (by decide)) cw_X11_deny cl_RX11_128 g0 ⟨rfl, rfl⟩ rfl hl.1 rfl (Nat.zero_le _) (by decide) dX11_peaces_53) hS25 (fun v65 H65 locs65 hr65 hC65 hS65 => ?_)
          obtain ⟨hp65, hr65⟩ := hr65
          have hKp65 := hKp0.tr (hp65.mono rfl)
          rcases hr65 with ⟨rfl, f65a⟩ | ⟨rfl, -⟩
          · exact absurd f65a (by decide)
          · exact ret 0 H65 locs65 _ _ dX11_peaces_56 (Or.inl rfl) ⟨hKp65, Or.inl rfl⟩ hC65 hS65
      · refine lv_aload_n hx hb dX11_peaces_34 rfl (lv_at hl 0 rfl) ?_
        refine lv_iconst (v := 5) hx hb dX11_peaces_35 rfl ?_
        refine q_goI (q_runV (As := [.int 5]) (rest := []) E hC0 hS25 (m_X11_deny l X Γ H0 hC0 h0 g0 5 (a1 := 5) (by decide)) cw_X11_deny cl_RX11_128 g0 ⟨rfl, rfl⟩ rfl hl.1 rfl (Nat.zero_le _) (by decide) dX11_peaces_36) hS25 (fun v66 H66 locs66 hr66 hC66 hS66 => ?_)
        obtain ⟨hp66, hr66⟩ := hr66
        have hKp66 := hKp0.tr (hp66.mono rfl)
        rcases hr66 with ⟨rfl, f66a⟩ | ⟨rfl, -⟩
        · exact absurd f66a (by decide)
        · exact ret 0 H66 locs66 _ _ dX11_peaces_39 (Or.inl rfl) ⟨hKp66, Or.inl rfl⟩ hC66 hS66
    · refine q_if_eq hx hb (a := 0) (by decide) (tgt := 34) dX11_peaces_20 rfl (fun c67 => ?_) (fun c67 => absurd c67 (by omega))
      refine lv_aload_n hx hb dX11_peaces_34 rfl (lv_at hl 0 rfl) ?_
      refine lv_iconst (v := 5) hx hb dX11_peaces_35 rfl ?_
      refine q_goI (q_runV (As := [.int 5]) (rest := []) E hC0 hS25 (m_X11_deny l X Γ H0 hC0 h0 g0 5 (a1 := 5) (by decide)) cw_X11_deny cl_RX11_128 g0 ⟨rfl, rfl⟩ rfl hl.1 rfl (Nat.zero_le _) (by decide) dX11_peaces_36) hS25 (fun v68 H68 locs68 hr68 hC68 hS68 => ?_)
      obtain ⟨hp68, hr68⟩ := hr68
      have hKp68 := hKp0.tr (hp68.mono rfl)
      rcases hr68 with ⟨rfl, f68a⟩ | ⟨rfl, -⟩
      · exact absurd f68a (by decide)
      · exact ret 0 H68 locs68 _ _ dX11_peaces_39 (Or.inl rfl) ⟨hKp68, Or.inl rfl⟩ hC68 hS68
  · refine q_if_eq hx hb (a := 0) (by decide) (tgt := 34) dX11_peaces_9 rfl (fun c69 => ?_) (fun c69 => absurd c69 (by omega))
    refine lv_aload_n hx hb dX11_peaces_34 rfl (lv_at hl 0 rfl) ?_
    refine lv_iconst (v := 5) hx hb dX11_peaces_35 rfl ?_
    refine q_goI (q_runV (As := [.int 5]) (rest := []) E hC0 hS22 (m_X11_deny l X Γ H0 hC0 h0 g0 5 (a1 := 5) (by decide)) cw_X11_deny cl_RX11_128 g0 ⟨rfl, rfl⟩ rfl hl.1 rfl (Nat.zero_le _) (by decide) dX11_peaces_36) hS22 (fun v70 H70 locs70 hr70 hC70 hS70 => ?_)
    obtain ⟨hp70, hr70⟩ := hr70
    have hKp70 := hKp0.tr (hp70.mono rfl)
    rcases hr70 with ⟨rfl, f70a⟩ | ⟨rfl, -⟩
    · exact absurd f70a (by decide)
    · exact ret 0 H70 locs70 _ _ dX11_peaces_39 (Or.inl rfl) ⟨hKp70, Or.inl rfl⟩ hC70 hS70
set_option maxRecDepth 100000 in
set_option maxHeartbeats 4000000 in
theorem m_X2_copyOf (l : Launch) (X : xW) (Γ : Nat → Option Nat) (H0 : Heap) (hC0 : Conf X Γ H0) (h0 : Nat) (g0 : Γ h0 = some 6) (h1 : Nat) (g1 : Γ h1 = some 6) : Ctr l X Γ yX2_copyOf cX2_copyOf 2 none 1 [.ref h0, .ref h1] H0 (QV X Γ (fun H1 => Kp X Γ [0, 2, 3, 4, 5, 18, 21, 23, 25, 27] H0 H1)) := by
  refine q_enterV (own := "SnowForts$Orders") (by decide) rfl (Nat.le_of_ble_eq_true rfl) ?_
  intro p e s m args below meth c ls Qz E hl ret hS0
  have hx := E.1; have hb := E.2.1
  have hKp0 : Kp X Γ [0, 2, 3, 4, 5, 18, 21, 23, 25, 27] H0 H0 := Kp.rf
  have hl : lv_has ls 2 [(0, .ref h0), (1, .ref h1)] := hl
  refine lv_aload_n hx hb dX2_copyOf_0 rfl (lv_at hl 0 rfl) ?_
  refine lv_aload_n hx hb dX2_copyOf_1 rfl (lv_at hl 1 rfl) ?_
  refine q_getI E hC0 g1 fa_RX2_28 dX2_copyOf_2 (fun v21 ev21 lv21 uv21 => ?_)
  refine q_put E hC0 hS0 g0 fp_RX2_28 (tv_I rfl (by omega) (by omega)) (z_of (z01 rfl (by omega) (by omega))) (fit_B (z01 rfl (by omega) (by omega))) dX2_copyOf_5 (fun H22 locs22 hC22 hS22 U22 => ?_)
  have hKp22 := Kp.upO E g0 fp_RX2_28 rfl U22 hKp0
  have e23 := up_I U22
  refine lv_aload_n hx hb dX2_copyOf_8 rfl (lv_at hl 0 rfl) ?_
  refine lv_aload_n hx hb dX2_copyOf_9 rfl (lv_at hl 1 rfl) ?_
  refine q_getI E hC22 g1 fa_RX2_32 dX2_copyOf_10 (fun v24 ev24 _ _ => ?_)
  refine q_put E hC22 hS22 g0 fp_RX2_32 tv_F rfl rfl dX2_copyOf_13 (fun H25 locs25 hC25 hS25 U25 => ?_)
  have hKp25 := Kp.upO E g0 fp_RX2_32 rfl U25 hKp22
  have e26 := up_I U25
  refine lv_aload_n hx hb dX2_copyOf_16 rfl (lv_at hl 0 rfl) ?_
  refine lv_aload_n hx hb dX2_copyOf_17 rfl (lv_at hl 1 rfl) ?_
  refine q_getI E hC25 g1 fa_RX2_36 dX2_copyOf_18 (fun v27 ev27 _ _ => ?_)
  refine q_put E hC25 hS25 g0 fp_RX2_36 tv_F rfl rfl dX2_copyOf_21 (fun H28 locs28 hC28 hS28 U28 => ?_)
  have hKp28 := Kp.upO E g0 fp_RX2_36 rfl U28 hKp25
  have e29 := up_I U28
  refine lv_aload_n hx hb dX2_copyOf_24 rfl (lv_at hl 1 rfl) ?_
  refine q_getR E hC28 g1 fa_RX2_9 dX2_copyOf_25 (fun q30 eq30 gq30 => ?_)
  refine lv_iconst (v := 0) hx hb dX2_copyOf_28 rfl ?_
  refine lv_aload_n hx hb dX2_copyOf_29 rfl (lv_at hl 0 rfl) ?_
  refine q_getR E hC28 g0 fa_RX2_9 dX2_copyOf_30 (fun q31 eq31 gq31 => ?_)
  refine lv_iconst (v := 0) hx hb dX2_copyOf_33 rfl ?_
  refine lv_bipush (v := 60) hx hb dX2_copyOf_34 rfl ?_
  refine q_copyI E hl.1 w_1293 arrw hC28 hS28 gq30 gq31 (by decide) rfl rfl rfl rfl (fun _ => rfl) (fun _ => rfl) (a := 0) (b := 0) (d := 60) (show (0 : Int32).toInt = 0 from by decide) (show (0 : Int32).toInt = 0 from by decide) (show (60 : Int32).toInt = 60 from by decide) (by omega) (by omega) (by omega) (by omega) (by omega) (by decide) (Nat.zero_le _) dX2_copyOf_36 (fun H32 locs32 hC32 hS32 U32 => ?_)
  obtain ⟨U32, C32⟩ := U32
  have hKp32 := Kp.upC gq31 rfl (by decide) rfl U32 hKp28
  refine lv_aload_n hx hb dX2_copyOf_39 rfl (lv_at hl 1 rfl) ?_
  refine q_getR E hC32 g1 fa_RX2_13 dX2_copyOf_40 (fun q33 eq33 gq33 => ?_)
  refine lv_iconst (v := 0) hx hb dX2_copyOf_43 rfl ?_
  refine lv_aload_n hx hb dX2_copyOf_44 rfl (lv_at hl 0 rfl) ?_
  refine q_getR E hC32 g0 fa_RX2_13 dX2_copyOf_45 (fun q34 eq34 gq34 => ?_)
  refine lv_iconst (v := 0) hx hb dX2_copyOf_48 rfl ?_
  refine lv_bipush (v := 60) hx hb dX2_copyOf_49 rfl ?_
  refine q_copyI E hl.1 w_1293 arrw hC32 hS32 gq33 gq34 (by decide) rfl rfl rfl rfl (fun _ => rfl) (fun _ => rfl) (a := 0) (b := 0) (d := 60) (show (0 : Int32).toInt = 0 from by decide) (show (0 : Int32).toInt = 0 from by decide) (show (60 : Int32).toInt = 60 from by decide) (by omega) (by omega) (by omega) (by omega) (by omega) (by decide) (Nat.zero_le _) dX2_copyOf_51 (fun H35 locs35 hC35 hS35 U35 => ?_)
  obtain ⟨U35, C35⟩ := U35
  have hKp35 := Kp.upC gq34 rfl (by decide) rfl U35 hKp32
  refine lv_aload_n hx hb dX2_copyOf_54 rfl (lv_at hl 1 rfl) ?_
  refine q_getR E hC35 g1 fa_RX2_16 dX2_copyOf_55 (fun q36 eq36 gq36 => ?_)
  refine lv_iconst (v := 0) hx hb dX2_copyOf_58 rfl ?_
  refine lv_aload_n hx hb dX2_copyOf_59 rfl (lv_at hl 0 rfl) ?_
  refine q_getR E hC35 g0 fa_RX2_16 dX2_copyOf_60 (fun q37 eq37 gq37 => ?_)
  refine lv_iconst (v := 0) hx hb dX2_copyOf_63 rfl ?_
  refine lv_bipush (v := 60) hx hb dX2_copyOf_64 rfl ?_
  refine q_copyI E hl.1 w_1293 arrw hC35 hS35 gq36 gq37 (by decide) rfl rfl rfl rfl (fun _ => rfl) (fun _ => rfl) (a := 0) (b := 0) (d := 60) (show (0 : Int32).toInt = 0 from by decide) (show (0 : Int32).toInt = 0 from by decide) (show (60 : Int32).toInt = 60 from by decide) (by omega) (by omega) (by omega) (by omega) (by omega) (by decide) (Nat.zero_le _) dX2_copyOf_66 (fun H38 locs38 hC38 hS38 U38 => ?_)
  obtain ⟨U38, C38⟩ := U38
  have hKp38 := Kp.upC gq37 rfl (by decide) rfl U38 hKp35
  refine lv_aload_n hx hb dX2_copyOf_69 rfl (lv_at hl 1 rfl) ?_
  refine q_getR E hC38 g1 fa_RX2_19 dX2_copyOf_70 (fun q39 eq39 gq39 => ?_)
  refine lv_iconst (v := 0) hx hb dX2_copyOf_73 rfl ?_
  refine lv_aload_n hx hb dX2_copyOf_74 rfl (lv_at hl 0 rfl) ?_
  refine q_getR E hC38 g0 fa_RX2_19 dX2_copyOf_75 (fun q40 eq40 gq40 => ?_)
  refine lv_iconst (v := 0) hx hb dX2_copyOf_78 rfl ?_
  refine lv_bipush (v := 60) hx hb dX2_copyOf_79 rfl ?_
  refine q_copyI E hl.1 w_1293 arrw hC38 hS38 gq39 gq40 (by decide) rfl rfl rfl rfl (fun _ => rfl) (fun _ => rfl) (a := 0) (b := 0) (d := 60) (show (0 : Int32).toInt = 0 from by decide) (show (0 : Int32).toInt = 0 from by decide) (show (60 : Int32).toInt = 60 from by decide) (by omega) (by omega) (by omega) (by omega) (by omega) (by decide) (Nat.zero_le _) dX2_copyOf_81 (fun H41 locs41 hC41 hS41 U41 => ?_)
  obtain ⟨U41, C41⟩ := U41
  have hKp41 := Kp.upC gq40 rfl (by decide) rfl U41 hKp38
  refine lv_aload_n hx hb dX2_copyOf_84 rfl (lv_at hl 1 rfl) ?_
  refine q_getR E hC41 g1 fa_RX2_22 dX2_copyOf_85 (fun q42 eq42 gq42 => ?_)
  refine lv_iconst (v := 0) hx hb dX2_copyOf_88 rfl ?_
  refine lv_aload_n hx hb dX2_copyOf_89 rfl (lv_at hl 0 rfl) ?_
  refine q_getR E hC41 g0 fa_RX2_22 dX2_copyOf_90 (fun q43 eq43 gq43 => ?_)
  refine lv_iconst (v := 0) hx hb dX2_copyOf_93 rfl ?_
  refine lv_bipush (v := 60) hx hb dX2_copyOf_94 rfl ?_
  refine q_copyI E hl.1 w_1293 arrw hC41 hS41 gq42 gq43 (by decide) rfl rfl rfl rfl (fun _ => rfl) (fun _ => rfl) (a := 0) (b := 0) (d := 60) (show (0 : Int32).toInt = 0 from by decide) (show (0 : Int32).toInt = 0 from by decide) (show (60 : Int32).toInt = 60 from by decide) (by omega) (by omega) (by omega) (by omega) (by omega) (by decide) (Nat.zero_le _) dX2_copyOf_96 (fun H44 locs44 hC44 hS44 U44 => ?_)
  obtain ⟨U44, C44⟩ := U44
  have hKp44 := Kp.upC gq43 rfl (by decide) rfl U44 hKp41
  refine lv_aload_n hx hb dX2_copyOf_99 rfl (lv_at hl 1 rfl) ?_
  refine q_getR E hC44 g1 fa_RX2_25 dX2_copyOf_100 (fun q45 eq45 gq45 => ?_)
  refine lv_iconst (v := 0) hx hb dX2_copyOf_103 rfl ?_
  refine lv_aload_n hx hb dX2_copyOf_104 rfl (lv_at hl 0 rfl) ?_
  refine q_getR E hC44 g0 fa_RX2_25 dX2_copyOf_105 (fun q46 eq46 gq46 => ?_)
  refine lv_iconst (v := 0) hx hb dX2_copyOf_108 rfl ?_
  refine lv_bipush (v := 60) hx hb dX2_copyOf_109 rfl ?_
  refine q_copyI E hl.1 w_1293 arrw hC44 hS44 gq45 gq46 (by decide) rfl rfl rfl rfl (fun _ => rfl) (fun _ => rfl) (a := 0) (b := 0) (d := 60) (show (0 : Int32).toInt = 0 from by decide) (show (0 : Int32).toInt = 0 from by decide) (show (60 : Int32).toInt = 60 from by decide) (by omega) (by omega) (by omega) (by omega) (by omega) (by decide) (Nat.zero_le _) dX2_copyOf_111 (fun H47 locs47 hC47 hS47 U47 => ?_)
  obtain ⟨U47, C47⟩ := U47
  have hKp47 := Kp.upC gq46 rfl (by decide) rfl U47 hKp44
  exact ret H47 locs47 _ _ dX2_copyOf_114 hKp47 hC47 hS47
set_option maxRecDepth 100000 in
set_option maxHeartbeats 4000000 in
theorem m_X11_mark (l : Launch) (X : xW) (Γ : Nat → Option Nat) (H0 : Heap) (hC0 : Conf X Γ H0) (h0 : Nat) (g0 : Γ h0 = some 0) : Ctr l X Γ yX11_mark cX11_mark 1 (some .int) 2 [.ref h0] H0 (QI X Γ (fun v H1 => Kp X Γ [0, 2, 3, 5, 18, 21, 23, 25, 27] H0 H1 ∧ (((3 ≤ (sI H0 h0 (X.1.2 10 11)).toInt ∧ v.toInt = -1 ∧ (sI H1 h0 (X.1.2 10 11)).toInt = (sI H0 h0 (X.1.2 10 11)).toInt) ∨ ((sI H0 h0 (X.1.2 10 11)).toInt ≤ 2 ∧ v.toInt = (sI H0 h0 (X.1.2 10 11)).toInt + 1 ∧ (sI H1 h0 (X.1.2 10 11)).toInt = (sI H0 h0 (X.1.2 10 11)).toInt + 1))))) := by
  refine q_enterI (own := "SnowForts") (by decide) rfl (Nat.le_of_ble_eq_true rfl) ?_
  intro p e s m args below meth c ls Qz E hl ret hS0
  have hx := E.1; have hb := E.2.1
  have hKp0 : Kp X Γ [0, 2, 3, 5, 18, 21, 23, 25, 27] H0 H0 := Kp.rf
  have hl : lv_has ls 1 [(0, .ref h0)] := hl
  have hz1 := f_bd hC0 g0 (ci := 10) (k := 11) rfl rfl
  refine lv_aload_n hx hb dX11_mark_0 rfl (lv_at hl 0 rfl) ?_
  refine q_getI E hC0 g0 fa_RX11_381 dX11_mark_1 (fun v21 ev21 lv21 uv21 => ?_)
  have m22 : (sI H0 h0 (X.1.2 10 11)).toInt = v21.toInt := (congrArg Int32.toInt ev21).trans rfl
  refine lv_i2l (v := v21.toInt64) hx hb dX11_mark_4 rfl (lv_topl (fun v23 ev23 => ?_))
  have ev23i : v23.toInt = v21.toInt := l_ofi ev23.symm rfl
  refine lv_iconst (v := 0) hx hb dX11_mark_5 rfl ?_
  refine lv_iconst (v := 2) hx hb dX11_mark_6 rfl ?_
  refine q_goIp (q_runS (As := [.long v23, .int 0, .int 2]) (rest := []) E hS0 (m_X11_isWithin l X Γ H0 hC0 v23 (a0 := v21.toInt) ev23i 0 (a1 := 0) (by decide) 2 (a2 := 2) (by decide)) cw_X11_isWithin cl_RX11_113 rfl hl.1 rfl (Nat.zero_le _) (by decide) dX11_mark_7) hS0 (fun v24 locs24 hr24 hS24 => ?_)
  rcases hr24 with ⟨rfl, f24a0, f24a1⟩ | ⟨rfl, f24b⟩
  · refine q_if_ne hx hb (a := 1) (by decide) (tgt := 20) dX11_mark_10 rfl (fun c25 => ?_) (fun c25 => absurd c25 (by omega))
    refine lv_aload_n hx hb dX11_mark_20 rfl (lv_at hl 0 rfl) ?_
    refine q_getR E hC0 g0 fa_RX11_59 dX11_mark_21 (fun q26 eq26 gq26 => ?_)
    refine lv_aload_n hx hb dX11_mark_24 rfl (lv_at hl 0 rfl) ?_
    refine q_getI E hC0 g0 fa_RX11_381 dX11_mark_25 (fun v27 ev27 lv27 uv27 => ?_)
    have qv27 := ev21.symm.trans ev27; subst qv27
    refine q_aald E hC0 gq26 rfl rfl (fun _ => rfl) (C := "SnowForts$Yard") rfl (i_in (a := v21.toInt) rfl (by omega) (by omega)) dX11_mark_28 (fun q28 eq28 gq28 => ?_)
    refine lv_aload_n hx hb dX11_mark_29 rfl (lv_at hl 0 rfl) ?_
    refine q_getR E hC0 g0 fa_RX11_42 dX11_mark_30 (fun q29 eq29 gq29 => ?_)
    refine q_goV (q_runV (As := [.ref q29]) (rest := []) E hC0 hS24 (m_X9_copyOf l X Γ H0 hC0 q28 gq28 q29 gq29) cw_X9_copyOf cl_RX11_374 gq28 ⟨rfl, rfl⟩ rfl hl.1 rfl (Nat.zero_le _) (by decide) dX11_mark_33) hS24 (fun H30 locs30 hr30 hC30 hS30 => ?_)
    have hKp30 := hKp0.tr (hr30.mono rfl)
    have m31 : (sI H30 h0 (X.1.2 10 11)).toInt = (sI H0 h0 (X.1.2 10 11)).toInt := congrArg Int32.toInt (kp_I hr30 g0 (k := 11) rfl (by decide) rfl)
    refine lv_aload_n hx hb dX11_mark_36 rfl (lv_at hl 0 rfl) ?_
    refine q_getR E hC30 g0 fa_RX11_63 dX11_mark_37 (fun q32 eq32 gq32 => ?_)
    refine lv_aload_n hx hb dX11_mark_40 rfl (lv_at hl 0 rfl) ?_
    have e34 := (kp_I hr30 g0 (k := 11) rfl (by decide) rfl).trans ev21
    refine q_getI E hC30 g0 fa_RX11_381 dX11_mark_41 (fun v33 ev33 lv33 uv33 => ?_)
    have qv33 := e34.symm.trans ev33; subst qv33
    have m35 : (sI H30 h0 (X.1.2 10 11)).toInt = v21.toInt := (congrArg Int32.toInt ev33).trans rfl
    refine q_aald E hC30 gq32 rfl rfl (fun _ => rfl) (C := "SnowForts$Orders") rfl (i_in (a := v21.toInt) rfl (by omega) (by omega)) dX11_mark_44 (fun q36 eq36 gq36 => ?_)
    refine lv_aload_n hx hb dX11_mark_45 rfl (lv_at hl 0 rfl) ?_
    refine q_getR E hC30 g0 fa_RX11_52 dX11_mark_46 (fun q37 eq37 gq37 => ?_)
    refine q_goV (q_runV (As := [.ref q37]) (rest := []) E hC30 hS30 (m_X2_copyOf l X Γ H30 hC30 q36 gq36 q37 gq37) cw_X2_copyOf cl_RX11_384 gq36 ⟨rfl, rfl⟩ rfl hl.1 rfl (Nat.zero_le _) (by decide) dX11_mark_49) hS30 (fun H38 locs38 hr38 hC38 hS38 => ?_)
    have hKp38 := hKp30.tr (hr38.mono rfl)
    have m39 : (sI H38 h0 (X.1.2 10 11)).toInt = (sI H30 h0 (X.1.2 10 11)).toInt := congrArg Int32.toInt (kp_I hr38 g0 (k := 11) rfl (by decide) rfl)
    refine lv_aload_n hx hb dX11_mark_52 rfl (lv_at hl 0 rfl) ?_
    refine lv_dup hx hb dX11_mark_53 rfl ?_
    have e41 := (kp_I hr38 g0 (k := 11) rfl (by decide) rfl).trans e34
    refine q_getI E hC38 g0 fa_RX11_381 dX11_mark_54 (fun v40 ev40 lv40 uv40 => ?_)
    have qv40 := e41.symm.trans ev40; subst qv40
    have m42 : (sI H38 h0 (X.1.2 10 11)).toInt = v21.toInt := (congrArg Int32.toInt ev40).trans rfl
    refine lv_iconst (v := 1) hx hb dX11_mark_57 rfl ?_
    refine lv_iadd hx hb dX11_mark_58 (lv_topi (fun v43 ev43 => ?_))
    have ev43i : v43.toInt = (v21.toInt + 1) := i_add ev43 rfl (by decide) (by omega) (by omega)
    refine q_put E hC38 hS38 g0 fp_RX11_381 (tv_I ev43i (by omega) (by omega)) rfl rfl dX11_mark_59 (fun H44 locs44 hC44 hS44 U44 => ?_)
    have hKp44 := Kp.upO E g0 fp_RX11_381 rfl U44 hKp38
    have e45 := up_I U44
    have m46 : (sI H44 h0 (X.1.2 10 11)).toInt = (v21.toInt + 1) := (congrArg Int32.toInt e45).trans ev43i
    refine lv_aload_n hx hb dX11_mark_62 rfl (lv_at hl 0 rfl) ?_
    refine lv_aload_n hx hb dX11_mark_63 rfl (lv_at hl 0 rfl) ?_
    refine q_getI E hC44 g0 fa_RX11_381 dX11_mark_64 (fun v47 ev47 lv47 uv47 => ?_)
    have qv47 := e45.symm.trans ev47; subst qv47
    refine q_goI (q_runV (As := [.int v43]) (rest := []) E hC44 hS44 (m_X11_answer l X Γ H44 hC44 h0 g0 v43 (a1 := (v21.toInt + 1)) ev43i) cw_X11_answer cl_RX11_191 g0 ⟨rfl, rfl⟩ rfl hl.1 rfl (Nat.zero_le _) (by decide) dX11_mark_67) hS44 (fun v48 H48 locs48 hr48 hC48 hS48 => ?_)
    obtain ⟨hp48, hr48⟩ := hr48
    have hKp48 := hKp44.tr (hp48.mono rfl)
    have m49 : (sI H48 h0 (X.1.2 10 11)).toInt = (sI H44 h0 (X.1.2 10 11)).toInt := congrArg Int32.toInt (kp_I hp48 g0 (k := 11) rfl (by decide) rfl)
    have f48_0 := hr48
    have e50 := (kp_I hp48 g0 (k := 11) rfl (by decide) rfl).trans e45
    have m51 : (sI H48 h0 (X.1.2 10 11)).toInt = (v21.toInt + 1) := (congrArg Int32.toInt e50).trans ev43i
    have c52 : v48.toInt = v48.toInt := rfl
    exact ret v48 H48 locs48 _ _ dX11_mark_70 ⟨hKp48, by omega⟩ hC48 hS48
  · refine q_if_ne hx hb (a := 0) (by decide) (tgt := 20) dX11_mark_10 rfl (fun c53 => absurd c53 (by omega)) (fun c53 => ?_)
    refine lv_aload_n hx hb dX11_mark_13 rfl (lv_at hl 0 rfl) ?_
    refine lv_bipush (v := 7) hx hb dX11_mark_14 rfl ?_
    refine q_goI (q_runV (As := [.int 7]) (rest := []) E hC0 hS24 (m_X11_refuse l X Γ H0 hC0 h0 g0 7 (a1 := 7) (by decide)) cw_X11_refuse cl_RX11_146 g0 ⟨rfl, rfl⟩ rfl hl.1 rfl (Nat.zero_le _) (by decide) dX11_mark_16) hS24 (fun v54 H54 locs54 hr54 hC54 hS54 => ?_)
    obtain ⟨hp54, hr54⟩ := hr54
    have hKp54 := hKp0.tr (hp54.mono rfl)
    have m55 : (sI H54 h0 (X.1.2 10 11)).toInt = (sI H0 h0 (X.1.2 10 11)).toInt := congrArg Int32.toInt (kp_I hp54 g0 (k := 11) rfl (by decide) rfl)
    have f54_0 := hr54
    have e56 := (kp_I hp54 g0 (k := 11) rfl (by decide) rfl).trans ev21
    have m57 : (sI H54 h0 (X.1.2 10 11)).toInt = v21.toInt := (congrArg Int32.toInt e56).trans rfl
    have c58 : v54.toInt = v54.toInt := rfl
    exact ret v54 H54 locs54 _ _ dX11_mark_19 ⟨hKp54, by omega⟩ hC54 hS54
