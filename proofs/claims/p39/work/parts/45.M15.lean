set_option maxRecDepth 100000 in
set_option maxHeartbeats 4000000 in
theorem m_X12_worked (l : Launch) (X : xW) (Γ : Nat → Option Nat) (H0 : Heap) (hC0 : Conf X Γ H0) (h0 : Nat) (g0 : Γ h0 = some 11) (p1 : Int32) {a1 : Int} (e1 : p1.toInt = a1) (ca : Nat) (gca : Γ ca = some 64) (uc : ∀ a, Γ a = some 64 → a = ca) (wk : Nat) (hwk : sR H0 h0 (X.1.2 11 29) = some wk) (gwk : Γ wk = some 70) : Ctr l X Γ yX12_worked cX12_worked 2 (some .int) 1 [.ref h0, .int p1] H0 (QI X Γ (fun v H1 => Kp X Γ [1, 6, 7, 8, 9, 10, 11, 12, 14, 15, 16, 17, 19, 22, 24, 26, 28] H0 H1 ∧ ((((a1 < 0 ∨ 2 < a1 ∨ (sI H0 h0 (X.1.2 11 30)).toInt = 0) ∧ v.toInt = -1) ∨ (0 ≤ a1 ∧ a1 ≤ 2 ∧ (sI H0 h0 (X.1.2 11 30)).toInt ≠ 0 ∧ v.toInt = (sI H0 wk (a1 : Int).toNat).toInt))))) := by
  refine q_enterI (own := "SnowFortsModel") (by decide) rfl (Nat.le_of_ble_eq_true rfl) ?_
  intro p e s m args below meth c ls Qz E hl ret hS0
  have hx := E.1; have hb := E.2.1
  have hKp0 : Kp X Γ [1, 6, 7, 8, 9, 10, 11, 12, 14, 15, 16, 17, 19, 22, 24, 26, 28] H0 H0 := Kp.rf
  have hl : lv_has ls 2 [(0, .ref h0), (1, .int p1)] := hl
  have mmk : MmK X H0 H0 h0 wk := MmK.rf
  refine lv_aload_n hx hb dX12_worked_0 rfl (lv_at hl 0 rfl) ?_
  refine lv_iconst (v := 0) hx hb dX12_worked_1 rfl ?_
  refine q_put E hC0 hS0 g0 fp_RX12_69 tv_F rfl rfl dX12_worked_2 (fun H21 locs21 hC21 hS21 U21 => ?_)
  have hKp21 := Kp.upO E g0 fp_RX12_69 rfl U21 hKp0
  have e22 := up_I U21
  replace mmk : MmK X H0 H21 h0 wk := MmK.ne mmk U21 (ne_f E 11 30 1 rfl (by decide) (by decide) (by decide)) (nek g0 gwk (by decide))
  have m23 : (sI H21 h0 (X.1.2 11 30)).toInt = (sI H0 h0 (X.1.2 11 30)).toInt := congrArg Int32.toInt (up_nI U21 (ne_f E 11 30 1 rfl (by decide) (by decide) (by decide)))
  refine lv_aload_n hx hb dX12_worked_5 rfl (lv_at hl 0 rfl) ?_
  refine lv_iconst (v := 0) hx hb dX12_worked_6 rfl ?_
  refine q_put E hC21 hS21 g0 fp_RX12_72 tv_F rfl rfl dX12_worked_7 (fun H24 locs24 hC24 hS24 U24 => ?_)
  have hKp24 := Kp.upO E g0 fp_RX12_72 rfl U24 hKp21
  have e25 := up_I U24
  replace mmk : MmK X H0 H24 h0 wk := MmK.ne mmk U24 (ne_f E 11 30 0 rfl (by decide) (by decide) (by decide)) (nek g0 gwk (by decide))
  have m26 : (sI H24 h0 (X.1.2 11 30)).toInt = (sI H21 h0 (X.1.2 11 30)).toInt := congrArg Int32.toInt (up_nI U24 (ne_f E 11 30 0 rfl (by decide) (by decide) (by decide)))
  have hq0 := congrArg Int32.toInt mmk.1
  have hq1 := congrArg Int32.toInt (mmk.2 (a1 : Int).toNat)
  refine lv_iload_n hx hb dX12_worked_10 rfl (lv_at hl 1 rfl) ?_
  refine lv_i2l (v := p1.toInt64) hx hb dX12_worked_11 rfl (lv_topl (fun v27 ev27 => ?_))
  have ev27i : v27.toInt = a1 := l_ofi ev27.symm e1
  refine lv_lconst (v := 0) hx hb dX12_worked_12 rfl ?_
  refine lv_ldc2 (v := 2) hx hb E.2.2.2.1 (E.2.2.2.2.1 _ w_1897) dX12_worked_13 ?_
  refine q_goIp (q_runS (As := [.long v27, .long 0, .long 2]) (rest := []) E hS24 (m_X12_isIn l X Γ H24 hC24 v27 (a0 := a1) ev27i 0 (a1 := 0) (show (0 : Int64).toInt = 0 from by decide) 2 (a2 := 2) (show (2 : Int64).toInt = 2 from by decide)) cw_X12_isIn cl_RX12_104 rfl hl.1 rfl (Nat.zero_le _) (by decide) dX12_worked_16) hS24 (fun v28 locs28 hr28 hS28 => ?_)
  rcases hr28 with ⟨rfl, f28a0, f28a1⟩ | ⟨rfl, f28b⟩
  · refine q_if_ne hx hb (a := 1) (by decide) (tgt := 28) dX12_worked_19 rfl (fun c29 => ?_) (fun c29 => absurd c29 (by omega))
    refine lv_aload_n hx hb dX12_worked_28 rfl (lv_at hl 0 rfl) ?_
    refine q_getI E hC24 g0 fa_RX12_410 dX12_worked_29 (fun v30 ev30 lv30 uv30 => ?_)
    have m31 : (sI H24 h0 (X.1.2 11 30)).toInt = v30.toInt := (congrArg Int32.toInt ev30).trans rfl
    refine q_if_eq hx hb (a := v30.toInt) rfl (tgt := 44) dX12_worked_32 rfl (fun c32 => ?_) (fun c32 => ?_)
    · refine lv_aload_n hx hb dX12_worked_44 rfl (lv_at hl 0 rfl) ?_
      refine lv_bipush (v := 8) hx hb dX12_worked_45 rfl ?_
      refine q_goI (q_runV (As := [.int 8]) (rest := []) E hC24 hS28 (m_X12_refuse l X Γ H24 hC24 h0 g0 8 (a1 := 8) (by decide) ca gca uc) cw_X12_refuse cl_RX12_298 g0 ⟨rfl, rfl⟩ rfl hl.1 rfl (Nat.zero_le _) (by decide) dX12_worked_47) hS28 (fun v33 H33 locs33 hr33 hC33 hS33 => ?_)
      obtain ⟨hp33, hr33⟩ := hr33
      have hKp33 := hKp24.tr (hp33.mono rfl)
      have m34 : (sI H33 h0 (X.1.2 11 30)).toInt = (sI H24 h0 (X.1.2 11 30)).toInt := congrArg Int32.toInt (kp_I hp33 g0 (k := 30) rfl (by decide) rfl)
      have f33_0 := hr33
      have e35 := (kp_I hp33 g0 (k := 30) rfl (by decide) rfl).trans ev30
      have m36 : (sI H33 h0 (X.1.2 11 30)).toInt = v30.toInt := (congrArg Int32.toInt e35).trans rfl
      have c37 : v33.toInt = v33.toInt := rfl
      exact ret v33 H33 locs33 _ _ dX12_worked_50 ⟨hKp33, by omega⟩ hC33 hS33
    · refine lv_aload_n hx hb dX12_worked_35 rfl (lv_at hl 0 rfl) ?_
      refine q_getS E hC24 g0 fa_RX12_53 ((kp_R hKp24 g0 (ci := 11) (k := 29) rfl (by decide) rfl).trans hwk) dX12_worked_36 (fun _ => ?_)
      refine lv_iload_n hx hb dX12_worked_39 rfl (lv_at hl 1 rfl) ?_
      refine q_iald E hC24 gwk rfl rfl (fun _ h => h) (i_in (a := a1) e1 (by omega) (by omega)) dX12_worked_40 (fun v38 ev38 _ _ => ?_)
      have hq2 : (sI H24 wk (a1 : Int).toNat).toInt = v38.toInt := by rw [← i_ix e1]; exact congrArg Int32.toInt ev38
      refine lv_goto (tgt := 50) hx hb dX12_worked_41 rfl ?_
      have c39 : v38.toInt = v38.toInt := rfl
      exact ret v38 H24 locs28 _ _ dX12_worked_50 ⟨hKp24, by omega⟩ hC24 hS28
  · refine q_if_ne hx hb (a := 0) (by decide) (tgt := 28) dX12_worked_19 rfl (fun c40 => absurd c40 (by omega)) (fun c40 => ?_)
    refine lv_aload_n hx hb dX12_worked_22 rfl (lv_at hl 0 rfl) ?_
    refine lv_iconst (v := 5) hx hb dX12_worked_23 rfl ?_
    refine q_goI (q_runV (As := [.int 5]) (rest := []) E hC24 hS28 (m_X12_refuse l X Γ H24 hC24 h0 g0 5 (a1 := 5) (by decide) ca gca uc) cw_X12_refuse cl_RX12_298 g0 ⟨rfl, rfl⟩ rfl hl.1 rfl (Nat.zero_le _) (by decide) dX12_worked_24) hS28 (fun v41 H41 locs41 hr41 hC41 hS41 => ?_)
    obtain ⟨hp41, hr41⟩ := hr41
    have hKp41 := hKp24.tr (hp41.mono rfl)
    replace mmk : MmK X H0 H41 h0 wk := MmK.kp mmk hp41 g0 gwk rfl
    have m42 : (sI H41 h0 (X.1.2 11 30)).toInt = (sI H24 h0 (X.1.2 11 30)).toInt := congrArg Int32.toInt (kp_I hp41 g0 (k := 30) rfl (by decide) rfl)
    have f41_0 := hr41
    have c43 : v41.toInt = v41.toInt := rfl
    exact ret v41 H41 locs41 _ _ dX12_worked_27 ⟨hKp41, by omega⟩ hC41 hS41
set_option maxRecDepth 100000 in
set_option maxHeartbeats 4000000 in
theorem m_X12_isGame (l : Launch) (X : xW) (Γ : Nat → Option Nat) (H0 : Heap) (hC0 : Conf X Γ H0) (h0 : Nat) (g0 : Γ h0 = some 11) (p1 : Int32) {a1 : Int} (e1 : p1.toInt = a1) (p2 : Int32) {a2 : Int} (e2 : p2.toInt = a2) (p3 : Int32) {a3 : Int} (e3 : p3.toInt = a3) (p4 : Int32) {a4 : Int} (e4 : p4.toInt = a4) (ca : Nat) (gca : Γ ca = some 64) (uc : ∀ a, Γ a = some 64 → a = ca) : Ctr l X Γ yX12_isGame cX12_isGame 5 (some .boolean) 1 [.ref h0, .int p1, .int p2, .int p3, .int p4] H0 (QI X Γ (fun v H1 => H1 = H0 ∧ ((v = 1 ∧ (0 ≤ a1 ∧ a1 ≤ 12 ∧ 0 ≤ a2 ∧ a2 ≤ 12 ∧ 1 ≤ a3 ∧ a3 ≤ 4 ∧ 0 ≤ a4 ∧ a4 ≤ 4)) ∨ (v = 0 ∧ (a1 < 0 ∨ 12 < a1 ∨ a2 < 0 ∨ 12 < a2 ∨ a3 < 1 ∨ 4 < a3 ∨ a4 < 0 ∨ 4 < a4))))) := by
  refine q_enterZ (own := "SnowFortsModel") (by decide) rfl (Nat.le_of_ble_eq_true rfl) ?_
  intro p e s m args below meth c ls Qz E hl ret hS0
  have hx := E.1; have hb := E.2.1
  have hl : lv_has ls 5 [(0, .ref h0), (1, .int p1), (2, .int p2), (3, .int p3), (4, .int p4)] := hl
  refine lv_iload_n hx hb dX12_isGame_0 rfl (lv_at hl 1 rfl) ?_
  refine lv_i2l (v := p1.toInt64) hx hb dX12_isGame_1 rfl (lv_topl (fun v21 ev21 => ?_))
  have ev21i : v21.toInt = a1 := l_ofi ev21.symm e1
  refine lv_lconst (v := 0) hx hb dX12_isGame_2 rfl ?_
  refine lv_ldc2 (v := 12) hx hb E.2.2.2.1 (E.2.2.2.2.1 _ w_1898) dX12_isGame_3 ?_
  refine q_goIp (q_runS (As := [.long v21, .long 0, .long 12]) (rest := []) E hS0 (m_X12_isIn l X Γ H0 hC0 v21 (a0 := a1) ev21i 0 (a1 := 0) (show (0 : Int64).toInt = 0 from by decide) 12 (a2 := 12) (show (12 : Int64).toInt = 12 from by decide)) cw_X12_isIn cl_RX12_104 rfl hl.1 rfl (Nat.zero_le _) (by decide) dX12_isGame_6) hS0 (fun v22 locs22 hr22 hS22 => ?_)
  rcases hr22 with ⟨rfl, f22a0, f22a1⟩ | ⟨rfl, f22b⟩
  · refine q_if_eq hx hb (a := 1) (by decide) (tgt := 53) dX12_isGame_9 rfl (fun c23 => absurd c23 (by omega)) (fun c23 => ?_)
    refine lv_iload_n hx hb dX12_isGame_12 rfl (lv_at hl 2 rfl) ?_
    refine lv_i2l (v := p2.toInt64) hx hb dX12_isGame_13 rfl (lv_topl (fun v24 ev24 => ?_))
    have ev24i : v24.toInt = a2 := l_ofi ev24.symm e2
    refine lv_lconst (v := 0) hx hb dX12_isGame_14 rfl ?_
    refine lv_ldc2 (v := 12) hx hb E.2.2.2.1 (E.2.2.2.2.1 _ w_1898) dX12_isGame_15 ?_
    refine q_goIp (q_runS (As := [.long v24, .long 0, .long 12]) (rest := []) E hS22 (m_X12_isIn l X Γ H0 hC0 v24 (a0 := a2) ev24i 0 (a1 := 0) (show (0 : Int64).toInt = 0 from by decide) 12 (a2 := 12) (show (12 : Int64).toInt = 12 from by decide)) cw_X12_isIn cl_RX12_104 rfl hl.1 rfl (Nat.zero_le _) (by decide) dX12_isGame_18) hS22 (fun v25 locs25 hr25 hS25 => ?_)
    rcases hr25 with ⟨rfl, f25a0, f25a1⟩ | ⟨rfl, f25b⟩
    · refine q_if_eq hx hb (a := 1) (by decide) (tgt := 53) dX12_isGame_21 rfl (fun c26 => absurd c26 (by omega)) (fun c26 => ?_)
      refine lv_iload_n hx hb dX12_isGame_24 rfl (lv_at hl 3 rfl) ?_
      refine lv_i2l (v := p3.toInt64) hx hb dX12_isGame_25 rfl (lv_topl (fun v27 ev27 => ?_))
      have ev27i : v27.toInt = a3 := l_ofi ev27.symm e3
      refine lv_lconst (v := 1) hx hb dX12_isGame_26 rfl ?_
      refine lv_ldc2 (v := 4) hx hb E.2.2.2.1 (E.2.2.2.2.1 _ w_1721) dX12_isGame_27 ?_
      refine q_goIp (q_runS (As := [.long v27, .long 1, .long 4]) (rest := []) E hS25 (m_X12_isIn l X Γ H0 hC0 v27 (a0 := a3) ev27i 1 (a1 := 1) (show (1 : Int64).toInt = 1 from by decide) 4 (a2 := 4) (show (4 : Int64).toInt = 4 from by decide)) cw_X12_isIn cl_RX12_104 rfl hl.1 rfl (Nat.zero_le _) (by decide) dX12_isGame_30) hS25 (fun v28 locs28 hr28 hS28 => ?_)
      rcases hr28 with ⟨rfl, f28a0, f28a1⟩ | ⟨rfl, f28b⟩
      · refine q_if_eq hx hb (a := 1) (by decide) (tgt := 53) dX12_isGame_33 rfl (fun c29 => absurd c29 (by omega)) (fun c29 => ?_)
        refine lv_iload hx hb dX12_isGame_36 (lv_at hl 4 rfl) ?_
        refine lv_i2l (v := p4.toInt64) hx hb dX12_isGame_38 rfl (lv_topl (fun v30 ev30 => ?_))
        have ev30i : v30.toInt = a4 := l_ofi ev30.symm e4
        refine lv_lconst (v := 0) hx hb dX12_isGame_39 rfl ?_
        refine lv_ldc2 (v := 4) hx hb E.2.2.2.1 (E.2.2.2.2.1 _ w_1721) dX12_isGame_40 ?_
        refine q_goIp (q_runS (As := [.long v30, .long 0, .long 4]) (rest := []) E hS28 (m_X12_isIn l X Γ H0 hC0 v30 (a0 := a4) ev30i 0 (a1 := 0) (show (0 : Int64).toInt = 0 from by decide) 4 (a2 := 4) (show (4 : Int64).toInt = 4 from by decide)) cw_X12_isIn cl_RX12_104 rfl hl.1 rfl (Nat.zero_le _) (by decide) dX12_isGame_43) hS28 (fun v31 locs31 hr31 hS31 => ?_)
        rcases hr31 with ⟨rfl, f31a0, f31a1⟩ | ⟨rfl, f31b⟩
        · refine q_if_eq hx hb (a := 1) (by decide) (tgt := 53) dX12_isGame_46 rfl (fun c32 => absurd c32 (by omega)) (fun c32 => ?_)
          refine lv_iconst (v := 1) hx hb dX12_isGame_49 rfl ?_
          refine lv_goto (tgt := 54) hx hb dX12_isGame_50 rfl ?_
          exact ret 1 H0 locs31 _ _ dX12_isGame_54 (Or.inr rfl) ⟨rfl, Or.inl ⟨rfl, by omega, by omega, by omega, by omega, by omega, by omega, by omega, by omega⟩⟩ hC0 hS31
        · refine q_if_eq hx hb (a := 0) (by decide) (tgt := 53) dX12_isGame_46 rfl (fun c33 => ?_) (fun c33 => absurd c33 (by omega))
          refine lv_iconst (v := 0) hx hb dX12_isGame_53 rfl ?_
          exact ret 0 H0 locs31 _ _ dX12_isGame_54 (Or.inl rfl) ⟨rfl, Or.inr ⟨rfl, by omega⟩⟩ hC0 hS31
      · refine q_if_eq hx hb (a := 0) (by decide) (tgt := 53) dX12_isGame_33 rfl (fun c34 => ?_) (fun c34 => absurd c34 (by omega))
        refine lv_iconst (v := 0) hx hb dX12_isGame_53 rfl ?_
        exact ret 0 H0 locs28 _ _ dX12_isGame_54 (Or.inl rfl) ⟨rfl, Or.inr ⟨rfl, by omega⟩⟩ hC0 hS28
    · refine q_if_eq hx hb (a := 0) (by decide) (tgt := 53) dX12_isGame_21 rfl (fun c35 => ?_) (fun c35 => absurd c35 (by omega))
      refine lv_iconst (v := 0) hx hb dX12_isGame_53 rfl ?_
      exact ret 0 H0 locs25 _ _ dX12_isGame_54 (Or.inl rfl) ⟨rfl, Or.inr ⟨rfl, by omega⟩⟩ hC0 hS25
  · refine q_if_eq hx hb (a := 0) (by decide) (tgt := 53) dX12_isGame_9 rfl (fun c36 => ?_) (fun c36 => absurd c36 (by omega))
    refine lv_iconst (v := 0) hx hb dX12_isGame_53 rfl ?_
    exact ret 0 H0 locs22 _ _ dX12_isGame_54 (Or.inl rfl) ⟨rfl, Or.inr ⟨rfl, by omega⟩⟩ hC0 hS22
set_option maxRecDepth 100000 in
set_option maxHeartbeats 4000000 in
theorem m_X12_mostRaise (l : Launch) (X : xW) (Γ : Nat → Option Nat) (H0 : Heap) (hC0 : Conf X Γ H0) (p0 : Int32) {a0 : Int} (e0 : p0.toInt = a0) (p1 : Int32) {a1 : Int} (e1 : p1.toInt = a1) (p2 : Int32) {a2 : Int} (e2 : p2.toInt = a2) (p3 : Int32) {a3 : Int} (e3 : p3.toInt = a3) (r0 : 0 ≤ a0) (r1 : a0 ≤ 12) (r2 : 0 ≤ a1) (r3 : a1 ≤ 12) (r4 : 1 ≤ a2) (r5 : a2 ≤ 4) (r6 : 0 ≤ a3) (r7 : a3 ≤ 4) : Ctr l X Γ yX12_mostRaise cX12_mostRaise 4 (some .int) 1 [.int p0, .int p1, .int p2, .int p3] H0 (QI X Γ (fun v H1 => H1 = H0 ∧ ((v.toInt ≤ 12 - a0) ∧ (v.toInt ≤ a2) ∧ (v.toInt ≤ a1 + a3 - a0) ∧ (v.toInt = a2 ∨ v.toInt = 12 - a0 ∨ v.toInt = a1 + a3 - a0)))) := by
  refine q_enterI (own := "SnowFortsModel") (by decide) rfl (Nat.le_of_ble_eq_true rfl) ?_
  intro p e s m args below meth c ls Qz E hl ret hS0
  have hx := E.1; have hb := E.2.1
  have hl : lv_has ls 4 [(0, .int p0), (1, .int p1), (2, .int p2), (3, .int p3)] := hl
  refine lv_iload_n hx hb dX12_mostRaise_0 rfl (lv_at hl 2 rfl) ?_
  refine lv_bipush (v := 12) hx hb dX12_mostRaise_1 rfl ?_
  refine lv_iload_n hx hb dX12_mostRaise_3 rfl (lv_at hl 1 rfl) ?_
  refine lv_iload_n hx hb dX12_mostRaise_4 rfl (lv_at hl 3 rfl) ?_
  refine lv_iadd hx hb dX12_mostRaise_5 (lv_topi (fun v21 ev21 => ?_))
  have ev21i : v21.toInt = (a1 + a3) := i_add ev21 e1 e3 (by omega) (by omega)
  refine q_mmin E hl.1 w_1740 mathw_min (a := 12) (b := (a1 + a3)) (show (12 : Int32).toInt = 12 from by decide) ev21i (by decide) (show _ ≤ _ from by simp [Value.category]) dX12_mostRaise_6 (fun v22 mv22a mv22b mv22c => ?_)
  refine lv_iload_n hx hb dX12_mostRaise_9 rfl (lv_at hl 0 rfl) ?_
  refine lv_isub hx hb dX12_mostRaise_10 (lv_topi (fun v23 ev23 => ?_))
  have ev23i : v23.toInt = (v22.toInt - a0) := i_sub ev23 rfl e0 (by omega) (by omega)
  refine q_mmin E hl.1 w_1740 mathw_min (a := a2) (b := (v22.toInt - a0)) e2 ev23i (by decide) (Nat.zero_le _) dX12_mostRaise_11 (fun v24 mv24a mv24b mv24c => ?_)
  have c25 : v24.toInt = v24.toInt := rfl
  exact ret v24 H0 [] _ _ dX12_mostRaise_14 ⟨rfl, ⟨by omega, by omega, by omega, by omega⟩⟩ hC0 hS0
set_option maxRecDepth 100000 in
set_option maxHeartbeats 4000000 in
theorem m_X12_wins (l : Launch) (X : xW) (Γ : Nat → Option Nat) (H0 : Heap) (hC0 : Conf X Γ H0) (h0 : Nat) (g0 : Γ h0 = some 11) (p1 : Int32) {a1 : Int} (e1 : p1.toInt = a1) (p2 : Int32) {a2 : Int} (e2 : p2.toInt = a2) (p3 : Int32) {a3 : Int} (e3 : p3.toInt = a3) (p4 : Int32) {a4 : Int} (e4 : p4.toInt = a4) (ca : Nat) (gca : Γ ca = some 64) (uc : ∀ a, Γ a = some 64 → a = ca) : Ctr l X Γ yX12_wins cX12_wins 10 (some .int) 2 [.ref h0, .int p1, .int p2, .int p3, .int p4] H0 (QI X Γ (fun v H1 => Kp X Γ [1, 6, 7, 8, 9, 10, 11, 12, 14, 15, 16, 17, 19, 22, 24, 26, 28] H0 H1 ∧ ((((∃ T, FXI T a3 a4 (a1 + a2 - 1) 0 ∧ LST T a1 a2 (rT a1 a2 a3 a4) v.toInt) ∧ 0 ≤ a1 ∧ a1 ≤ 12 ∧ 0 ≤ a2 ∧ a2 ≤ 12 ∧ 1 ≤ a3 ∧ a3 ≤ 4 ∧ 0 ≤ a4 ∧ a4 ≤ 4) ∨ (v.toInt = -1 ∧ (a1 < 0 ∨ 12 < a1 ∨ a2 < 0 ∨ 12 < a2 ∨ a3 < 1 ∨ 4 < a3 ∨ a4 < 0 ∨ 4 < a4)))))) := by
  refine q_enterI (own := "SnowFortsModel") (by decide) rfl (Nat.le_of_ble_eq_true rfl) ?_
  intro p e s m args below meth c ls Qz E hl ret hS0
  have hx := E.1; have hb := E.2.1
  have hKp0 : Kp X Γ [1, 6, 7, 8, 9, 10, 11, 12, 14, 15, 16, 17, 19, 22, 24, 26, 28] H0 H0 := Kp.rf
  have hl : lv_has ls 10 [(0, .ref h0), (1, .int p1), (2, .int p2), (3, .int p3), (4, .int p4)] := hl
  obtain ⟨wb, hwb, gwb⟩ := f_ref hC0 g0 (ci := 11) (kf := 31) rfl rfl
  refine lv_aload_n hx hb dX12_wins_0 rfl (lv_at hl 0 rfl) ?_
  refine lv_iconst (v := 0) hx hb dX12_wins_1 rfl ?_
  refine q_put E hC0 hS0 g0 fp_RX12_69 tv_F rfl rfl dX12_wins_2 (fun H21 locs21 hC21 hS21 U21 => ?_)
  have hKp21 := Kp.upO E g0 fp_RX12_69 rfl U21 hKp0
  have e22 := up_I U21
  refine lv_aload_n hx hb dX12_wins_5 rfl (lv_at hl 0 rfl) ?_
  refine lv_iconst (v := 0) hx hb dX12_wins_6 rfl ?_
  refine q_put E hC21 hS21 g0 fp_RX12_72 tv_F rfl rfl dX12_wins_7 (fun H23 locs23 hC23 hS23 U23 => ?_)
  have hKp23 := Kp.upO E g0 fp_RX12_72 rfl U23 hKp21
  have e24 := up_I U23
  refine lv_aload_n hx hb dX12_wins_10 rfl (lv_at hl 0 rfl) ?_
  refine lv_iload_n hx hb dX12_wins_11 rfl (lv_at hl 1 rfl) ?_
  refine lv_iload_n hx hb dX12_wins_12 rfl (lv_at hl 2 rfl) ?_
  refine lv_iload_n hx hb dX12_wins_13 rfl (lv_at hl 3 rfl) ?_
  refine lv_iload hx hb dX12_wins_14 (lv_at hl 4 rfl) ?_
  refine q_goIp (q_runV (As := [.int p1, .int p2, .int p3, .int p4]) (rest := []) E hC23 hS23 (m_X12_isGame l X Γ H23 hC23 h0 g0 p1 (a1 := a1) e1 p2 (a2 := a2) e2 p3 (a3 := a3) e3 p4 (a4 := a4) e4 ca gca uc) cw_X12_isGame cl_RX12_414 g0 ⟨rfl, rfl⟩ rfl hl.1 rfl (Nat.zero_le _) (by decide) dX12_wins_16) hS23 (fun v25 locs25 hr25 hS25 => ?_)
  rcases hr25 with ⟨rfl, f25a0, f25a1, f25a2, f25a3, f25a4, f25a5, f25a6, f25a7⟩ | ⟨rfl, f25b⟩
  · refine q_if_ne hx hb (a := 1) (by decide) (tgt := 28) dX12_wins_19 rfl (fun c26 => ?_) (fun c26 => absurd c26 (by omega))
    refine lv_bipush (v := 24) hx hb dX12_wins_28 rfl ?_
    refine lv_istore hx hb dX12_wins_30 hl (by decide) rfl (fun ls hl => ?_)
    replace hl : lv_has ls 10 [(5, .int 24), (0, .ref h0), (1, .int p1), (2, .int p2), (3, .int p3), (4, .int p4)] := hl
    have L32 : ∀ (n28 : Nat) (H28 : Heap) (locs28 : List Loc) (v27 : Int32) (z27 : Int) (ls : Array Slot), (z27 + 1).toNat < n28 → v27.toInt = z27 → z27 ≤ 24 → -1 ≤ z27 → a1 + a2 - 1 ≤ z27 → FXI (TB H28 wb) a3 a4 z27 0 → Conf X Γ H28 → va_S (AΓ Γ) H0 H28 locs28 → Kp X Γ [1, 6, 7, 8, 9, 10, 11, 12, 14, 15, 16, 17, 19, 22, 24, 26, 28] H0 H28 → lv_has ls 10 [(5, .int v27), (0, .ref h0), (1, .int p1), (2, .int p2), (3, .int p3), (4, .int p4)] → W p l e (rmL 2) s m args below meth c H28 locs28 0 0 Qz (F0 m 32 ls []) := by
      intro n28
      induction n28 with
      | zero => intro H28 locs28 v27 z27 ls hm28 ev27 iv28_0 iv28_1 iv28_2 iv28_3 hC28 hS28 hKp28 hl; exact absurd hm28 (Nat.not_lt_zero _)
      | succ n28 ih28 =>
        intro H28 locs28 v27 z27 ls hm28 ev27 iv28_0 iv28_1 iv28_2 iv28_3 hC28 hS28 hKp28 hl
        have hfx := iv28_3
        refine lv_iload hx hb dX12_wins_32 (lv_at hl 0 rfl) ?_
        refine lv_iload_n hx hb dX12_wins_34 rfl (lv_at hl 2 rfl) ?_
        refine lv_iload_n hx hb dX12_wins_35 rfl (lv_at hl 3 rfl) ?_
        refine lv_iadd hx hb dX12_wins_36 (lv_topi (fun v29 ev29 => ?_))
        have ev29i : v29.toInt = (a1 + a2) := i_add ev29 e1 e2 (by omega) (by omega)
        refine q_icmp_lt hx hb (a := z27) (b := (a1 + a2)) ev27 ev29i (tgt := 155) dX12_wins_37 rfl (fun c30 => ?_) (fun c30 => ?_)
        · have hfe : FXI (TB H28 wb) a3 a4 (a1 + a2 - 1) 0 := by rw [show a1 + a2 - 1 = z27 from by omega]; exact hfx
          refine lv_iconst (v := 1) hx hb dX12_wins_155 rfl ?_
          refine lv_istore hx hb dX12_wins_156 hl (by decide) rfl (fun ls hl => ?_)
          replace hl : lv_has ls 10 [(5, .int 1), (0, .ref h0), (1, .int p1), (2, .int p2), (3, .int p3), (4, .int p4)] := hl
          have L158 : ∀ (n32 : Nat) (locs32 : List Loc) (v31 : Int32) (z31 : Int) (ls : Array Slot), (5 - z31).toNat < n32 → v31.toInt = z31 → 1 ≤ z31 → 1 ≤ z31 → z31 ≤ 5 → (∀ r : Int, 1 ≤ r → r < z31 → TB H28 wb a2 (a1 + r)) → va_S (AΓ Γ) H0 H28 locs32 → lv_has ls 10 [(5, .int v31), (0, .ref h0), (1, .int p1), (2, .int p2), (3, .int p3), (4, .int p4)] → W p l e (rmL 2) s m args below meth c H28 locs32 0 0 Qz (F0 m 158 ls []) := by
            intro n32
            induction n32 with
            | zero => intro locs32 v31 z31 ls hm32 ev31 iv32_0 iv32_1 iv32_2 iv32_3 hS32 hl; exact absurd hm32 (Nat.not_lt_zero _)
            | succ n32 ih32 =>
              intro locs32 v31 z31 ls hm32 ev31 iv32_0 iv32_1 iv32_2 iv32_3 hS32 hl
              have hlo := iv32_3
              refine lv_iload hx hb dX12_wins_158 (lv_at hl 0 rfl) ?_
              refine lv_iload_n hx hb dX12_wins_160 rfl (lv_at hl 2 rfl) ?_
              refine lv_iload_n hx hb dX12_wins_161 rfl (lv_at hl 3 rfl) ?_
              refine lv_iload_n hx hb dX12_wins_162 rfl (lv_at hl 4 rfl) ?_
              refine lv_iload hx hb dX12_wins_163 (lv_at hl 5 rfl) ?_
              refine q_goIp (q_runS (As := [.int p1, .int p2, .int p3, .int p4]) (rest := [.int v31]) E hS32 (m_X12_mostRaise l X Γ H28 hC28 p1 (a0 := a1) e1 p2 (a1 := a2) e2 p3 (a2 := a3) e3 p4 (a3 := a4) e4 (by omega) (by omega) (by omega) (by omega) (by omega) (by omega) (by omega) (by omega)) cw_X12_mostRaise cl_RX12_418 rfl hl.1 rfl (show _ ≤ _ from by simp [Value.category]) (by decide) dX12_wins_165) hS32 (fun v33 locs33 hr33 hS33 => ?_)
              obtain ⟨f33_0, f33_1, f33_2, f33_3⟩ := hr33
              have hr5 : a1 + v33.toInt = rT a1 a2 a3 a4 := by unfold rT; (repeat' split) <;> omega
              refine q_icmp_gt hx hb (a := z31) (b := v33.toInt) ev31 rfl (tgt := 197) dX12_wins_168 rfl (fun c34 => ?_) (fun c34 => ?_)
              · refine lv_iconst (v := 0) hx hb dX12_wins_197 rfl ?_
                have hpost : ((∃ T, FXI T a3 a4 (a1 + a2 - 1) 0 ∧ LST T a1 a2 (rT a1 a2 a3 a4) (0 : Int32).toInt) ∧ 0 ≤ a1 ∧ a1 ≤ 12 ∧ 0 ≤ a2 ∧ a2 ≤ 12 ∧ 1 ≤ a3 ∧ a3 ≤ 4 ∧ 0 ≤ a4 ∧ a4 ≤ 4) ∨ ((0 : Int32).toInt = -1 ∧ (a1 < 0 ∨ 12 < a1 ∨ a2 < 0 ∨ 12 < a2 ∨ a3 < 1 ∨ 4 < a3 ∨ a4 < 0 ∨ 4 < a4)) := Or.inl ⟨⟨_, hfe, by rw [show (0 : Int32).toInt = 0 from by decide]; exact LST_nil (n := z31) hlo (by omega)⟩, by omega, by omega, by omega, by omega, by omega, by omega, by omega, by omega⟩
                have c35 : (0 : Int32).toInt = 0 := (by decide)
                exact ret 0 H28 locs33 _ _ dX12_wins_198 ⟨hKp28, hpost⟩ hC28 hS33
              · refine lv_aload_n hx hb dX12_wins_171 rfl (lv_at hl 1 rfl) ?_
                refine q_getS E hC28 g0 fa_RX12_56 ((kp_R hKp28 g0 (ci := 11) (k := 31) rfl (by decide) rfl).trans hwb) dX12_wins_172 (fun _ => ?_)
                refine lv_bipush (v := 13) hx hb dX12_wins_175 rfl ?_
                refine lv_iload_n hx hb dX12_wins_177 rfl (lv_at hl 3 rfl) ?_
                refine lv_imul hx hb dX12_wins_178 (lv_topi (fun v36 ev36 => ?_))
                have ev36i : v36.toInt = (13 * a2) := i_mul ev36 (by decide) e2 (by omega) (by omega)
                refine lv_iload_n hx hb dX12_wins_179 rfl (lv_at hl 2 rfl) ?_
                refine lv_iadd hx hb dX12_wins_180 (lv_topi (fun v37 ev37 => ?_))
                have ev37i : v37.toInt = ((13 * a2) + a1) := i_add ev37 ev36i e1 (by omega) (by omega)
                refine lv_iload hx hb dX12_wins_181 (lv_at hl 0 rfl) ?_
                refine lv_iadd hx hb dX12_wins_183 (lv_topi (fun v38 ev38 => ?_))
                have ev38i : v38.toInt = (((13 * a2) + a1) + z31) := i_add ev38 ev37i ev31 (by omega) (by omega)
                refine q_zald E hC28 gwb rfl rfl (fun _ h => h) (i_in (a := (((13 * a2) + a1) + z31)) ev38i (by omega) (by omega)) dX12_wins_184 (fun v39 ev39 _ _ => ?_)
                have hb5 : (sI H28 wb (13 * a2 + (a1 + z31)).toNat).toInt = v39.toInt := by rw [show (13 * a2 + (a1 + z31)).toNat = ((((13 * a2) + a1) + z31) : Int).toNat from by omega, ← i_ix ev38i]; exact congrArg Int32.toInt ev39
                refine q_if_ne hx hb (a := v39.toInt) rfl (tgt := 191) dX12_wins_185 rfl (fun c40 => ?_) (fun c40 => ?_)
                · have hln : ∀ r : Int, 1 ≤ r → r < z31 + 1 → TB H28 wb a2 (a1 + r) := fun r r1 r2 => by by_cases e : r = z31; (rw [e]; show (sI H28 wb (13 * a2 + (a1 + z31)).toNat).toInt ≠ 0; omega); exact hlo r r1 (by omega)
                  obtain ⟨v41, ev41⟩ : ∃ z, z = v31 + Int32.ofInt 1 := ⟨_, rfl⟩
                  have ev41i : v41.toInt = (z31 + 1) := i_add ev41 ev31 (by decide) (by omega) (by omega)
                  refine lv_iinc hx hb dX12_wins_191 hl (k := 0) rfl ev41.symm (by decide) rfl (fun ls hl => ?_)
                  replace hl : lv_has ls 10 [(5, .int v41), (0, .ref h0), (1, .int p1), (2, .int p2), (3, .int p3), (4, .int p4)] := hl
                  refine lv_goto (tgt := 158) hx hb dX12_wins_194 rfl ?_
                  exact ih32 locs33 v41 ((z31 + 1)) ls (by omega) ev41i (by omega) (by omega) (by omega) (hln) hS33 hl
                · refine lv_iload hx hb dX12_wins_188 (lv_at hl 0 rfl) ?_
                  have hpost : ((∃ T, FXI T a3 a4 (a1 + a2 - 1) 0 ∧ LST T a1 a2 (rT a1 a2 a3 a4) (v31 : Int32).toInt) ∧ 0 ≤ a1 ∧ a1 ≤ 12 ∧ 0 ≤ a2 ∧ a2 ≤ 12 ∧ 1 ≤ a3 ∧ a3 ≤ 4 ∧ 0 ≤ a4 ∧ a4 ≤ 4) ∨ ((v31 : Int32).toInt = -1 ∧ (a1 < 0 ∨ 12 < a1 ∨ a2 < 0 ∨ 12 < a2 ∨ a3 < 1 ∨ 4 < a3 ∨ a4 < 0 ∨ 4 < a4)) := Or.inl ⟨⟨_, hfe, by rw [show (v31 : Int32).toInt = z31 from ev31]; exact Or.inl ⟨by omega, by omega, fun q => q (by show (sI H28 wb (13 * a2 + (a1 + z31)).toNat).toInt = 0; omega), hlo⟩⟩, by omega, by omega, by omega, by omega, by omega, by omega, by omega, by omega⟩
                  have c42 : v31.toInt = z31 := ev31
                  exact ret v31 H28 locs33 _ _ dX12_wins_190 ⟨hKp28, hpost⟩ hC28 hS33
          exact L158 _ locs28 1 1 ls (Nat.lt_succ_self _) (by decide) (by omega) (by omega) (by omega) (fun r r1 r2 => by omega) hS28 hl
        · refine lv_iconst (v := 0) hx hb dX12_wins_40 rfl ?_
          refine lv_iload hx hb dX12_wins_41 (lv_at hl 0 rfl) ?_
          refine lv_bipush (v := 12) hx hb dX12_wins_43 rfl ?_
          refine lv_isub hx hb dX12_wins_45 (lv_topi (fun v43 ev43 => ?_))
          have ev43i : v43.toInt = (z27 - 12) := i_sub ev43 ev27 (by decide) (by omega) (by omega)
          refine q_mmax E hl.1 w_1731 mathw_max (a := 0) (b := (z27 - 12)) (show (0 : Int32).toInt = 0 from by decide) ev43i (by decide) (Nat.zero_le _) dX12_wins_46 (fun v44 mv44a mv44b mv44c => ?_)
          refine lv_istore hx hb dX12_wins_49 hl (by decide) rfl (fun ls hl => ?_)
          replace hl : lv_has ls 10 [(6, .int v44), (5, .int v27), (0, .ref h0), (1, .int p1), (2, .int p2), (3, .int p3), (4, .int p4)] := hl
          have L51 : ∀ (n46 : Nat) (H46 : Heap) (locs46 : List Loc) (v45 : Int32) (z45 : Int) (ls : Array Slot), (13 - z45).toNat < n46 → v45.toInt = z45 → 0 ≤ z45 → 0 ≤ z45 → z27 - 12 ≤ z45 → z45 ≤ 13 → z45 ≤ z27 + 1 → FXI (TB H46 wb) a3 a4 z27 z45 → Conf X Γ H46 → va_S (AΓ Γ) H0 H46 locs46 → Kp X Γ [1, 6, 7, 8, 9, 10, 11, 12, 14, 15, 16, 17, 19, 22, 24, 26, 28] H0 H46 → lv_has ls 10 [(6, .int v45), (5, .int v27), (0, .ref h0), (1, .int p1), (2, .int p2), (3, .int p3), (4, .int p4)] → W p l e (rmL 2) s m args below meth c H46 locs46 0 0 Qz (F0 m 51 ls []) := by
            intro n46
            induction n46 with
            | zero => intro H46 locs46 v45 z45 ls hm46 ev45 iv46_0 iv46_1 iv46_2 iv46_3 iv46_4 iv46_5 hC46 hS46 hKp46 hl; exact absurd hm46 (Nat.not_lt_zero _)
            | succ n46 ih46 =>
              intro H46 locs46 v45 z45 ls hm46 ev45 iv46_0 iv46_1 iv46_2 iv46_3 iv46_4 iv46_5 hC46 hS46 hKp46 hl
              have hfi := iv46_5
              refine lv_iload hx hb dX12_wins_51 (lv_at hl 0 rfl) ?_
              refine lv_bipush (v := 12) hx hb dX12_wins_53 rfl ?_
              refine lv_iload hx hb dX12_wins_55 (lv_at hl 1 rfl) ?_
              refine q_mmin E hl.1 w_1740 mathw_min (a := 12) (b := z27) (show (12 : Int32).toInt = 12 from by decide) ev27 (by decide) (show _ ≤ _ from by simp [Value.category]) dX12_wins_57 (fun v47 mv47a mv47b mv47c => ?_)
              refine q_icmp_gt hx hb (a := z45) (b := v47.toInt) ev45 rfl (tgt := 149) dX12_wins_60 rfl (fun c48 => ?_) (fun c48 => ?_)
              · have hfo : FXI (TB H46 wb) a3 a4 (z27 + (-1)) 0 := FXI_next hfi (by omega)
                obtain ⟨v49, ev49⟩ : ∃ z, z = v27 + Int32.ofInt (-1) := ⟨_, rfl⟩
                have ev49i : v49.toInt = (z27 + (-1)) := i_add ev49 ev27 (by decide) (by omega) (by omega)
                refine lv_iinc hx hb dX12_wins_149 hl (k := 1) rfl ev49.symm (by decide) rfl (fun ls hl => ?_)
                replace hl : lv_has ls 10 [(5, .int v49), (6, .int v45), (0, .ref h0), (1, .int p1), (2, .int p2), (3, .int p3), (4, .int p4)] := hl
                refine lv_goto (tgt := 32) hx hb dX12_wins_152 rfl ?_
                exact ih28 H46 locs46 v49 ((z27 + (-1))) ls (by omega) ev49i (by omega) (by omega) (by omega) (hfo) hC46 hS46 hKp46 (lv_sub hl [0, 2, 3, 4, 5, 6] rfl)
              · refine lv_iload hx hb dX12_wins_63 (lv_at hl 1 rfl) ?_
                refine lv_iload hx hb dX12_wins_65 (lv_at hl 0 rfl) ?_
                refine lv_isub hx hb dX12_wins_67 (lv_topi (fun v50 ev50 => ?_))
                have ev50i : v50.toInt = (z27 - z45) := i_sub ev50 ev27 ev45 (by omega) (by omega)
                refine lv_istore hx hb dX12_wins_68 hl (by decide) rfl (fun ls hl => ?_)
                replace hl : lv_has ls 10 [(7, .int v50), (6, .int v45), (5, .int v27), (0, .ref h0), (1, .int p1), (2, .int p2), (3, .int p3), (4, .int p4)] := hl
                refine lv_iconst (v := 0) hx hb dX12_wins_70 rfl ?_
                refine lv_istore hx hb dX12_wins_71 hl (by decide) rfl (fun ls hl => ?_)
                replace hl : lv_has ls 10 [(8, .int 0), (7, .int v50), (6, .int v45), (5, .int v27), (0, .ref h0), (1, .int p1), (2, .int p2), (3, .int p3), (4, .int p4)] := hl
                refine lv_iconst (v := 1) hx hb dX12_wins_73 rfl ?_
                refine lv_istore hx hb dX12_wins_74 hl (by decide) rfl (fun ls hl => ?_)
                replace hl : lv_has ls 10 [(9, .int 1), (8, .int 0), (7, .int v50), (6, .int v45), (5, .int v27), (0, .ref h0), (1, .int p1), (2, .int p2), (3, .int p3), (4, .int p4)] := hl
                have L76 : ∀ (n53 : Nat) (locs53 : List Loc) (v51 : Int32) (z51 : Int) (v52 : Int32) (z52 : Int) (ls : Array Slot), (5 - z51).toNat < n53 → v51.toInt = z51 → v52.toInt = z52 → 1 ≤ z51 → 1 ≤ z51 → z51 ≤ 5 → 0 ≤ z52 → z52 ≤ 1 → (z52 = 0 → ∀ r : Int, 1 ≤ r → r < z51 → TB H46 wb (z27 - z45) (z45 + r)) → (z52 = 1 → EXW (TB H46 wb) z45 (z27 - z45) (rT z45 (z27 - z45) a3 a4)) → va_S (AΓ Γ) H0 H46 locs53 → lv_has ls 10 [(9, .int v51), (8, .int v52), (7, .int v50), (6, .int v45), (5, .int v27), (0, .ref h0), (1, .int p1), (2, .int p2), (3, .int p3), (4, .int p4)] → W p l e (rmL 2) s m args below meth c H46 locs53 0 0 Qz (F0 m 76 ls []) := by
                  intro n53
                  induction n53 with
                  | zero => intro locs53 v51 z51 v52 z52 ls hm53 ev51 ev52 iv53_0 iv53_1 iv53_2 iv53_3 iv53_4 iv53_5 iv53_6 hS53 hl; exact absurd hm53 (Nat.not_lt_zero _)
                  | succ n53 ih53 =>
                    intro locs53 v51 z51 v52 z52 ls hm53 ev51 ev52 iv53_0 iv53_1 iv53_2 iv53_3 iv53_4 iv53_5 iv53_6 hS53 hl
                    have hal := iv53_5
                    have hex := iv53_6
                    refine lv_iload hx hb dX12_wins_76 (lv_at hl 0 rfl) ?_
                    refine lv_iload hx hb dX12_wins_78 (lv_at hl 3 rfl) ?_
                    refine lv_iload hx hb dX12_wins_80 (lv_at hl 2 rfl) ?_
                    refine lv_iload_n hx hb dX12_wins_82 rfl (lv_at hl 8 rfl) ?_
                    refine lv_iload hx hb dX12_wins_83 (lv_at hl 9 rfl) ?_
                    refine q_goIp (q_runS (As := [.int v45, .int v50, .int p3, .int p4]) (rest := [.int v51]) E hS53 (m_X12_mostRaise l X Γ H46 hC46 v45 (a0 := z45) ev45 v50 (a1 := (z27 - z45)) ev50i p3 (a2 := a3) e3 p4 (a3 := a4) e4 (by omega) (by omega) (by omega) (by omega) (by omega) (by omega) (by omega) (by omega)) cw_X12_mostRaise cl_RX12_418 rfl hl.1 rfl (show _ ≤ _ from by simp [Value.category]) (by decide) dX12_wins_85) hS53 (fun v54 locs54 hr54 hS54 => ?_)
                    obtain ⟨f54_0, f54_1, f54_2, f54_3⟩ := hr54
                    have hr9 : z45 + v54.toInt = rT z45 (z27 - z45) a3 a4 := by unfold rT; (repeat' split) <;> omega
                    refine q_icmp_gt hx hb (a := z51) (b := v54.toInt) ev51 rfl (tgt := 128) dX12_wins_88 rfl (fun c55 => ?_) (fun c55 => ?_)
                    · have hiff : (z52 : Int) ≠ 0 ↔ EXW (TB H46 wb) z45 (z27 - z45) (rT z45 (z27 - z45) a3 a4) := ⟨fun h => hex (by omega), fun hh h => by obtain ⟨r, r1, r2, r3⟩ := hh; exact r3 (hal h r r1 (by omega))⟩
                      refine lv_aload_n hx hb dX12_wins_128 rfl (lv_at hl 5 rfl) ?_
                      refine q_getS E hC46 g0 fa_RX12_56 ((kp_R hKp46 g0 (ci := 11) (k := 31) rfl (by decide) rfl).trans hwb) dX12_wins_129 (fun _ => ?_)
                      refine lv_bipush (v := 13) hx hb dX12_wins_132 rfl ?_
                      refine lv_iload hx hb dX12_wins_134 (lv_at hl 3 rfl) ?_
                      refine lv_imul hx hb dX12_wins_136 (lv_topi (fun v56 ev56 => ?_))
                      have ev56i : v56.toInt = (13 * z45) := i_mul ev56 (by decide) ev45 (by omega) (by omega)
                      refine lv_iload hx hb dX12_wins_137 (lv_at hl 2 rfl) ?_
                      refine lv_iadd hx hb dX12_wins_139 (lv_topi (fun v57 ev57 => ?_))
                      have ev57i : v57.toInt = ((13 * z45) + (z27 - z45)) := i_add ev57 ev56i ev50i (by omega) (by omega)
                      refine lv_iload hx hb dX12_wins_140 (lv_at hl 1 rfl) ?_
                      refine q_zast E hC46 hS54 gwb (by decide) rfl rfl (fun _ => rfl) (i_in (a := ((13 * z45) + (z27 - z45))) ev57i (by omega) (by omega)) dX12_wins_142 (fun H58 locs58 hC58 hS58 U58 => ?_)
                      have hKp58 := Kp.upA gwb rfl (by decide) rfl U58 hKp46
                      have hf2 : FXI (TB H58 wb) a3 a4 z27 (z45 + 1) := TB_up hfi (by omega) (by omega) (by omega) (by omega) (by omega) (i_ix ev57i ▸ U58) (by rw [and1 ev52 (by omega) (by omega)]; exact hiff)
                      obtain ⟨v59, ev59⟩ : ∃ z, z = v45 + Int32.ofInt 1 := ⟨_, rfl⟩
                      have ev59i : v59.toInt = (z45 + 1) := i_add ev59 ev45 (by decide) (by omega) (by omega)
                      refine lv_iinc hx hb dX12_wins_143 hl (k := 3) rfl ev59.symm (by decide) rfl (fun ls hl => ?_)
                      replace hl : lv_has ls 10 [(6, .int v59), (9, .int v51), (8, .int v52), (7, .int v50), (5, .int v27), (0, .ref h0), (1, .int p1), (2, .int p2), (3, .int p3), (4, .int p4)] := hl
                      refine lv_goto (tgt := 51) hx hb dX12_wins_146 rfl ?_
                      exact ih46 H58 locs58 v59 ((z45 + 1)) ls (by omega) ev59i (by omega) (by omega) (by omega) (by omega) (by omega) (hf2) hC58 hS58 hKp58 (lv_sub hl [0, 4, 5, 6, 7, 8, 9] rfl)
                    · refine lv_iload hx hb dX12_wins_91 (lv_at hl 1 rfl) ?_
                      refine q_if_ne hx hb (a := z52) ev52 (tgt := 115) dX12_wins_93 rfl (fun c60 => ?_) (fun c60 => ?_)
                      · refine lv_iconst (v := 1) hx hb dX12_wins_115 rfl ?_
                        refine lv_goto (tgt := 120) hx hb dX12_wins_116 rfl ?_
                        refine lv_istore hx hb dX12_wins_120 hl (by decide) rfl (fun ls hl => ?_)
                        replace hl : lv_has ls 10 [(8, .int 1), (9, .int v51), (7, .int v50), (6, .int v45), (5, .int v27), (0, .ref h0), (1, .int p1), (2, .int p2), (3, .int p3), (4, .int p4)] := hl
                        have hal2 : (1 : Int) = 0 → ∀ r : Int, 1 ≤ r → r < z51 + 1 → TB H46 wb (z27 - z45) (z45 + r) := fun h8 r r1 r2 => by by_cases e : r = z51; (rw [e]; show (sI H46 wb (13 * (z27 - z45) + (z45 + z51)).toNat).toInt ≠ 0; omega); exact hal (by omega) r r1 (by omega)
                        have hex2 : (1 : Int) = 1 → EXW (TB H46 wb) z45 (z27 - z45) (rT z45 (z27 - z45) a3 a4) := fun h8 => by first | exact EXW.mk z51 (by omega) (by omega) (fun q => q (by show (sI H46 wb (13 * (z27 - z45) + (z45 + z51)).toNat).toInt = 0; omega)) | exact hex (by omega) | (exfalso; omega)
                        obtain ⟨v61, ev61⟩ : ∃ z, z = v51 + Int32.ofInt 1 := ⟨_, rfl⟩
                        have ev61i : v61.toInt = (z51 + 1) := i_add ev61 ev51 (by decide) (by omega) (by omega)
                        refine lv_iinc hx hb dX12_wins_122 hl (k := 1) rfl ev61.symm (by decide) rfl (fun ls hl => ?_)
                        replace hl : lv_has ls 10 [(9, .int v61), (8, .int 1), (7, .int v50), (6, .int v45), (5, .int v27), (0, .ref h0), (1, .int p1), (2, .int p2), (3, .int p3), (4, .int p4)] := hl
                        refine lv_goto (tgt := 76) hx hb dX12_wins_125 rfl ?_
                        exact ih53 locs54 v61 ((z51 + 1)) 1 (1) ls (by omega) ev61i (by decide) (by omega) (by omega) (by omega) (by omega) (by omega) (hal2) (hex2) hS54 hl
                      · refine lv_aload_n hx hb dX12_wins_96 rfl (lv_at hl 5 rfl) ?_
                        refine q_getS E hC46 g0 fa_RX12_56 ((kp_R hKp46 g0 (ci := 11) (k := 31) rfl (by decide) rfl).trans hwb) dX12_wins_97 (fun _ => ?_)
                        refine lv_bipush (v := 13) hx hb dX12_wins_100 rfl ?_
                        refine lv_iload hx hb dX12_wins_102 (lv_at hl 2 rfl) ?_
                        refine lv_imul hx hb dX12_wins_104 (lv_topi (fun v62 ev62 => ?_))
                        have ev62i : v62.toInt = (13 * (z27 - z45)) := i_mul ev62 (by decide) ev50i (by omega) (by omega)
                        refine lv_iload hx hb dX12_wins_105 (lv_at hl 3 rfl) ?_
                        refine lv_iadd hx hb dX12_wins_107 (lv_topi (fun v63 ev63 => ?_))
                        have ev63i : v63.toInt = ((13 * (z27 - z45)) + z45) := i_add ev63 ev62i ev45 (by omega) (by omega)
                        refine lv_iload hx hb dX12_wins_108 (lv_at hl 0 rfl) ?_
                        refine lv_iadd hx hb dX12_wins_110 (lv_topi (fun v64 ev64 => ?_))
                        have ev64i : v64.toInt = (((13 * (z27 - z45)) + z45) + z51) := i_add ev64 ev63i ev51 (by omega) (by omega)
                        refine q_zald E hC46 gwb rfl rfl (fun _ h => h) (i_in (a := (((13 * (z27 - z45)) + z45) + z51)) ev64i (by omega) (by omega)) dX12_wins_111 (fun v65 ev65 _ _ => ?_)
                        have hb9 : (sI H46 wb (13 * (z27 - z45) + (z45 + z51)).toNat).toInt = v65.toInt := by rw [show (13 * (z27 - z45) + (z45 + z51)).toNat = ((((13 * (z27 - z45)) + z45) + z51) : Int).toNat from by omega, ← i_ix ev64i]; exact congrArg Int32.toInt ev65
                        refine q_if_ne hx hb (a := v65.toInt) rfl (tgt := 119) dX12_wins_112 rfl (fun c66 => ?_) (fun c66 => ?_)
                        · refine lv_iconst (v := 0) hx hb dX12_wins_119 rfl ?_
                          refine lv_istore hx hb dX12_wins_120 hl (by decide) rfl (fun ls hl => ?_)
                          replace hl : lv_has ls 10 [(8, .int 0), (9, .int v51), (7, .int v50), (6, .int v45), (5, .int v27), (0, .ref h0), (1, .int p1), (2, .int p2), (3, .int p3), (4, .int p4)] := hl
                          have hal2 : (0 : Int) = 0 → ∀ r : Int, 1 ≤ r → r < z51 + 1 → TB H46 wb (z27 - z45) (z45 + r) := fun h8 r r1 r2 => by by_cases e : r = z51; (rw [e]; show (sI H46 wb (13 * (z27 - z45) + (z45 + z51)).toNat).toInt ≠ 0; omega); exact hal (by omega) r r1 (by omega)
                          have hex2 : (0 : Int) = 1 → EXW (TB H46 wb) z45 (z27 - z45) (rT z45 (z27 - z45) a3 a4) := fun h8 => by first | exact EXW.mk z51 (by omega) (by omega) (fun q => q (by show (sI H46 wb (13 * (z27 - z45) + (z45 + z51)).toNat).toInt = 0; omega)) | exact hex (by omega) | (exfalso; omega)
                          obtain ⟨v67, ev67⟩ : ∃ z, z = v51 + Int32.ofInt 1 := ⟨_, rfl⟩
                          have ev67i : v67.toInt = (z51 + 1) := i_add ev67 ev51 (by decide) (by omega) (by omega)
                          refine lv_iinc hx hb dX12_wins_122 hl (k := 1) rfl ev67.symm (by decide) rfl (fun ls hl => ?_)
                          replace hl : lv_has ls 10 [(9, .int v67), (8, .int 0), (7, .int v50), (6, .int v45), (5, .int v27), (0, .ref h0), (1, .int p1), (2, .int p2), (3, .int p3), (4, .int p4)] := hl
                          refine lv_goto (tgt := 76) hx hb dX12_wins_125 rfl ?_
                          exact ih53 locs54 v67 ((z51 + 1)) 0 (0) ls (by omega) ev67i (by decide) (by omega) (by omega) (by omega) (by omega) (by omega) (hal2) (hex2) hS54 hl
                        · refine lv_iconst (v := 1) hx hb dX12_wins_115 rfl ?_
                          refine lv_goto (tgt := 120) hx hb dX12_wins_116 rfl ?_
                          refine lv_istore hx hb dX12_wins_120 hl (by decide) rfl (fun ls hl => ?_)
                          replace hl : lv_has ls 10 [(8, .int 1), (9, .int v51), (7, .int v50), (6, .int v45), (5, .int v27), (0, .ref h0), (1, .int p1), (2, .int p2), (3, .int p3), (4, .int p4)] := hl
                          have hal2 : (1 : Int) = 0 → ∀ r : Int, 1 ≤ r → r < z51 + 1 → TB H46 wb (z27 - z45) (z45 + r) := fun h8 r r1 r2 => by by_cases e : r = z51; (rw [e]; show (sI H46 wb (13 * (z27 - z45) + (z45 + z51)).toNat).toInt ≠ 0; omega); exact hal (by omega) r r1 (by omega)
                          have hex2 : (1 : Int) = 1 → EXW (TB H46 wb) z45 (z27 - z45) (rT z45 (z27 - z45) a3 a4) := fun h8 => by first | exact EXW.mk z51 (by omega) (by omega) (fun q => q (by show (sI H46 wb (13 * (z27 - z45) + (z45 + z51)).toNat).toInt = 0; omega)) | exact hex (by omega) | (exfalso; omega)
                          obtain ⟨v68, ev68⟩ : ∃ z, z = v51 + Int32.ofInt 1 := ⟨_, rfl⟩
                          have ev68i : v68.toInt = (z51 + 1) := i_add ev68 ev51 (by decide) (by omega) (by omega)
                          refine lv_iinc hx hb dX12_wins_122 hl (k := 1) rfl ev68.symm (by decide) rfl (fun ls hl => ?_)
                          replace hl : lv_has ls 10 [(9, .int v68), (8, .int 1), (7, .int v50), (6, .int v45), (5, .int v27), (0, .ref h0), (1, .int p1), (2, .int p2), (3, .int p3), (4, .int p4)] := hl
                          refine lv_goto (tgt := 76) hx hb dX12_wins_125 rfl ?_
                          exact ih53 locs54 v68 ((z51 + 1)) 1 (1) ls (by omega) ev68i (by decide) (by omega) (by omega) (by omega) (by omega) (by omega) (hal2) (hex2) hS54 hl
                exact L76 _ locs46 1 1 0 0 ls (Nat.lt_succ_self _) (by decide) (by decide) (by omega) (by omega) (by omega) (by omega) (by omega) (fun _ r r1 r2 => by omega) (fun h => absurd h (by decide)) hS46 hl
          exact L51 _ H28 locs28 v44 v44.toInt ls (Nat.lt_succ_self _) rfl (by omega) (by omega) (by omega) (by omega) (by omega) (FXI_begin hfx (by omega)) hC28 hS28 hKp28 hl
    exact L32 _ H23 locs25 24 24 ls (Nat.lt_succ_self _) (by decide) (by omega) (by omega) (by omega) (FXI_start) hC23 hS25 hKp23 hl
  · refine q_if_ne hx hb (a := 0) (by decide) (tgt := 28) dX12_wins_19 rfl (fun c69 => absurd c69 (by omega)) (fun c69 => ?_)
    refine lv_aload_n hx hb dX12_wins_22 rfl (lv_at hl 0 rfl) ?_
    refine lv_iconst (v := 5) hx hb dX12_wins_23 rfl ?_
    refine q_goI (q_runV (As := [.int 5]) (rest := []) E hC23 hS25 (m_X12_refuse l X Γ H23 hC23 h0 g0 5 (a1 := 5) (by decide) ca gca uc) cw_X12_refuse cl_RX12_298 g0 ⟨rfl, rfl⟩ rfl hl.1 rfl (Nat.zero_le _) (by decide) dX12_wins_24) hS25 (fun v70 H70 locs70 hr70 hC70 hS70 => ?_)
    obtain ⟨hp70, hr70⟩ := hr70
    have hKp70 := hKp23.tr (hp70.mono rfl)
    have f70_0 := hr70
    have hrf := f70_0
    have hpost : ((∃ T, FXI T a3 a4 (a1 + a2 - 1) 0 ∧ LST T a1 a2 (rT a1 a2 a3 a4) (v70 : Int32).toInt) ∧ 0 ≤ a1 ∧ a1 ≤ 12 ∧ 0 ≤ a2 ∧ a2 ≤ 12 ∧ 1 ≤ a3 ∧ a3 ≤ 4 ∧ 0 ≤ a4 ∧ a4 ≤ 4) ∨ ((v70 : Int32).toInt = -1 ∧ (a1 < 0 ∨ 12 < a1 ∨ a2 < 0 ∨ 12 < a2 ∨ a3 < 1 ∨ 4 < a3 ∨ a4 < 0 ∨ 4 < a4)) := Or.inr ⟨hrf, by omega⟩
    have c71 : v70.toInt = v70.toInt := rfl
    exact ret v70 H70 locs70 _ _ dX12_wins_27 ⟨hKp70, hpost⟩ hC70 hS70
set_option maxRecDepth 100000 in
set_option maxHeartbeats 4000000 in
theorem m_X12_turns (l : Launch) (X : xW) (Γ : Nat → Option Nat) (H0 : Heap) (hC0 : Conf X Γ H0) (h0 : Nat) (g0 : Γ h0 = some 11) (p1 : Int32) {a1 : Int} (e1 : p1.toInt = a1) (p2 : Int32) {a2 : Int} (e2 : p2.toInt = a2) (p3 : Int32) {a3 : Int} (e3 : p3.toInt = a3) (p4 : Int32) {a4 : Int} (e4 : p4.toInt = a4) (ca : Nat) (gca : Γ ca = some 64) (uc : ∀ a, Γ a = some 64 → a = ca) : Ctr l X Γ yX12_turns cX12_turns 9 (some .int) 2 [.ref h0, .int p1, .int p2, .int p3, .int p4] H0 (QI X Γ (fun v H1 => Kp X Γ [1, 6, 7, 8, 9, 10, 11, 12, 14, 15, 16, 17, 19, 22, 24, 26, 28] H0 H1 ∧ (((v.toInt = TG a3 a4 25 a1 a2 ∧ 0 ≤ a1 ∧ a1 ≤ 12 ∧ 0 ≤ a2 ∧ a2 ≤ 12 ∧ 1 ≤ a3 ∧ a3 ≤ 4 ∧ 0 ≤ a4 ∧ a4 ≤ 4) ∨ (v.toInt = -1 ∧ (a1 < 0 ∨ 12 < a1 ∨ a2 < 0 ∨ 12 < a2 ∨ a3 < 1 ∨ 4 < a3 ∨ a4 < 0 ∨ 4 < a4)))))) := by
  refine q_enterI (own := "SnowFortsModel") (by decide) rfl (Nat.le_of_ble_eq_true rfl) ?_
  intro p e s m args below meth c ls Qz E hl ret hS0
  have hx := E.1; have hb := E.2.1
  have hKp0 : Kp X Γ [1, 6, 7, 8, 9, 10, 11, 12, 14, 15, 16, 17, 19, 22, 24, 26, 28] H0 H0 := Kp.rf
  have hl : lv_has ls 9 [(0, .ref h0), (1, .int p1), (2, .int p2), (3, .int p3), (4, .int p4)] := hl
  refine lv_aload_n hx hb dX12_turns_0 rfl (lv_at hl 0 rfl) ?_
  refine lv_iconst (v := 0) hx hb dX12_turns_1 rfl ?_
  refine q_put E hC0 hS0 g0 fp_RX12_69 tv_F rfl rfl dX12_turns_2 (fun H21 locs21 hC21 hS21 U21 => ?_)
  have hKp21 := Kp.upO E g0 fp_RX12_69 rfl U21 hKp0
  have e22 := up_I U21
  refine lv_aload_n hx hb dX12_turns_5 rfl (lv_at hl 0 rfl) ?_
  refine lv_iconst (v := 0) hx hb dX12_turns_6 rfl ?_
  refine q_put E hC21 hS21 g0 fp_RX12_72 tv_F rfl rfl dX12_turns_7 (fun H23 locs23 hC23 hS23 U23 => ?_)
  have hKp23 := Kp.upO E g0 fp_RX12_72 rfl U23 hKp21
  have e24 := up_I U23
  refine lv_aload_n hx hb dX12_turns_10 rfl (lv_at hl 0 rfl) ?_
  refine lv_iload_n hx hb dX12_turns_11 rfl (lv_at hl 1 rfl) ?_
  refine lv_iload_n hx hb dX12_turns_12 rfl (lv_at hl 2 rfl) ?_
  refine lv_iload_n hx hb dX12_turns_13 rfl (lv_at hl 3 rfl) ?_
  refine lv_iload hx hb dX12_turns_14 (lv_at hl 4 rfl) ?_
  refine q_goIp (q_runV (As := [.int p1, .int p2, .int p3, .int p4]) (rest := []) E hC23 hS23 (m_X12_isGame l X Γ H23 hC23 h0 g0 p1 (a1 := a1) e1 p2 (a2 := a2) e2 p3 (a3 := a3) e3 p4 (a4 := a4) e4 ca gca uc) cw_X12_isGame cl_RX12_414 g0 ⟨rfl, rfl⟩ rfl hl.1 rfl (Nat.zero_le _) (by decide) dX12_turns_16) hS23 (fun v25 locs25 hr25 hS25 => ?_)
  rcases hr25 with ⟨rfl, f25a0, f25a1, f25a2, f25a3, f25a4, f25a5, f25a6, f25a7⟩ | ⟨rfl, f25b⟩
  · refine q_if_ne hx hb (a := 1) (by decide) (tgt := 28) dX12_turns_19 rfl (fun c26 => ?_) (fun c26 => absurd c26 (by omega))
    refine lv_iload_n hx hb dX12_turns_28 rfl (lv_at hl 1 rfl) ?_
    refine lv_istore hx hb dX12_turns_29 hl (by decide) rfl (fun ls hl => ?_)
    replace hl : lv_has ls 9 [(5, .int p1), (0, .ref h0), (1, .int p1), (2, .int p2), (3, .int p3), (4, .int p4)] := hl
    refine lv_iload_n hx hb dX12_turns_31 rfl (lv_at hl 3 rfl) ?_
    refine lv_istore hx hb dX12_turns_32 hl (by decide) rfl (fun ls hl => ?_)
    replace hl : lv_has ls 9 [(6, .int p2), (5, .int p1), (0, .ref h0), (1, .int p1), (2, .int p2), (3, .int p3), (4, .int p4)] := hl
    refine lv_iconst (v := 0) hx hb dX12_turns_34 rfl ?_
    refine lv_istore hx hb dX12_turns_35 hl (by decide) rfl (fun ls hl => ?_)
    replace hl : lv_has ls 9 [(7, .int 0), (6, .int p2), (5, .int p1), (0, .ref h0), (1, .int p1), (2, .int p2), (3, .int p3), (4, .int p4)] := hl
    have L37 : ∀ (n30 : Nat) (locs30 : List Loc) (v27 : Int32) (z27 : Int) (v28 : Int32) (z28 : Int) (v29 : Int32) (z29 : Int) (ls : Array Slot), (24 - z29 - z28).toNat < n30 → v27.toInt = z27 → v28.toInt = z28 → v29.toInt = z29 → 0 ≤ z29 → z29 ≤ 12 → 0 ≤ z28 → z28 ≤ 12 → 0 ≤ z27 → z27 + a1 + a2 ≤ z29 + z28 → TG a3 a4 25 a1 a2 = z27 + TG a3 a4 (25 - z27).toNat z29 z28 → va_S (AΓ Γ) H0 H23 locs30 → lv_has ls 9 [(7, .int v27), (6, .int v28), (5, .int v29), (0, .ref h0), (1, .int p1), (2, .int p2), (3, .int p3), (4, .int p4)] → W p l e (rmL 2) s m args below meth c H23 locs30 0 0 Qz (F0 m 37 ls []) := by
      intro n30
      induction n30 with
      | zero => intro locs30 v27 z27 v28 z28 v29 z29 ls hm30 ev27 ev28 ev29 iv30_0 iv30_1 iv30_2 iv30_3 iv30_4 iv30_5 iv30_6 hS30 hl; exact absurd hm30 (Nat.not_lt_zero _)
      | succ n30 ih30 =>
        intro locs30 v27 z27 v28 z28 v29 z29 ls hm30 ev27 ev28 ev29 iv30_0 iv30_1 iv30_2 iv30_3 iv30_4 iv30_5 iv30_6 hS30 hl
        have htg := iv30_6
        refine lv_iload hx hb dX12_turns_37 (lv_at hl 2 rfl) ?_
        refine lv_iload hx hb dX12_turns_39 (lv_at hl 1 rfl) ?_
        refine lv_iload_n hx hb dX12_turns_41 rfl (lv_at hl 6 rfl) ?_
        refine lv_iload hx hb dX12_turns_42 (lv_at hl 7 rfl) ?_
        refine q_goIp (q_runS (As := [.int v29, .int v28, .int p3, .int p4]) (rest := []) E hS30 (m_X12_mostRaise l X Γ H23 hC23 v29 (a0 := z29) ev29 v28 (a1 := z28) ev28 p3 (a2 := a3) e3 p4 (a3 := a4) e4 (by omega) (by omega) (by omega) (by omega) (by omega) (by omega) (by omega) (by omega)) cw_X12_mostRaise cl_RX12_418 rfl hl.1 rfl (Nat.zero_le _) (by decide) dX12_turns_44) hS30 (fun v31 locs31 hr31 hS31 => ?_)
        obtain ⟨f31_0, f31_1, f31_2, f31_3⟩ := hr31
        have hr1 : z29 + v31.toInt = rT z29 z28 a3 a4 := by unfold rT; (repeat' split) <;> omega
        refine q_if_le hx hb (a := v31.toInt) rfl (tgt := 79) dX12_turns_47 rfl (fun c32 => ?_) (fun c32 => ?_)
        · refine lv_iload hx hb dX12_turns_79 (lv_at hl 0 rfl) ?_
          have htz : TG a3 a4 (25 - z27).toNat z29 z28 = 0 := TG_stop (by omega)
          have hpost : ((v27 : Int32).toInt = TG a3 a4 25 a1 a2 ∧ 0 ≤ a1 ∧ a1 ≤ 12 ∧ 0 ≤ a2 ∧ a2 ≤ 12 ∧ 1 ≤ a3 ∧ a3 ≤ 4 ∧ 0 ≤ a4 ∧ a4 ≤ 4) ∨ ((v27 : Int32).toInt = -1 ∧ (a1 < 0 ∨ 12 < a1 ∨ a2 < 0 ∨ 12 < a2 ∨ a3 < 1 ∨ 4 < a3 ∨ a4 < 0 ∨ 4 < a4)) := Or.inl ⟨by rw [ev27, htg, htz]; omega, by omega, by omega, by omega, by omega, by omega, by omega, by omega, by omega⟩
          have c33 : v27.toInt = z27 := ev27
          exact ret v27 H23 locs31 _ _ dX12_turns_81 ⟨hKp23, hpost⟩ hC23 hS31
        · refine lv_iload hx hb dX12_turns_50 (lv_at hl 2 rfl) ?_
          refine lv_iload hx hb dX12_turns_52 (lv_at hl 2 rfl) ?_
          refine lv_iload hx hb dX12_turns_54 (lv_at hl 1 rfl) ?_
          refine lv_iload_n hx hb dX12_turns_56 rfl (lv_at hl 6 rfl) ?_
          refine lv_iload hx hb dX12_turns_57 (lv_at hl 7 rfl) ?_
          refine q_goIp (q_runS (As := [.int v29, .int v28, .int p3, .int p4]) (rest := [.int v29]) E hS31 (m_X12_mostRaise l X Γ H23 hC23 v29 (a0 := z29) ev29 v28 (a1 := z28) ev28 p3 (a2 := a3) e3 p4 (a3 := a4) e4 (by omega) (by omega) (by omega) (by omega) (by omega) (by omega) (by omega) (by omega)) cw_X12_mostRaise cl_RX12_418 rfl hl.1 rfl (show _ ≤ _ from by simp [Value.category]) (by decide) dX12_turns_59) hS31 (fun v34 locs34 hr34 hS34 => ?_)
          obtain ⟨f34_0, f34_1, f34_2, f34_3⟩ := hr34
          have hr2 : z29 + v34.toInt = rT z29 z28 a3 a4 := by unfold rT; (repeat' split) <;> omega
          have hst := TG_step (n := z27) (o := z29) (p := z28) (m := a3) (k := a4) (by omega) (by omega) (by omega)
          refine lv_iadd hx hb dX12_turns_62 (lv_topi (fun v35 ev35 => ?_))
          have ev35i : v35.toInt = (z29 + v34.toInt) := i_add ev35 ev29 rfl (by omega) (by omega)
          refine lv_istore hx hb dX12_turns_63 hl (by decide) rfl (fun ls hl => ?_)
          replace hl : lv_has ls 9 [(8, .int v35), (7, .int v27), (6, .int v28), (5, .int v29), (0, .ref h0), (1, .int p1), (2, .int p2), (3, .int p3), (4, .int p4)] := hl
          refine lv_iload hx hb dX12_turns_65 (lv_at hl 2 rfl) ?_
          refine lv_istore hx hb dX12_turns_67 hl (by decide) rfl (fun ls hl => ?_)
          replace hl : lv_has ls 9 [(5, .int v28), (8, .int v35), (7, .int v27), (6, .int v28), (0, .ref h0), (1, .int p1), (2, .int p2), (3, .int p3), (4, .int p4)] := hl
          refine lv_iload hx hb dX12_turns_69 (lv_at hl 1 rfl) ?_
          refine lv_istore hx hb dX12_turns_71 hl (by decide) rfl (fun ls hl => ?_)
          replace hl : lv_has ls 9 [(6, .int v35), (5, .int v28), (8, .int v35), (7, .int v27), (0, .ref h0), (1, .int p1), (2, .int p2), (3, .int p3), (4, .int p4)] := hl
          obtain ⟨v36, ev36⟩ : ∃ z, z = v27 + Int32.ofInt 1 := ⟨_, rfl⟩
          have ev36i : v36.toInt = (z27 + 1) := i_add ev36 ev27 (by decide) (by omega) (by omega)
          refine lv_iinc hx hb dX12_turns_73 hl (k := 3) rfl ev36.symm (by decide) rfl (fun ls hl => ?_)
          replace hl : lv_has ls 9 [(7, .int v36), (6, .int v35), (5, .int v28), (8, .int v35), (0, .ref h0), (1, .int p1), (2, .int p2), (3, .int p3), (4, .int p4)] := hl
          refine lv_goto (tgt := 37) hx hb dX12_turns_76 rfl ?_
          exact ih30 locs34 v36 ((z27 + 1)) v35 ((z29 + v34.toInt)) v28 (z28) ls (by omega) ev36i ev35i ev28 (by omega) (by omega) (by omega) (by omega) (by omega) (by omega) (by rw [htg, hst, ← hr2]; omega) hS34 (lv_sub hl [0, 1, 2, 4, 5, 6, 7, 8] rfl)
    exact L37 _ locs25 0 0 p2 a2 p1 a1 ls (Nat.lt_succ_self _) (by decide) e2 e1 (by omega) (by omega) (by omega) (by omega) (by omega) (by omega) (by show _ = (0 : Int) + TG a3 a4 25 a1 a2; omega) hS25 hl
  · refine q_if_ne hx hb (a := 0) (by decide) (tgt := 28) dX12_turns_19 rfl (fun c37 => absurd c37 (by omega)) (fun c37 => ?_)
    refine lv_aload_n hx hb dX12_turns_22 rfl (lv_at hl 0 rfl) ?_
    refine lv_iconst (v := 5) hx hb dX12_turns_23 rfl ?_
    refine q_goI (q_runV (As := [.int 5]) (rest := []) E hC23 hS25 (m_X12_refuse l X Γ H23 hC23 h0 g0 5 (a1 := 5) (by decide) ca gca uc) cw_X12_refuse cl_RX12_298 g0 ⟨rfl, rfl⟩ rfl hl.1 rfl (Nat.zero_le _) (by decide) dX12_turns_24) hS25 (fun v38 H38 locs38 hr38 hC38 hS38 => ?_)
    obtain ⟨hp38, hr38⟩ := hr38
    have hKp38 := hKp23.tr (hp38.mono rfl)
    have f38_0 := hr38
    have hrf := f38_0
    have hpost : ((v38 : Int32).toInt = TG a3 a4 25 a1 a2 ∧ 0 ≤ a1 ∧ a1 ≤ 12 ∧ 0 ≤ a2 ∧ a2 ≤ 12 ∧ 1 ≤ a3 ∧ a3 ≤ 4 ∧ 0 ≤ a4 ∧ a4 ≤ 4) ∨ ((v38 : Int32).toInt = -1 ∧ (a1 < 0 ∨ 12 < a1 ∨ a2 < 0 ∨ 12 < a2 ∨ a3 < 1 ∨ 4 < a3 ∨ a4 < 0 ∨ 4 < a4)) := Or.inr ⟨hrf, by omega⟩
    have c39 : v38.toInt = v38.toInt := rfl
    exact ret v38 H38 locs38 _ _ dX12_turns_27 ⟨hKp38, hpost⟩ hC38 hS38
set_option maxRecDepth 100000 in
set_option maxHeartbeats 4000000 in
theorem m_X12_reckons (l : Launch) (X : xW) (Γ : Nat → Option Nat) (H0 : Heap) (hC0 : Conf X Γ H0) (h0 : Nat) (g0 : Γ h0 = some 11) (p1 : Int32) {a1 : Int} (e1 : p1.toInt = a1) (p2 : Int32) {a2 : Int} (e2 : p2.toInt = a2) (p3 : Int32) {a3 : Int} (e3 : p3.toInt = a3) (ca : Nat) (gca : Γ ca = some 64) (uc : ∀ a, Γ a = some 64 → a = ca) (tm ts : Nat) (gtm : Γ tm = some 61) (utm : ∀ a, Γ a = some 61 → a = tm) (gts : Γ ts = some 60) (uts : ∀ a, Γ a = some 60 → a = ts) (na : Nat) (gna : Γ na = some 62) (una : ∀ a, Γ a = some 62 → a = na) : Ctr l X Γ yX12_reckons cX12_reckons 9 (some .int) 2 [.ref h0, .int p1, .int p2, .int p3] H0 (QI X Γ (fun v H1 => Kp X Γ [1, 6, 7, 8, 9, 10, 11, 12, 14, 15, 16, 17, 19, 22, 24, 26, 28] H0 H1 ∧ ((0 ≤ v.toInt) ∧ (0 < v.toInt ∨ (1 ≤ a2 ∧ a2 ≤ 8)) ∧ ((v.toInt = 0 ∧ WGY a3 (sI H0 tm (a3 : Int).toNat).toInt a1 a2 (CBn (nMI na H0 a3))) ∨ (v.toInt ≠ 0 ∧ ¬ WGY a3 (sI H0 tm (a3 : Int).toNat).toInt a1 a2 (CBn (nMI na H0 a3))))))) := by
  refine q_enterI (own := "SnowFortsModel") (by decide) rfl (Nat.le_of_ble_eq_true rfl) ?_
  intro p e s m args below meth c ls Qz E hl ret hS0
  have hx := E.1; have hb := E.2.1
  have hKp0 : Kp X Γ [1, 6, 7, 8, 9, 10, 11, 12, 14, 15, 16, 17, 19, 22, 24, 26, 28] H0 H0 := Kp.rf
  have hl : lv_has ls 9 [(0, .ref h0), (1, .int p1), (2, .int p2), (3, .int p3)] := hl
  refine lv_aload_n hx hb dX12_reckons_0 rfl (lv_at hl 0 rfl) ?_
  refine lv_iload_n hx hb dX12_reckons_1 rfl (lv_at hl 3 rfl) ?_
  refine q_goIp (q_runV (As := [.int p3]) (rest := []) E hC0 hS0 (m_X12_isTray l X Γ H0 hC0 h0 g0 p3 (a1 := a3) e3 ca gca uc) cw_X12_isTray cl_RX12_394 g0 ⟨rfl, rfl⟩ rfl hl.1 rfl (Nat.zero_le _) (by decide) dX12_reckons_2) hS0 (fun v21 locs21 hr21 hS21 => ?_)
  rcases hr21 with ⟨rfl, f21a0, f21a1⟩ | ⟨rfl, f21b⟩
  · refine q_if_ne hx hb (a := 1) (by decide) (tgt := 10) dX12_reckons_5 rfl (fun c22 => ?_) (fun c22 => absurd c22 (by omega))
    refine lv_aload_n hx hb dX12_reckons_10 rfl (lv_at hl 0 rfl) ?_
    refine q_getU E hC0 g0 fa_RX12_17 utm dX12_reckons_11 ?_
    refine lv_iload_n hx hb dX12_reckons_14 rfl (lv_at hl 3 rfl) ?_
    refine q_tald E hC0 gtm rfl rfl (lo := -1) (hi := 60) (a := a3) (fun _ h => h) e3 (by omega) (by omega) dX12_reckons_15 (fun v23 ev23 lv23 uv23 => ?_)
    have m24 : (sI H0 tm (a3 : Int).toNat).toInt = v23.toInt := congrArg Int32.toInt ev23
    refine q_if_ge hx hb (a := v23.toInt) rfl (tgt := 21) dX12_reckons_16 rfl (fun c25 => ?_) (fun c25 => ?_)
    · refine lv_aload_n hx hb dX12_reckons_21 rfl (lv_at hl 0 rfl) ?_
      refine q_getU E hC0 g0 fa_RX12_17 utm dX12_reckons_22 ?_
      refine lv_iload_n hx hb dX12_reckons_25 rfl (lv_at hl 3 rfl) ?_
      refine q_tald E hC0 gtm rfl rfl (lo := -1) (hi := 60) (a := a3) (fun _ h => h) e3 (by omega) (by omega) dX12_reckons_26 (fun v26 ev26 lv26 uv26 => ?_)
      have m27 : (sI H0 tm (a3 : Int).toNat).toInt = v26.toInt := congrArg Int32.toInt ev26
      refine lv_iconst (v := 4) hx hb dX12_reckons_27 rfl ?_
      refine q_icmp_ge hx hb (a := v26.toInt) (b := 4) rfl (by decide) (tgt := 33) dX12_reckons_28 rfl (fun c28 => ?_) (fun c28 => ?_)
      · refine lv_iload_n hx hb dX12_reckons_33 rfl (lv_at hl 1 rfl) ?_
        refine lv_i2l (v := p1.toInt64) hx hb dX12_reckons_34 rfl (lv_topl (fun v29 ev29 => ?_))
        have ev29i : v29.toInt = a1 := l_ofi ev29.symm e1
        refine lv_lconst (v := 1) hx hb dX12_reckons_35 rfl ?_
        refine lv_ldc2 (v := 99) hx hb E.2.2.2.1 (E.2.2.2.2.1 _ w_1835) dX12_reckons_36 ?_
        refine q_goIp (q_runS (As := [.long v29, .long 1, .long 99]) (rest := []) E hS21 (m_X12_isIn l X Γ H0 hC0 v29 (a0 := a1) ev29i 1 (a1 := 1) (show (1 : Int64).toInt = 1 from by decide) 99 (a2 := 99) (show (99 : Int64).toInt = 99 from by decide)) cw_X12_isIn cl_RX12_104 rfl hl.1 rfl (Nat.zero_le _) (by decide) dX12_reckons_39) hS21 (fun v30 locs30 hr30 hS30 => ?_)
        rcases hr30 with ⟨rfl, f30a0, f30a1⟩ | ⟨rfl, f30b⟩
        · refine q_if_eq hx hb (a := 1) (by decide) (tgt := 57) dX12_reckons_42 rfl (fun c31 => absurd c31 (by omega)) (fun c31 => ?_)
          refine lv_iload_n hx hb dX12_reckons_45 rfl (lv_at hl 2 rfl) ?_
          refine lv_i2l (v := p2.toInt64) hx hb dX12_reckons_46 rfl (lv_topl (fun v32 ev32 => ?_))
          have ev32i : v32.toInt = a2 := l_ofi ev32.symm e2
          refine lv_lconst (v := 1) hx hb dX12_reckons_47 rfl ?_
          refine lv_ldc2 (v := 8) hx hb E.2.2.2.1 (E.2.2.2.2.1 _ w_1934) dX12_reckons_48 ?_
          refine q_goIp (q_runS (As := [.long v32, .long 1, .long 8]) (rest := []) E hS30 (m_X12_isIn l X Γ H0 hC0 v32 (a0 := a2) ev32i 1 (a1 := 1) (show (1 : Int64).toInt = 1 from by decide) 8 (a2 := 8) (show (8 : Int64).toInt = 8 from by decide)) cw_X12_isIn cl_RX12_104 rfl hl.1 rfl (Nat.zero_le _) (by decide) dX12_reckons_51) hS30 (fun v33 locs33 hr33 hS33 => ?_)
          rcases hr33 with ⟨rfl, f33a0, f33a1⟩ | ⟨rfl, f33b⟩
          · refine q_if_ne hx hb (a := 1) (by decide) (tgt := 59) dX12_reckons_54 rfl (fun c34 => ?_) (fun c34 => absurd c34 (by omega))
            refine lv_lconst (v := 0) hx hb dX12_reckons_59 rfl ?_
            refine lv_lstore hx hb dX12_reckons_60 hl (by decide) rfl (fun ls hl => ?_)
            replace hl : lv_has ls 9 [(4, .long 0), (0, .ref h0), (1, .int p1), (2, .int p2), (3, .int p3)] := hl
            refine lv_iconst (v := 0) hx hb dX12_reckons_62 rfl ?_
            refine lv_istore hx hb dX12_reckons_63 hl (by decide) rfl (fun ls hl => ?_)
            replace hl : lv_has ls 9 [(6, .int 0), (4, .long 0), (0, .ref h0), (1, .int p1), (2, .int p2), (3, .int p3)] := hl
            have L65 : ∀ (n37 : Nat) (locs37 : List Loc) (v35 : Int32) (z35 : Int) (v36 : Int64) (z36 : Int) (ls : Array Slot), (4 - z35).toNat < n37 → v35.toInt = z35 → v36.toInt = z36 → z35 ≤ 4 → 0 ≤ z35 → 0 ≤ z36 → z36 ≤ 16 * z35 → z36 = SU (nMI na H0 a3) z35 → (∀ i : Nat, (i : Int) < z35 → 0 ≤ nMI na H0 a3 i ∧ nMI na H0 a3 i ≤ 16) → va_S (AΓ Γ) H0 H0 locs37 → lv_has ls 9 [(6, .int v35), (4, .long v36), (0, .ref h0), (1, .int p1), (2, .int p2), (3, .int p3)] → W p l e (rmL 2) s m args below meth c H0 locs37 0 0 Qz (F0 m 65 ls []) := by
              intro n37
              induction n37 with
              | zero => intro locs37 v35 z35 v36 z36 ls hm37 ev35 ev36 iv37_0 iv37_1 iv37_2 iv37_3 iv37_4 iv37_5 hS37 hl; exact absurd hm37 (Nat.not_lt_zero _)
              | succ n37 ih37 =>
                intro locs37 v35 z35 v36 z36 ls hm37 ev35 ev36 iv37_0 iv37_1 iv37_2 iv37_3 iv37_4 iv37_5 hS37 hl
                have hsu := iv37_4
                have hall := iv37_5
                refine lv_iload hx hb dX12_reckons_65 (lv_at hl 0 rfl) ?_
                refine lv_iconst (v := 4) hx hb dX12_reckons_67 rfl ?_
                refine q_icmp_ge hx hb (a := z35) (b := 4) ev35 (by decide) (tgt := 108) dX12_reckons_68 rfl (fun c38 => ?_) (fun c38 => ?_)
                · have hs4 : z36 = SU (nMI na H0 a3) 4 := by rw [show (4 : Int) = z35 from by omega]; exact hsu
                  have hs5 := SU_4 (n := nMI na H0 a3)
                  refine lv_lload hx hb dX12_reckons_108 (lv_at hl 1 rfl) ?_
                  refine lv_ldc2 (v := 16) hx hb E.2.2.2.1 (E.2.2.2.2.1 _ w_1935) dX12_reckons_110 ?_
                  refine q_lcmp_eq hx hb (a := z36) (b := 16) ev36 (show (16 : Int64).toInt = 16 from by decide) (tgt := 119) dX12_reckons_113 dX12_reckons_114 rfl (fun c39 => ?_) (fun c39 => ?_)
                  · have hcb : CBn (nMI na H0 a3) := ⟨fun i hi => hall i (by omega), by omega⟩
                    refine lv_iconst (v := 0) hx hb dX12_reckons_119 rfl ?_
                    refine lv_istore hx hb dX12_reckons_120 hl (by decide) rfl (fun ls hl => ?_)
                    replace hl : lv_has ls 9 [(6, .int 0), (4, .long v36), (0, .ref h0), (1, .int p1), (2, .int p2), (3, .int p3)] := hl
                    have L122 : ∀ (n41 : Nat) (H41 : Heap) (locs41 : List Loc) (v40 : Int32) (z40 : Int) (ls : Array Slot), (100 - z40).toNat < n41 → v40.toInt = z40 → z40 ≤ 100 → 0 ≤ z40 → Conf X Γ H41 → va_S (AΓ Γ) H0 H41 locs41 → Kp X Γ [1, 6, 7, 8, 9, 10, 11, 12, 14, 15, 16, 17, 19, 22, 24, 26, 28] H0 H41 → lv_has ls 9 [(6, .int v40), (4, .long v36), (0, .ref h0), (1, .int p1), (2, .int p2), (3, .int p3)] → W p l e (rmL 2) s m args below meth c H41 locs41 0 0 Qz (F0 m 122 ls []) := by
                      intro n41
                      induction n41 with
                      | zero => intro H41 locs41 v40 z40 ls hm41 ev40 iv41_0 iv41_1 hC41 hS41 hKp41 hl; exact absurd hm41 (Nat.not_lt_zero _)
                      | succ n41 ih41 =>
                        intro H41 locs41 v40 z40 ls hm41 ev40 iv41_0 iv41_1 hC41 hS41 hKp41 hl
                        refine lv_iload hx hb dX12_reckons_122 (lv_at hl 0 rfl) ?_
                        refine lv_bipush (v := 100) hx hb dX12_reckons_124 rfl ?_
                        refine q_icmp_ge hx hb (a := z40) (b := 100) ev40 (by decide) (tgt := 153) dX12_reckons_126 rfl (fun c42 => ?_) (fun c42 => ?_)
                        · refine lv_iconst (v := 0) hx hb dX12_reckons_153 rfl ?_
                          refine lv_istore hx hb dX12_reckons_154 hl (by decide) rfl (fun ls hl => ?_)
                          replace hl : lv_has ls 9 [(6, .int 0), (4, .long v36), (0, .ref h0), (1, .int p1), (2, .int p2), (3, .int p3)] := hl
                          have L156 : ∀ (n44 : Nat) (H44 : Heap) (locs44 : List Loc) (v43 : Int32) (z43 : Int) (ls : Array Slot), (a2 - z43).toNat < n44 → v43.toInt = z43 → 0 ≤ z43 → Conf X Γ H44 → va_S (AΓ Γ) H0 H44 locs44 → Kp X Γ [1, 6, 7, 8, 9, 10, 11, 12, 14, 15, 16, 17, 19, 22, 24, 26, 28] H0 H44 → lv_has ls 9 [(6, .int v43), (4, .long v36), (0, .ref h0), (1, .int p1), (2, .int p2), (3, .int p3)] → W p l e (rmL 2) s m args below meth c H44 locs44 0 0 Qz (F0 m 156 ls []) := by
                            intro n44
                            induction n44 with
                            | zero => intro H44 locs44 v43 z43 ls hm44 ev43 iv44_0 hC44 hS44 hKp44 hl; exact absurd hm44 (Nat.not_lt_zero _)
                            | succ n44 ih44 =>
                              intro H44 locs44 v43 z43 ls hm44 ev43 iv44_0 hC44 hS44 hKp44 hl
                              refine lv_iload hx hb dX12_reckons_156 (lv_at hl 0 rfl) ?_
                              refine lv_iload_n hx hb dX12_reckons_158 rfl (lv_at hl 4 rfl) ?_
                              refine q_icmp_ge hx hb (a := z43) (b := a2) ev43 e2 (tgt := 285) dX12_reckons_159 rfl (fun c45 => ?_) (fun c45 => ?_)
                              · refine lv_iconst (v := 0) hx hb dX12_reckons_285 rfl ?_
                                have hpost : ((0 : Int32).toInt = 0 ∧ WGY a3 (sI H0 tm (a3 : Int).toNat).toInt a1 a2 (CBn (nMI na H0 a3))) ∨ ((0 : Int32).toInt ≠ 0 ∧ ¬ WGY a3 (sI H0 tm (a3 : Int).toNat).toInt a1 a2 (CBn (nMI na H0 a3))) := Or.inl ⟨by decide, by omega, by omega, by omega, by omega, by omega, by omega, by omega, hcb⟩
                                have c46 : (0 : Int32).toInt = 0 := (by decide)
                                exact ret 0 H44 locs44 _ _ dX12_reckons_286 ⟨hKp44, ⟨by omega, by omega, hpost⟩⟩ hC44 hS44
                              · refine lv_iconst (v := 0) hx hb dX12_reckons_162 rfl ?_
                                refine lv_istore hx hb dX12_reckons_163 hl (by decide) rfl (fun ls hl => ?_)
                                replace hl : lv_has ls 9 [(7, .int 0), (6, .int v43), (4, .long v36), (0, .ref h0), (1, .int p1), (2, .int p2), (3, .int p3)] := hl
                                have L165 : ∀ (n48 : Nat) (H48 : Heap) (locs48 : List Loc) (v47 : Int32) (z47 : Int) (ls : Array Slot), (100 - z47).toNat < n48 → v47.toInt = z47 → z47 ≤ 100 → 0 ≤ z47 → Conf X Γ H48 → va_S (AΓ Γ) H0 H48 locs48 → Kp X Γ [1, 6, 7, 8, 9, 10, 11, 12, 14, 15, 16, 17, 19, 22, 24, 26, 28] H0 H48 → lv_has ls 9 [(7, .int v47), (6, .int v43), (4, .long v36), (0, .ref h0), (1, .int p1), (2, .int p2), (3, .int p3)] → W p l e (rmL 2) s m args below meth c H48 locs48 0 0 Qz (F0 m 165 ls []) := by
                                  intro n48
                                  induction n48 with
                                  | zero => intro H48 locs48 v47 z47 ls hm48 ev47 iv48_0 iv48_1 hC48 hS48 hKp48 hl; exact absurd hm48 (Nat.not_lt_zero _)
                                  | succ n48 ih48 =>
                                    intro H48 locs48 v47 z47 ls hm48 ev47 iv48_0 iv48_1 hC48 hS48 hKp48 hl
                                    refine lv_iload hx hb dX12_reckons_165 (lv_at hl 0 rfl) ?_
                                    refine lv_bipush (v := 100) hx hb dX12_reckons_167 rfl ?_
                                    refine q_icmp_ge hx hb (a := z47) (b := 100) ev47 (by decide) (tgt := 186) dX12_reckons_169 rfl (fun c49 => ?_) (fun c49 => ?_)
                                    · refine lv_iconst (v := 0) hx hb dX12_reckons_186 rfl ?_
                                      refine lv_istore hx hb dX12_reckons_187 hl (by decide) rfl (fun ls hl => ?_)
                                      replace hl : lv_has ls 9 [(7, .int 0), (6, .int v43), (4, .long v36), (0, .ref h0), (1, .int p1), (2, .int p2), (3, .int p3)] := hl
                                      have L189 : ∀ (n51 : Nat) (H51 : Heap) (locs51 : List Loc) (v50 : Int32) (z50 : Int) (ls : Array Slot), (100 - z50).toNat < n51 → v50.toInt = z50 → z50 ≤ 100 → 0 ≤ z50 → Conf X Γ H51 → va_S (AΓ Γ) H0 H51 locs51 → Kp X Γ [1, 6, 7, 8, 9, 10, 11, 12, 14, 15, 16, 17, 19, 22, 24, 26, 28] H0 H51 → lv_has ls 9 [(7, .int v50), (6, .int v43), (4, .long v36), (0, .ref h0), (1, .int p1), (2, .int p2), (3, .int p3)] → W p l e (rmL 2) s m args below meth c H51 locs51 0 0 Qz (F0 m 189 ls []) := by
                                        intro n51
                                        induction n51 with
                                        | zero => intro H51 locs51 v50 z50 ls hm51 ev50 iv51_0 iv51_1 hC51 hS51 hKp51 hl; exact absurd hm51 (Nat.not_lt_zero _)
                                        | succ n51 ih51 =>
                                          intro H51 locs51 v50 z50 ls hm51 ev50 iv51_0 iv51_1 hC51 hS51 hKp51 hl
                                          refine lv_iload hx hb dX12_reckons_189 (lv_at hl 0 rfl) ?_
                                          refine lv_bipush (v := 100) hx hb dX12_reckons_191 rfl ?_
                                          refine q_icmp_ge hx hb (a := z50) (b := 100) ev50 (by decide) (tgt := 249) dX12_reckons_193 rfl (fun c52 => ?_) (fun c52 => ?_)
                                          · refine lv_iconst (v := 0) hx hb dX12_reckons_249 rfl ?_
                                            refine lv_istore hx hb dX12_reckons_250 hl (by decide) rfl (fun ls hl => ?_)
                                            replace hl : lv_has ls 9 [(7, .int 0), (6, .int v43), (4, .long v36), (0, .ref h0), (1, .int p1), (2, .int p2), (3, .int p3)] := hl
                                            have L252 : ∀ (n54 : Nat) (H54 : Heap) (locs54 : List Loc) (v53 : Int32) (z53 : Int) (ls : Array Slot), (100 - z53).toNat < n54 → v53.toInt = z53 → z53 ≤ 100 → 0 ≤ z53 → Conf X Γ H54 → va_S (AΓ Γ) H0 H54 locs54 → Kp X Γ [1, 6, 7, 8, 9, 10, 11, 12, 14, 15, 16, 17, 19, 22, 24, 26, 28] H0 H54 → lv_has ls 9 [(7, .int v53), (6, .int v43), (4, .long v36), (0, .ref h0), (1, .int p1), (2, .int p2), (3, .int p3)] → W p l e (rmL 2) s m args below meth c H54 locs54 0 0 Qz (F0 m 252 ls []) := by
                                              intro n54
                                              induction n54 with
                                              | zero => intro H54 locs54 v53 z53 ls hm54 ev53 iv54_0 iv54_1 hC54 hS54 hKp54 hl; exact absurd hm54 (Nat.not_lt_zero _)
                                              | succ n54 ih54 =>
                                                intro H54 locs54 v53 z53 ls hm54 ev53 iv54_0 iv54_1 hC54 hS54 hKp54 hl
                                                refine lv_iload hx hb dX12_reckons_252 (lv_at hl 0 rfl) ?_
                                                refine lv_bipush (v := 100) hx hb dX12_reckons_254 rfl ?_
                                                refine q_icmp_ge hx hb (a := z53) (b := 100) ev53 (by decide) (tgt := 279) dX12_reckons_256 rfl (fun c55 => ?_) (fun c55 => ?_)
                                                · obtain ⟨v56, ev56⟩ : ∃ z, z = v43 + Int32.ofInt 1 := ⟨_, rfl⟩
                                                  have ev56i : v56.toInt = (z43 + 1) := i_add ev56 ev43 (by decide) (by omega) (by omega)
                                                  refine lv_iinc hx hb dX12_reckons_279 hl (k := 1) rfl ev56.symm (by decide) rfl (fun ls hl => ?_)
                                                  replace hl : lv_has ls 9 [(6, .int v56), (7, .int v53), (4, .long v36), (0, .ref h0), (1, .int p1), (2, .int p2), (3, .int p3)] := hl
                                                  refine lv_goto (tgt := 156) hx hb dX12_reckons_282 rfl ?_
                                                  exact ih44 H54 locs54 v56 ((z43 + 1)) ls (by omega) ev56i (by omega) hC54 hS54 hKp54 (lv_sub hl [0, 2, 3, 4, 5, 6] rfl)
                                                · refine lv_aload_n hx hb dX12_reckons_259 rfl (lv_at hl 3 rfl) ?_
                                                  refine q_getR E hC54 g0 fa_RX12_60 dX12_reckons_260 (fun q57 eq57 gq57 => ?_)
                                                  refine lv_iload hx hb dX12_reckons_263 (lv_at hl 0 rfl) ?_
                                                  refine lv_aload_n hx hb dX12_reckons_265 rfl (lv_at hl 3 rfl) ?_
                                                  refine q_getR E hC54 g0 fa_RX12_63 dX12_reckons_266 (fun q58 eq58 gq58 => ?_)
                                                  refine lv_iload hx hb dX12_reckons_269 (lv_at hl 0 rfl) ?_
                                                  refine q_lald2 E hC54 gq58 rfl rfl (fun _ => rfl) (a := z53) ev53 (by omega) (by omega) dX12_reckons_271 (fun v59 ev59 => ?_)
                                                  refine q_last2 E hC54 hS54 gq57 (by decide) rfl rfl (fun _ => rfl) (a := z53) ev53 (by omega) (by omega) dX12_reckons_272 (fun H60 locs60 hC60 hS60 U60 => ?_)
                                                  have hKp60 := Kp.upA gq57 rfl (by decide) rfl U60 hKp54
                                                  obtain ⟨v61, ev61⟩ : ∃ z, z = v53 + Int32.ofInt 1 := ⟨_, rfl⟩
                                                  have ev61i : v61.toInt = (z53 + 1) := i_add ev61 ev53 (by decide) (by omega) (by omega)
                                                  refine lv_iinc hx hb dX12_reckons_273 hl (k := 0) rfl ev61.symm (by decide) rfl (fun ls hl => ?_)
                                                  replace hl : lv_has ls 9 [(7, .int v61), (6, .int v43), (4, .long v36), (0, .ref h0), (1, .int p1), (2, .int p2), (3, .int p3)] := hl
                                                  refine lv_goto (tgt := 252) hx hb dX12_reckons_276 rfl ?_
                                                  exact ih54 H60 locs60 v61 ((z53 + 1)) ls (by omega) ev61i (by omega) (by omega) hC60 hS60 hKp60 hl
                                            exact L252 _ H51 locs51 0 0 ls (Nat.lt_succ_self _) (by decide) (by omega) (by omega) hC51 hS51 hKp51 hl
                                          · refine lv_iconst (v := 0) hx hb dX12_reckons_196 rfl ?_
                                            refine lv_istore hx hb dX12_reckons_197 hl (by decide) rfl (fun ls hl => ?_)
                                            replace hl : lv_has ls 9 [(8, .int 0), (7, .int v50), (6, .int v43), (4, .long v36), (0, .ref h0), (1, .int p1), (2, .int p2), (3, .int p3)] := hl
                                            have L199 : ∀ (n63 : Nat) (H63 : Heap) (locs63 : List Loc) (v62 : Int32) (z62 : Int) (ls : Array Slot), (4 - z62).toNat < n63 → v62.toInt = z62 → z62 ≤ 4 → 0 ≤ z62 → Conf X Γ H63 → va_S (AΓ Γ) H0 H63 locs63 → Kp X Γ [1, 6, 7, 8, 9, 10, 11, 12, 14, 15, 16, 17, 19, 22, 24, 26, 28] H0 H63 → lv_has ls 9 [(8, .int v62), (7, .int v50), (6, .int v43), (4, .long v36), (0, .ref h0), (1, .int p1), (2, .int p2), (3, .int p3)] → W p l e (rmL 2) s m args below meth c H63 locs63 0 0 Qz (F0 m 199 ls []) := by
                                              intro n63
                                              induction n63 with
                                              | zero => intro H63 locs63 v62 z62 ls hm63 ev62 iv63_0 iv63_1 hC63 hS63 hKp63 hl; exact absurd hm63 (Nat.not_lt_zero _)
                                              | succ n63 ih63 =>
                                                intro H63 locs63 v62 z62 ls hm63 ev62 iv63_0 iv63_1 hC63 hS63 hKp63 hl
                                                refine lv_iload hx hb dX12_reckons_199 (lv_at hl 0 rfl) ?_
                                                refine lv_iconst (v := 4) hx hb dX12_reckons_201 rfl ?_
                                                refine q_icmp_ge hx hb (a := z62) (b := 4) ev62 (by decide) (tgt := 243) dX12_reckons_202 rfl (fun c64 => ?_) (fun c64 => ?_)
                                                · obtain ⟨v65, ev65⟩ : ∃ z, z = v50 + Int32.ofInt 1 := ⟨_, rfl⟩
                                                  have ev65i : v65.toInt = (z50 + 1) := i_add ev65 ev50 (by decide) (by omega) (by omega)
                                                  refine lv_iinc hx hb dX12_reckons_243 hl (k := 1) rfl ev65.symm (by decide) rfl (fun ls hl => ?_)
                                                  replace hl : lv_has ls 9 [(7, .int v65), (8, .int v62), (6, .int v43), (4, .long v36), (0, .ref h0), (1, .int p1), (2, .int p2), (3, .int p3)] := hl
                                                  refine lv_goto (tgt := 189) hx hb dX12_reckons_246 rfl ?_
                                                  exact ih51 H63 locs63 v65 ((z50 + 1)) ls (by omega) ev65i (by omega) (by omega) hC63 hS63 hKp63 (lv_sub hl [0, 2, 3, 4, 5, 6, 7] rfl)
                                                · refine lv_aload_n hx hb dX12_reckons_205 rfl (lv_at hl 4 rfl) ?_
                                                  refine q_getR E hC63 g0 fa_RX12_63 dX12_reckons_206 (fun q66 eq66 gq66 => ?_)
                                                  refine lv_iconst (v := 0) hx hb dX12_reckons_209 rfl ?_
                                                  refine lv_iload hx hb dX12_reckons_210 (lv_at hl 1 rfl) ?_
                                                  refine lv_iload hx hb dX12_reckons_212 (lv_at hl 0 rfl) ?_
                                                  refine lv_isub hx hb dX12_reckons_214 (lv_topi (fun v67 ev67 => ?_))
                                                  have ev67i : v67.toInt = (z50 - z62) := i_sub ev67 ev50 ev62 (by omega) (by omega)
                                                  refine q_mmax E hl.1 w_1731 mathw_max (a := 0) (b := (z50 - z62)) (show (0 : Int32).toInt = 0 from by decide) ev67i (by decide) (show _ ≤ _ from by simp [Value.category]) dX12_reckons_215 (fun v68 mv68a mv68b mv68c => ?_)
                                                  refine lv_dup2_11 hx hb dX12_reckons_218 rfl rfl ?_
                                                  refine q_lald2 E hC63 gq66 rfl rfl (fun _ => rfl) (a := v68.toInt) rfl (by omega) (by omega) dX12_reckons_219 (fun v69 ev69 => ?_)
                                                  refine lv_aload_n hx hb dX12_reckons_220 rfl (lv_at hl 4 rfl) ?_
                                                  refine q_getR E hC63 g0 fa_RX12_60 dX12_reckons_221 (fun q70 eq70 gq70 => ?_)
                                                  refine lv_iload hx hb dX12_reckons_224 (lv_at hl 1 rfl) ?_
                                                  refine q_lald2 E hC63 gq70 rfl rfl (fun _ => rfl) (a := z50) ev50 (by omega) (by omega) dX12_reckons_226 (fun v71 ev71 => ?_)
                                                  refine lv_aload_n hx hb dX12_reckons_227 rfl (lv_at hl 4 rfl) ?_
                                                  refine lv_iload_n hx hb dX12_reckons_228 rfl (lv_at hl 7 rfl) ?_
                                                  refine lv_iload hx hb dX12_reckons_229 (lv_at hl 0 rfl) ?_
                                                  refine q_goJp (q_runV (As := [.int p3, .int v62]) (rest := [.long v71, .long v69, .int v68, .ref q66]) E hC63 hS63 (m_X12_numberOf l X Γ H63 hC63 h0 g0 p3 (a1 := a3) e3 v62 (a2 := z62) ev62 ca gca uc tm ts gtm utm gts uts na gna una (by omega) (by omega) (by omega) (by omega)) cw_X12_numberOf cl_RX12_401 g0 ⟨rfl, rfl⟩ rfl hl.1 rfl (show _ ≤ _ from by simp [Value.category]) (by decide) dX12_reckons_231) hS63 (fun v72 locs72 hr72 hS72 => ?_)
                                                  have f72_0 := hr72
                                                  refine lv_lmul hx hb dX12_reckons_234 (lv_topl (fun v73 ev73 => ?_))
                                                  refine lv_ladd hx hb dX12_reckons_235 (lv_topl (fun v74 ev74 => ?_))
                                                  refine q_last2 E hC63 hS72 gq66 (by decide) rfl rfl (fun _ => rfl) (a := v68.toInt) rfl (by omega) (by omega) dX12_reckons_236 (fun H75 locs75 hC75 hS75 U75 => ?_)
                                                  have hKp75 := Kp.upA gq66 rfl (by decide) rfl U75 hKp63
                                                  obtain ⟨v76, ev76⟩ : ∃ z, z = v62 + Int32.ofInt 1 := ⟨_, rfl⟩
                                                  have ev76i : v76.toInt = (z62 + 1) := i_add ev76 ev62 (by decide) (by omega) (by omega)
                                                  refine lv_iinc hx hb dX12_reckons_237 hl (k := 0) rfl ev76.symm (by decide) rfl (fun ls hl => ?_)
                                                  replace hl : lv_has ls 9 [(8, .int v76), (7, .int v50), (6, .int v43), (4, .long v36), (0, .ref h0), (1, .int p1), (2, .int p2), (3, .int p3)] := hl
                                                  refine lv_goto (tgt := 199) hx hb dX12_reckons_240 rfl ?_
                                                  exact ih63 H75 locs75 v76 ((z62 + 1)) ls (by omega) ev76i (by omega) (by omega) hC75 hS75 hKp75 hl
                                            exact L199 _ H51 locs51 0 0 ls (Nat.lt_succ_self _) (by decide) (by omega) (by omega) hC51 hS51 hKp51 hl
                                      exact L189 _ H48 locs48 0 0 ls (Nat.lt_succ_self _) (by decide) (by omega) (by omega) hC48 hS48 hKp48 hl
                                    · refine lv_aload_n hx hb dX12_reckons_172 rfl (lv_at hl 3 rfl) ?_
                                      refine q_getR E hC48 g0 fa_RX12_63 dX12_reckons_173 (fun q77 eq77 gq77 => ?_)
                                      refine lv_iload hx hb dX12_reckons_176 (lv_at hl 0 rfl) ?_
                                      refine lv_lconst (v := 0) hx hb dX12_reckons_178 rfl ?_
                                      refine q_last2 E hC48 hS48 gq77 (by decide) rfl rfl (fun _ => rfl) (a := z47) ev47 (by omega) (by omega) dX12_reckons_179 (fun H78 locs78 hC78 hS78 U78 => ?_)
                                      have hKp78 := Kp.upA gq77 rfl (by decide) rfl U78 hKp48
                                      obtain ⟨v79, ev79⟩ : ∃ z, z = v47 + Int32.ofInt 1 := ⟨_, rfl⟩
                                      have ev79i : v79.toInt = (z47 + 1) := i_add ev79 ev47 (by decide) (by omega) (by omega)
                                      refine lv_iinc hx hb dX12_reckons_180 hl (k := 0) rfl ev79.symm (by decide) rfl (fun ls hl => ?_)
                                      replace hl : lv_has ls 9 [(7, .int v79), (6, .int v43), (4, .long v36), (0, .ref h0), (1, .int p1), (2, .int p2), (3, .int p3)] := hl
                                      refine lv_goto (tgt := 165) hx hb dX12_reckons_183 rfl ?_
                                      exact ih48 H78 locs78 v79 ((z47 + 1)) ls (by omega) ev79i (by omega) (by omega) hC78 hS78 hKp78 hl
                                exact L165 _ H44 locs44 0 0 ls (Nat.lt_succ_self _) (by decide) (by omega) (by omega) hC44 hS44 hKp44 hl
                          exact L156 _ H41 locs41 0 0 ls (Nat.lt_succ_self _) (by decide) (by omega) hC41 hS41 hKp41 hl
                        · refine lv_aload_n hx hb dX12_reckons_129 rfl (lv_at hl 2 rfl) ?_
                          refine q_getR E hC41 g0 fa_RX12_60 dX12_reckons_130 (fun q80 eq80 gq80 => ?_)
                          refine lv_iload hx hb dX12_reckons_133 (lv_at hl 0 rfl) ?_
                          refine lv_iload hx hb dX12_reckons_135 (lv_at hl 0 rfl) ?_
                          refine lv_iload_n hx hb dX12_reckons_137 rfl (lv_at hl 3 rfl) ?_
                          refine q_icmp_ne hx hb (a := z40) (b := a1) ev40 e1 (tgt := 145) dX12_reckons_138 rfl (fun c81 => ?_) (fun c81 => ?_)
                          · refine lv_lconst (v := 0) hx hb dX12_reckons_145 rfl ?_
                            refine q_last2 E hC41 hS41 gq80 (by decide) rfl rfl (fun _ => rfl) (a := z40) ev40 (by omega) (by omega) dX12_reckons_146 (fun H82 locs82 hC82 hS82 U82 => ?_)
                            have hKp82 := Kp.upA gq80 rfl (by decide) rfl U82 hKp41
                            obtain ⟨v83, ev83⟩ : ∃ z, z = v40 + Int32.ofInt 1 := ⟨_, rfl⟩
                            have ev83i : v83.toInt = (z40 + 1) := i_add ev83 ev40 (by decide) (by omega) (by omega)
                            refine lv_iinc hx hb dX12_reckons_147 hl (k := 0) rfl ev83.symm (by decide) rfl (fun ls hl => ?_)
                            replace hl : lv_has ls 9 [(6, .int v83), (4, .long v36), (0, .ref h0), (1, .int p1), (2, .int p2), (3, .int p3)] := hl
                            refine lv_goto (tgt := 122) hx hb dX12_reckons_150 rfl ?_
                            exact ih41 H82 locs82 v83 ((z40 + 1)) ls (by omega) ev83i (by omega) (by omega) hC82 hS82 hKp82 hl
                          · refine lv_lconst (v := 1) hx hb dX12_reckons_141 rfl ?_
                            refine lv_goto (tgt := 146) hx hb dX12_reckons_142 rfl ?_
                            refine q_last2 E hC41 hS41 gq80 (by decide) rfl rfl (fun _ => rfl) (a := z40) ev40 (by omega) (by omega) dX12_reckons_146 (fun H84 locs84 hC84 hS84 U84 => ?_)
                            have hKp84 := Kp.upA gq80 rfl (by decide) rfl U84 hKp41
                            obtain ⟨v85, ev85⟩ : ∃ z, z = v40 + Int32.ofInt 1 := ⟨_, rfl⟩
                            have ev85i : v85.toInt = (z40 + 1) := i_add ev85 ev40 (by decide) (by omega) (by omega)
                            refine lv_iinc hx hb dX12_reckons_147 hl (k := 0) rfl ev85.symm (by decide) rfl (fun ls hl => ?_)
                            replace hl : lv_has ls 9 [(6, .int v85), (4, .long v36), (0, .ref h0), (1, .int p1), (2, .int p2), (3, .int p3)] := hl
                            refine lv_goto (tgt := 122) hx hb dX12_reckons_150 rfl ?_
                            exact ih41 H84 locs84 v85 ((z40 + 1)) ls (by omega) ev85i (by omega) (by omega) hC84 hS84 hKp84 hl
                    exact L122 _ H0 locs37 0 0 ls (Nat.lt_succ_self _) (by decide) (by omega) (by omega) hC0 hS37 hKp0 hl
                  · refine lv_iconst (v := 5) hx hb dX12_reckons_117 rfl ?_
                    have hpost : ((5 : Int32).toInt = 0 ∧ WGY a3 (sI H0 tm (a3 : Int).toNat).toInt a1 a2 (CBn (nMI na H0 a3))) ∨ ((5 : Int32).toInt ≠ 0 ∧ ¬ WGY a3 (sI H0 tm (a3 : Int).toNat).toInt a1 a2 (CBn (nMI na H0 a3))) := Or.inr ⟨by decide, fun h => by have h2 := h.2.2.2.2.2.2.2.2; omega⟩
                    have c86 : (5 : Int32).toInt = 5 := (by decide)
                    exact ret 5 H0 locs37 _ _ dX12_reckons_118 ⟨hKp0, ⟨by omega, by omega, hpost⟩⟩ hC0 hS37
                · refine lv_aload_n hx hb dX12_reckons_71 rfl (lv_at hl 2 rfl) ?_
                  refine lv_iload_n hx hb dX12_reckons_72 rfl (lv_at hl 5 rfl) ?_
                  refine lv_iload hx hb dX12_reckons_73 (lv_at hl 0 rfl) ?_
                  refine q_goJp (q_runV (As := [.int p3, .int v35]) (rest := []) E hC0 hS37 (m_X12_numberOf l X Γ H0 hC0 h0 g0 p3 (a1 := a3) e3 v35 (a2 := z35) ev35 ca gca uc tm ts gtm utm gts uts na gna una (by omega) (by omega) (by omega) (by omega)) cw_X12_numberOf cl_RX12_401 g0 ⟨rfl, rfl⟩ rfl hl.1 rfl (Nat.zero_le _) (by decide) dX12_reckons_75) hS37 (fun v87 locs87 hr87 hS87 => ?_)
                  have f87_0 := hr87
                  have hv1 : v87.toInt = nMI na H0 a3 (z35 : Int).toNat := congrArg Int64.toInt f87_0
                  refine lv_lconst (v := 0) hx hb dX12_reckons_78 rfl ?_
                  refine lv_ldc2 (v := 16) hx hb E.2.2.2.1 (E.2.2.2.2.1 _ w_1935) dX12_reckons_79 ?_
                  refine q_goIp (q_runS (As := [.long v87, .long 0, .long 16]) (rest := []) E hS87 (m_X12_isIn l X Γ H0 hC0 v87 (a0 := v87.toInt) rfl 0 (a1 := 0) (show (0 : Int64).toInt = 0 from by decide) 16 (a2 := 16) (show (16 : Int64).toInt = 16 from by decide)) cw_X12_isIn cl_RX12_104 rfl hl.1 rfl (Nat.zero_le _) (by decide) dX12_reckons_82) hS87 (fun v88 locs88 hr88 hS88 => ?_)
                  rcases hr88 with ⟨rfl, f88a0, f88a1⟩ | ⟨rfl, f88b⟩
                  · refine q_if_ne hx hb (a := 1) (by decide) (tgt := 90) dX12_reckons_85 rfl (fun c89 => ?_) (fun c89 => absurd c89 (by omega))
                    refine lv_lload hx hb dX12_reckons_90 (lv_at hl 1 rfl) ?_
                    refine lv_aload_n hx hb dX12_reckons_92 rfl (lv_at hl 2 rfl) ?_
                    refine lv_iload_n hx hb dX12_reckons_93 rfl (lv_at hl 5 rfl) ?_
                    refine lv_iload hx hb dX12_reckons_94 (lv_at hl 0 rfl) ?_
                    refine q_goJp (q_runV (As := [.int p3, .int v35]) (rest := [.long v36]) E hC0 hS88 (m_X12_numberOf l X Γ H0 hC0 h0 g0 p3 (a1 := a3) e3 v35 (a2 := z35) ev35 ca gca uc tm ts gtm utm gts uts na gna una (by omega) (by omega) (by omega) (by omega)) cw_X12_numberOf cl_RX12_401 g0 ⟨rfl, rfl⟩ rfl hl.1 rfl (show _ ≤ _ from by simp [Value.category]) (by decide) dX12_reckons_96) hS88 (fun v90 locs90 hr90 hS90 => ?_)
                    have f90_0 := hr90
                    have hv2 : v90.toInt = nMI na H0 a3 (z35 : Int).toNat := congrArg Int64.toInt f90_0
                    refine lv_ladd hx hb dX12_reckons_99 (lv_topl (fun v91 ev91 => ?_))
                    have ev91i : v91.toInt = (z36 + v90.toInt) := l_add ev91 ev36 rfl (by omega) (by omega)
                    refine lv_lstore hx hb dX12_reckons_100 hl (by decide) rfl (fun ls hl => ?_)
                    replace hl : lv_has ls 9 [(4, .long v91), (6, .int v35), (0, .ref h0), (1, .int p1), (2, .int p2), (3, .int p3)] := hl
                    have hsun := SU_step (n := nMI na H0 a3) (z := z35) (by omega) (by omega)
                    have halln : ∀ i : Nat, (i : Int) < z35 + 1 → 0 ≤ nMI na H0 a3 i ∧ nMI na H0 a3 i ≤ 16 := fun i hi => by by_cases e : i = (z35 : Int).toNat; (rw [e]; omega); exact hall i (by omega)
                    obtain ⟨v92, ev92⟩ : ∃ z, z = v35 + Int32.ofInt 1 := ⟨_, rfl⟩
                    have ev92i : v92.toInt = (z35 + 1) := i_add ev92 ev35 (by decide) (by omega) (by omega)
                    refine lv_iinc hx hb dX12_reckons_102 hl (k := 1) rfl ev92.symm (by decide) rfl (fun ls hl => ?_)
                    replace hl : lv_has ls 9 [(6, .int v92), (4, .long v91), (0, .ref h0), (1, .int p1), (2, .int p2), (3, .int p3)] := hl
                    refine lv_goto (tgt := 65) hx hb dX12_reckons_105 rfl ?_
                    exact ih37 locs90 v92 ((z35 + 1)) v91 ((z36 + v90.toInt)) ls (by omega) ev92i ev91i (by omega) (by omega) (by omega) (by omega) (by omega) (halln) hS90 hl
                  · refine q_if_ne hx hb (a := 0) (by decide) (tgt := 90) dX12_reckons_85 rfl (fun c93 => absurd c93 (by omega)) (fun c93 => ?_)
                    refine lv_iconst (v := 5) hx hb dX12_reckons_88 rfl ?_
                    have hpost : ((5 : Int32).toInt = 0 ∧ WGY a3 (sI H0 tm (a3 : Int).toNat).toInt a1 a2 (CBn (nMI na H0 a3))) ∨ ((5 : Int32).toInt ≠ 0 ∧ ¬ WGY a3 (sI H0 tm (a3 : Int).toNat).toInt a1 a2 (CBn (nMI na H0 a3))) := Or.inr ⟨by decide, fun h => by have h2 := h.2.2.2.2.2.2.2.1 (z35 : Int).toNat (by omega); omega⟩
                    have c94 : (5 : Int32).toInt = 5 := (by decide)
                    exact ret 5 H0 locs88 _ _ dX12_reckons_89 ⟨hKp0, ⟨by omega, by omega, hpost⟩⟩ hC0 hS88
            exact L65 _ locs33 0 0 0 0 ls (Nat.lt_succ_self _) (by decide) (show (0 : Int64).toInt = 0 from by decide) (by omega) (by omega) (by omega) (by omega) (SU_0.symm) (fun i hi => absurd hi (by omega)) hS33 hl
          · refine q_if_ne hx hb (a := 0) (by decide) (tgt := 59) dX12_reckons_54 rfl (fun c95 => absurd c95 (by omega)) (fun c95 => ?_)
            refine lv_iconst (v := 5) hx hb dX12_reckons_57 rfl ?_
            have hpost : ((5 : Int32).toInt = 0 ∧ WGY a3 (sI H0 tm (a3 : Int).toNat).toInt a1 a2 (CBn (nMI na H0 a3))) ∨ ((5 : Int32).toInt ≠ 0 ∧ ¬ WGY a3 (sI H0 tm (a3 : Int).toNat).toInt a1 a2 (CBn (nMI na H0 a3))) := Or.inr ⟨by decide, fun h => by obtain ⟨q1, q2, q3, q4, q5, q6, q7, -⟩ := h; omega⟩
            have c96 : (5 : Int32).toInt = 5 := (by decide)
            exact ret 5 H0 locs33 _ _ dX12_reckons_58 ⟨hKp0, ⟨by omega, by omega, hpost⟩⟩ hC0 hS33
        · refine q_if_eq hx hb (a := 0) (by decide) (tgt := 57) dX12_reckons_42 rfl (fun c97 => ?_) (fun c97 => absurd c97 (by omega))
          refine lv_iconst (v := 5) hx hb dX12_reckons_57 rfl ?_
          have hpost : ((5 : Int32).toInt = 0 ∧ WGY a3 (sI H0 tm (a3 : Int).toNat).toInt a1 a2 (CBn (nMI na H0 a3))) ∨ ((5 : Int32).toInt ≠ 0 ∧ ¬ WGY a3 (sI H0 tm (a3 : Int).toNat).toInt a1 a2 (CBn (nMI na H0 a3))) := Or.inr ⟨by decide, fun h => by obtain ⟨q1, q2, q3, q4, q5, q6, q7, -⟩ := h; omega⟩
          have c98 : (5 : Int32).toInt = 5 := (by decide)
          exact ret 5 H0 locs30 _ _ dX12_reckons_58 ⟨hKp0, ⟨by omega, by omega, hpost⟩⟩ hC0 hS30
      · refine lv_iconst (v := 4) hx hb dX12_reckons_31 rfl ?_
        have hpost : ((4 : Int32).toInt = 0 ∧ WGY a3 (sI H0 tm (a3 : Int).toNat).toInt a1 a2 (CBn (nMI na H0 a3))) ∨ ((4 : Int32).toInt ≠ 0 ∧ ¬ WGY a3 (sI H0 tm (a3 : Int).toNat).toInt a1 a2 (CBn (nMI na H0 a3))) := Or.inr ⟨by decide, fun h => by obtain ⟨q1, q2, q3, q4, q5, q6, q7, -⟩ := h; omega⟩
        have c99 : (4 : Int32).toInt = 4 := (by decide)
        exact ret 4 H0 locs21 _ _ dX12_reckons_32 ⟨hKp0, ⟨by omega, by omega, hpost⟩⟩ hC0 hS21
    · refine lv_iconst (v := 3) hx hb dX12_reckons_19 rfl ?_
      have hpost : ((3 : Int32).toInt = 0 ∧ WGY a3 (sI H0 tm (a3 : Int).toNat).toInt a1 a2 (CBn (nMI na H0 a3))) ∨ ((3 : Int32).toInt ≠ 0 ∧ ¬ WGY a3 (sI H0 tm (a3 : Int).toNat).toInt a1 a2 (CBn (nMI na H0 a3))) := Or.inr ⟨by decide, fun h => by obtain ⟨q1, q2, q3, q4, q5, q6, q7, -⟩ := h; omega⟩
      have c100 : (3 : Int32).toInt = 3 := (by decide)
      exact ret 3 H0 locs21 _ _ dX12_reckons_20 ⟨hKp0, ⟨by omega, by omega, hpost⟩⟩ hC0 hS21
  · refine q_if_ne hx hb (a := 0) (by decide) (tgt := 10) dX12_reckons_5 rfl (fun c101 => absurd c101 (by omega)) (fun c101 => ?_)
    refine lv_iconst (v := 1) hx hb dX12_reckons_8 rfl ?_
    have hpost : ((1 : Int32).toInt = 0 ∧ WGY a3 (sI H0 tm (a3 : Int).toNat).toInt a1 a2 (CBn (nMI na H0 a3))) ∨ ((1 : Int32).toInt ≠ 0 ∧ ¬ WGY a3 (sI H0 tm (a3 : Int).toNat).toInt a1 a2 (CBn (nMI na H0 a3))) := Or.inr ⟨by decide, fun h => by obtain ⟨q1, q2, q3, q4, q5, q6, q7, -⟩ := h; omega⟩
    have c102 : (1 : Int32).toInt = 1 := (by decide)
    exact ret 1 H0 locs21 _ _ dX12_reckons_9 ⟨hKp0, ⟨by omega, by omega, hpost⟩⟩ hC0 hS21
set_option maxRecDepth 100000 in
set_option maxHeartbeats 4000000 in
theorem m_X12_power (l : Launch) (X : xW) (Γ : Nat → Option Nat) (H0 : Heap) (hC0 : Conf X Γ H0) (p0 : Int32) {a0 : Int} (e0 : p0.toInt = a0) (r0 : 0 ≤ a0) (r1 : a0 ≤ 8) : Ctr l X Γ yX12_power cX12_power 4 (some .long) 0 [.int p0] H0 (QJ X Γ (fun v H1 => H1 = H0 ∧ ((1 ≤ v.toInt)))) := by
  refine q_enterJ (own := "SnowFortsModel") (by decide) rfl (Nat.le_of_ble_eq_true rfl) ?_
  intro p e s m args below meth c ls Qz E hl ret hS0
  have hx := E.1; have hb := E.2.1
  have hl : lv_has ls 4 [(0, .int p0)] := hl
  refine lv_lconst (v := 1) hx hb dX12_power_0 rfl ?_
  refine lv_lstore_n hx hb dX12_power_1 rfl hl (by decide) rfl (fun ls hl => ?_)
  replace hl : lv_has ls 4 [(1, .long 1), (0, .int p0)] := hl
  refine lv_iconst (v := 0) hx hb dX12_power_2 rfl ?_
  refine lv_istore_n hx hb dX12_power_3 rfl hl (by decide) rfl (fun ls hl => ?_)
  replace hl : lv_has ls 4 [(3, .int 0), (1, .long 1), (0, .int p0)] := hl
  have L4 : ∀ (n23 : Nat) (locs23 : List Loc) (v21 : Int32) (z21 : Int) (v22 : Int64) (z22 : Int) (ls : Array Slot), (a0 - z21).toNat < n23 → v21.toInt = z21 → v22.toInt = z22 → 0 ≤ z21 → 1 ≤ z22 → z22 ≤ pwr z21 → z21 ≤ a0 → va_S (AΓ Γ) H0 H0 locs23 → lv_has ls 4 [(3, .int v21), (1, .long v22), (0, .int p0)] → W p l e (rmL 0) s m args below meth c H0 locs23 0 0 Qz (F0 m 4 ls []) := by
    intro n23
    induction n23 with
    | zero => intro locs23 v21 z21 v22 z22 ls hm23 ev21 ev22 iv23_0 iv23_1 iv23_2 iv23_3 hS23 hl; exact absurd hm23 (Nat.not_lt_zero _)
    | succ n23 ih23 =>
      intro locs23 v21 z21 v22 z22 ls hm23 ev21 ev22 iv23_0 iv23_1 iv23_2 iv23_3 hS23 hl
      have hpw : pwr z21 ≤ 4294967296 := pwr_le (by omega) (by omega)
      refine lv_iload_n hx hb dX12_power_4 rfl (lv_at hl 0 rfl) ?_
      refine lv_iload_n hx hb dX12_power_5 rfl (lv_at hl 2 rfl) ?_
      refine q_icmp_ge hx hb (a := z21) (b := a0) ev21 e0 (tgt := 21) dX12_power_6 rfl (fun c24 => ?_) (fun c24 => ?_)
      · refine lv_lload_n hx hb dX12_power_21 rfl (lv_at hl 1 rfl) ?_
        exact ret v22 H0 locs23 _ _ dX12_power_22 ⟨rfl, by omega⟩ hC0 hS23
      · refine lv_lload_n hx hb dX12_power_9 rfl (lv_at hl 1 rfl) ?_
        refine lv_ldc2 (v := 16) hx hb E.2.2.2.1 (E.2.2.2.2.1 _ w_1935) dX12_power_10 ?_
        refine lv_lmul hx hb dX12_power_13 (lv_topl (fun v25 ev25 => ?_))
        have ev25i : v25.toInt = (z22 * 16) := l_mul ev25 ev22 (show (16 : Int64).toInt = 16 from by decide) (by omega) (by omega)
        refine lv_lstore_n hx hb dX12_power_14 rfl hl (by decide) rfl (fun ls hl => ?_)
        replace hl : lv_has ls 4 [(1, .long v25), (3, .int v21), (0, .int p0)] := hl
        obtain ⟨v26, ev26⟩ : ∃ z, z = v21 + Int32.ofInt 1 := ⟨_, rfl⟩
        have ev26i : v26.toInt = (z21 + 1) := i_add ev26 ev21 (by decide) (by omega) (by omega)
        refine lv_iinc hx hb dX12_power_15 hl (k := 1) rfl ev26.symm (by decide) rfl (fun ls hl => ?_)
        replace hl : lv_has ls 4 [(3, .int v26), (1, .long v25), (0, .int p0)] := hl
        refine lv_goto (tgt := 4) hx hb dX12_power_18 rfl ?_
        exact ih23 locs23 v26 ((z21 + 1)) v25 ((z22 * 16)) ls (by omega) ev26i ev25i (by omega) (by omega) (pwr_step (by omega) (by omega)) (by omega) hS23 hl
  exact L4 _ [] 0 0 1 1 ls (Nat.lt_succ_self _) (by decide) (show (1 : Int64).toInt = 1 from by decide) (by omega) (by omega) (by decide) (by omega) hS0 hl
set_option maxRecDepth 100000 in
set_option maxHeartbeats 4000000 in
theorem m_X12_fraction (l : Launch) (X : xW) (Γ : Nat → Option Nat) (H0 : Heap) (hC0 : Conf X Γ H0) (h0 : Nat) (g0 : Γ h0 = some 11) (p1 : Int64) {a1 : Int} (e1 : p1.toInt = a1) (p2 : Int64) {a2 : Int} (e2 : p2.toInt = a2) (ca : Nat) (gca : Γ ca = some 64) (uc : ∀ a, Γ a = some 64 → a = ca) (r0 : 1 ≤ a2) : Ctr l X Γ yX12_fraction cX12_fraction 11 (some .boolean) 1 [.ref h0, .long p1, .long p2] H0 (QI X Γ (fun v H1 => Kp X Γ [1, 6, 7, 8, 9, 10, 11, 12, 14, 15, 16, 17, 19, 22, 24, 26, 28] H0 H1 ∧ ((v = 1 ∧ (True)) ∨ (v = 0 ∧ ((0 : Int) = 1))))) := by
  refine q_enterZ (own := "SnowFortsModel") (by decide) rfl (Nat.le_of_ble_eq_true rfl) ?_
  intro p e s m args below meth c ls Qz E hl ret hS0
  have hx := E.1; have hb := E.2.1
  have hKp0 : Kp X Γ [1, 6, 7, 8, 9, 10, 11, 12, 14, 15, 16, 17, 19, 22, 24, 26, 28] H0 H0 := Kp.rf
  have hl : lv_has ls 11 [(0, .ref h0), (1, .long p1), (3, .long p2)] := hl
  refine lv_lload_n hx hb dX12_fraction_0 rfl (lv_at hl 1 rfl) ?_
  refine q_mabsJ E hl.1 w_1943 mathw_absJ (by decide) (Nat.zero_le _) dX12_fraction_1 (fun v21 => ?_)
  refine lv_lstore hx hb dX12_fraction_4 hl (by decide) rfl (fun ls hl => ?_)
  replace hl : lv_has ls 11 [(5, .long v21), (0, .ref h0), (1, .long p1), (3, .long p2)] := hl
  refine lv_lload_n hx hb dX12_fraction_6 rfl (lv_at hl 3 rfl) ?_
  refine lv_lstore hx hb dX12_fraction_7 hl (by decide) rfl (fun ls hl => ?_)
  replace hl : lv_has ls 11 [(7, .long p2), (5, .long v21), (0, .ref h0), (1, .long p1), (3, .long p2)] := hl
  have L9 : ∀ (n24 : Nat) (locs24 : List Loc) (v22 : Int64) (z22 : Int) (v23 : Int64) (z23 : Int) (ls : Array Slot), z22.natAbs < n24 → v22.toInt = z22 → v23.toInt = z23 → z22 ≠ 0 ∨ z23 ≠ 0 → va_S (AΓ Γ) H0 H0 locs24 → lv_has ls 11 [(7, .long v22), (5, .long v23), (0, .ref h0), (1, .long p1), (3, .long p2)] → W p l e (rmL 1) s m args below meth c H0 locs24 0 0 Qz (F0 m 9 ls []) := by
    intro n24
    induction n24 with
    | zero => intro locs24 v22 z22 v23 z23 ls hm24 ev22 ev23 iv24_0 hS24 hl; exact absurd hm24 (Nat.not_lt_zero _)
    | succ n24 ih24 =>
      intro locs24 v22 z22 v23 z23 ls hm24 ev22 ev23 iv24_0 hS24 hl
      refine lv_lload hx hb dX12_fraction_9 (lv_at hl 0 rfl) ?_
      refine lv_lconst (v := 0) hx hb dX12_fraction_11 rfl ?_
      refine q_lcmp_eq hx hb (a := z22) (b := 0) ev22 (show (0 : Int64).toInt = 0 from by decide) (tgt := 34) dX12_fraction_12 dX12_fraction_13 rfl (fun c25 => ?_) (fun c25 => ?_)
      · refine lv_aload_n hx hb dX12_fraction_34 rfl (lv_at hl 2 rfl) ?_
        refine lv_lload_n hx hb dX12_fraction_35 rfl (lv_at hl 3 rfl) ?_
        refine lv_lload hx hb dX12_fraction_36 (lv_at hl 1 rfl) ?_
        refine lv_ldiv hx hb dX12_fraction_38 (l_nz ev23 (by omega)) (lv_topl (fun v26 ev26 => ?_))
        refine q_put E hC0 hS24 g0 fp_RX12_75 tv_J rfl rfl dX12_fraction_39 (fun H27 locs27 hC27 hS27 U27 => ?_)
        have hKp27 := Kp.upO E g0 fp_RX12_75 rfl U27 hKp0
        refine lv_aload_n hx hb dX12_fraction_42 rfl (lv_at hl 2 rfl) ?_
        refine lv_lload_n hx hb dX12_fraction_43 rfl (lv_at hl 4 rfl) ?_
        refine lv_lload hx hb dX12_fraction_44 (lv_at hl 1 rfl) ?_
        refine lv_ldiv hx hb dX12_fraction_46 (l_nz ev23 (by omega)) (lv_topl (fun v28 ev28 => ?_))
        refine q_put E hC27 hS27 g0 fp_RX12_7 tv_J rfl rfl dX12_fraction_47 (fun H29 locs29 hC29 hS29 U29 => ?_)
        have hKp29 := Kp.upO E g0 fp_RX12_7 rfl U29 hKp27
        refine lv_iconst (v := 1) hx hb dX12_fraction_50 rfl ?_
        exact ret 1 H29 locs29 _ _ dX12_fraction_51 (Or.inr rfl) ⟨hKp29, Or.inl ⟨rfl, trivial⟩⟩ hC29 hS29
      · refine lv_lload hx hb dX12_fraction_16 (lv_at hl 1 rfl) ?_
        refine lv_lload hx hb dX12_fraction_18 (lv_at hl 0 rfl) ?_
        refine lv_lrem hx hb dX12_fraction_20 (l_nz ev22 (by omega)) (lv_topl (fun v30 ev30 => ?_))
        have bv30 := l_remB ev30 ev23 ev22 (by omega)
        refine lv_lstore hx hb dX12_fraction_21 hl (by decide) rfl (fun ls hl => ?_)
        replace hl : lv_has ls 11 [(9, .long v30), (7, .long v22), (5, .long v23), (0, .ref h0), (1, .long p1), (3, .long p2)] := hl
        refine lv_lload hx hb dX12_fraction_23 (lv_at hl 1 rfl) ?_
        refine lv_lstore hx hb dX12_fraction_25 hl (by decide) rfl (fun ls hl => ?_)
        replace hl : lv_has ls 11 [(5, .long v22), (9, .long v30), (7, .long v22), (0, .ref h0), (1, .long p1), (3, .long p2)] := hl
        refine lv_lload hx hb dX12_fraction_27 (lv_at hl 1 rfl) ?_
        refine lv_lstore hx hb dX12_fraction_29 hl (by decide) rfl (fun ls hl => ?_)
        replace hl : lv_has ls 11 [(7, .long v30), (5, .long v22), (9, .long v30), (0, .ref h0), (1, .long p1), (3, .long p2)] := hl
        refine lv_goto (tgt := 9) hx hb dX12_fraction_31 rfl ?_
        exact ih24 locs24 v30 (v30.toInt) v22 (z22) ls (by omega) rfl ev22 (by omega) hS24 (lv_sub hl [0, 1, 3, 4, 5] rfl)
  exact L9 _ [] p2 a2 v21 v21.toInt ls (Nat.lt_succ_self _) e2 rfl (by omega) hS0 hl
set_option maxRecDepth 100000 in
set_option maxHeartbeats 4000000 in
theorem m_X12_stands (l : Launch) (X : xW) (Γ : Nat → Option Nat) (H0 : Heap) (hC0 : Conf X Γ H0) (h0 : Nat) (g0 : Γ h0 = some 11) (p1 : Int32) {a1 : Int} (e1 : p1.toInt = a1) (p2 : Int32) {a2 : Int} (e2 : p2.toInt = a2) (p3 : Int32) {a3 : Int} (e3 : p3.toInt = a3) (ca : Nat) (gca : Γ ca = some 64) (uc : ∀ a, Γ a = some 64 → a = ca) (tm ts : Nat) (gtm : Γ tm = some 61) (utm : ∀ a, Γ a = some 61 → a = tm) (gts : Γ ts = some 60) (uts : ∀ a, Γ a = some 60 → a = ts) (na : Nat) (gna : Γ na = some 62) (una : ∀ a, Γ a = some 62 → a = na) : Ctr l X Γ yX12_stands cX12_stands 4 (some .boolean) 3 [.ref h0, .int p1, .int p2, .int p3] H0 (QI X Γ (fun v H1 => Kp X Γ [1, 6, 7, 8, 9, 10, 11, 12, 14, 15, 16, 17, 19, 22, 24, 26, 28] H0 H1 ∧ ((v = 1 ∧ (WGY a3 (sI H0 tm (a3 : Int).toNat).toInt a1 a2 (CBn (nMI na H0 a3)))) ∨ (v = 0 ∧ (¬ WGY a3 (sI H0 tm (a3 : Int).toNat).toInt a1 a2 (CBn (nMI na H0 a3))))))) := by
  refine q_enterZ (own := "SnowFortsModel") (by decide) rfl (Nat.le_of_ble_eq_true rfl) ?_
  intro p e s m args below meth c ls Qz E hl ret hS0
  have hx := E.1; have hb := E.2.1
  have hKp0 : Kp X Γ [1, 6, 7, 8, 9, 10, 11, 12, 14, 15, 16, 17, 19, 22, 24, 26, 28] H0 H0 := Kp.rf
  have hl : lv_has ls 4 [(0, .ref h0), (1, .int p1), (2, .int p2), (3, .int p3)] := hl
  have tmm : TMm tm ts H0 H0 := TMm.rf
  have nms : NSm (nM na H0) (nM na H0) := NSm.rf
  refine lv_aload_n hx hb dX12_stands_0 rfl (lv_at hl 0 rfl) ?_
  refine lv_iconst (v := 0) hx hb dX12_stands_1 rfl ?_
  refine q_put E hC0 hS0 g0 fp_RX12_69 tv_F rfl rfl dX12_stands_2 (fun H21 locs21 hC21 hS21 U21 => ?_)
  have hKp21 := Kp.upO E g0 fp_RX12_69 rfl U21 hKp0
  have e22 := up_I U21
  replace tmm : TMm tm ts H0 H21 := TMm.ne tmm U21 (nek g0 gtm (by decide)) (nek g0 gts (by decide))
  replace nms : NSm (nM na H0) (nM na H21) := nM_ne nms U21 (nek g0 gna (by decide))
  have hwg0 : WGY a3 (sI H21 tm (a3 : Int).toNat).toInt a1 a2 (CBn (nMI na H21 a3)) ↔ WGY a3 (sI H0 tm (a3 : Int).toNat).toInt a1 a2 (CBn (nMI na H0 a3)) := WGY.iff (fun q1 q2 => by have tq := tmm (a3 : Int).toNat; omega) (fun q1 q2 _ => CBn.iff fun i hi => congrArg Int64.toInt (nms (a3 : Int).toNat i (by omega) (by omega)))
  refine lv_aload_n hx hb dX12_stands_5 rfl (lv_at hl 0 rfl) ?_
  refine lv_aload_n hx hb dX12_stands_6 rfl (lv_at hl 0 rfl) ?_
  refine lv_iload_n hx hb dX12_stands_7 rfl (lv_at hl 1 rfl) ?_
  refine lv_iload_n hx hb dX12_stands_8 rfl (lv_at hl 2 rfl) ?_
  refine lv_iload_n hx hb dX12_stands_9 rfl (lv_at hl 3 rfl) ?_
  refine q_goI (q_runV (As := [.int p1, .int p2, .int p3]) (rest := [.ref h0]) E hC21 hS21 (m_X12_reckons l X Γ H21 hC21 h0 g0 p1 (a1 := a1) e1 p2 (a2 := a2) e2 p3 (a3 := a3) e3 ca gca uc tm ts gtm utm gts uts na gna una) cw_X12_reckons cl_RX12_426 g0 ⟨rfl, rfl⟩ rfl hl.1 rfl (show _ ≤ _ from by simp [Value.category]) (by decide) dX12_stands_10) hS21 (fun v23 H23 locs23 hr23 hC23 hS23 => ?_)
  obtain ⟨hp23, hr23⟩ := hr23
  have hKp23 := hKp21.tr (hp23.mono rfl)
  replace tmm : TMm tm ts H0 H23 := TMm.kp tmm hp23 gtm gts rfl
  replace nms : NSm (nM na H0) (nM na H23) := nM_kp nms hp23 gna rfl
  obtain ⟨f23_0, f23_1, f23_2⟩ := hr23
  have hwg := f23_2
  rw [hwg0] at hwg
  refine q_put E hC23 hS23 g0 fp_RX12_72 tv_F rfl rfl dX12_stands_13 (fun H24 locs24 hC24 hS24 U24 => ?_)
  have hKp24 := Kp.upO E g0 fp_RX12_72 rfl U24 hKp23
  have e25 := up_I U24
  replace tmm : TMm tm ts H0 H24 := TMm.ne tmm U24 (nek g0 gtm (by decide)) (nek g0 gts (by decide))
  replace nms : NSm (nM na H0) (nM na H24) := nM_ne nms U24 (nek g0 gna (by decide))
  refine lv_aload_n hx hb dX12_stands_16 rfl (lv_at hl 0 rfl) ?_
  refine q_getI E hC24 g0 fa_RX12_72 dX12_stands_17 (fun v26 ev26 _ _ => ?_)
  have qv26 := e25.symm.trans ev26; subst qv26
  refine q_if_le hx hb (a := v23.toInt) rfl (tgt := 25) dX12_stands_20 rfl (fun c27 => ?_) (fun c27 => ?_)
  · refine lv_aload_n hx hb dX12_stands_25 rfl (lv_at hl 0 rfl) ?_
    refine lv_iload_n hx hb dX12_stands_26 rfl (lv_at hl 2 rfl) ?_
    refine q_goJp (q_runS (As := [.int p2]) (rest := [.ref h0]) E hS24 (m_X12_power l X Γ H24 hC24 p2 (a0 := a2) e2 (by omega) (by omega)) cw_X12_power cl_RX12_429 rfl hl.1 rfl (show _ ≤ _ from by simp [Value.category]) (by decide) dX12_stands_27) hS24 (fun v28 locs28 hr28 hS28 => ?_)
    have f28_0 := hr28
    refine lv_aload_n hx hb dX12_stands_30 rfl (lv_at hl 0 rfl) ?_
    refine q_getR E hC24 g0 fa_RX12_60 dX12_stands_31 (fun q29 eq29 gq29 => ?_)
    refine lv_iconst (v := 0) hx hb dX12_stands_34 rfl ?_
    refine q_lald2 E hC24 gq29 rfl rfl (fun _ => rfl) (a := 0) (show (0 : Int32).toInt = 0 from by decide) (by omega) (by omega) dX12_stands_35 (fun v30 ev30 => ?_)
    refine lv_lsub hx hb dX12_stands_36 (lv_topl (fun v31 ev31 => ?_))
    refine lv_iload_n hx hb dX12_stands_37 rfl (lv_at hl 2 rfl) ?_
    refine q_goJp (q_runS (As := [.int p2]) (rest := [.long v31, .ref h0]) E hS28 (m_X12_power l X Γ H24 hC24 p2 (a0 := a2) e2 (by omega) (by omega)) cw_X12_power cl_RX12_429 rfl hl.1 rfl (show _ ≤ _ from by simp [Value.category]) (by decide) dX12_stands_38) hS28 (fun v32 locs32 hr32 hS32 => ?_)
    have f32_0 := hr32
    refine q_goI (q_runV (As := [.long v31, .long v32]) (rest := []) E hC24 hS32 (m_X12_fraction l X Γ H24 hC24 h0 g0 v31 (a1 := v31.toInt) rfl v32 (a2 := v32.toInt) rfl ca gca uc (by omega)) cw_X12_fraction cl_RX12_433 g0 ⟨rfl, rfl⟩ rfl hl.1 rfl (Nat.zero_le _) (by decide) dX12_stands_41) hS32 (fun v33 H33 locs33 hr33 hC33 hS33 => ?_)
    obtain ⟨hp33, hr33⟩ := hr33
    have hKp33 := hKp24.tr (hp33.mono rfl)
    replace tmm : TMm tm ts H0 H33 := TMm.kp tmm hp33 gtm gts rfl
    replace nms : NSm (nM na H0) (nM na H33) := nM_kp nms hp33 gna rfl
    rcases hr33 with ⟨rfl, -⟩ | ⟨rfl, f33b⟩
    · have hya : WGY a3 (sI H0 tm (a3 : Int).toNat).toInt a1 a2 (CBn (nMI na H0 a3)) := by (rcases hwg with ⟨h, hh⟩ | ⟨h, hh⟩ <;> first | exact hh | (exfalso; omega))
      exact ret 1 H33 locs33 _ _ dX12_stands_44 (Or.inr rfl) ⟨hKp33, Or.inl ⟨rfl, hya⟩⟩ hC33 hS33
    · exact absurd f33b (by decide)
  · refine lv_iconst (v := 0) hx hb dX12_stands_23 rfl ?_
    have hnb : ¬ WGY a3 (sI H0 tm (a3 : Int).toNat).toInt a1 a2 (CBn (nMI na H0 a3)) := by (rcases hwg with ⟨h, hh⟩ | ⟨h, hh⟩ <;> first | exact hh | (exfalso; omega))
    exact ret 0 H24 locs24 _ _ dX12_stands_24 (Or.inl rfl) ⟨hKp24, Or.inr ⟨rfl, hnb⟩⟩ hC24 hS24
set_option maxRecDepth 100000 in
set_option maxHeartbeats 4000000 in
theorem m_X12_mean (l : Launch) (X : xW) (Γ : Nat → Option Nat) (H0 : Heap) (hC0 : Conf X Γ H0) (h0 : Nat) (g0 : Γ h0 = some 11) (p1 : Int32) {a1 : Int} (e1 : p1.toInt = a1) (p2 : Int32) {a2 : Int} (e2 : p2.toInt = a2) (p3 : Int32) {a3 : Int} (e3 : p3.toInt = a3) (ca : Nat) (gca : Γ ca = some 64) (uc : ∀ a, Γ a = some 64 → a = ca) (tm ts : Nat) (gtm : Γ tm = some 61) (utm : ∀ a, Γ a = some 61 → a = tm) (gts : Γ ts = some 60) (uts : ∀ a, Γ a = some 60 → a = ts) (na : Nat) (gna : Γ na = some 62) (una : ∀ a, Γ a = some 62 → a = na) : Ctr l X Γ yX12_mean cX12_mean 7 (some .boolean) 3 [.ref h0, .int p1, .int p2, .int p3] H0 (QI X Γ (fun v H1 => Kp X Γ [1, 6, 7, 8, 9, 10, 11, 12, 14, 15, 16, 17, 19, 22, 24, 26, 28] H0 H1 ∧ ((v = 1 ∧ (WGY a3 (sI H0 tm (a3 : Int).toNat).toInt a1 a2 (CBn (nMI na H0 a3)))) ∨ (v = 0 ∧ (¬ WGY a3 (sI H0 tm (a3 : Int).toNat).toInt a1 a2 (CBn (nMI na H0 a3))))))) := by
  refine q_enterZ (own := "SnowFortsModel") (by decide) rfl (Nat.le_of_ble_eq_true rfl) ?_
  intro p e s m args below meth c ls Qz E hl ret hS0
  have hx := E.1; have hb := E.2.1
  have hKp0 : Kp X Γ [1, 6, 7, 8, 9, 10, 11, 12, 14, 15, 16, 17, 19, 22, 24, 26, 28] H0 H0 := Kp.rf
  have hl : lv_has ls 7 [(0, .ref h0), (1, .int p1), (2, .int p2), (3, .int p3)] := hl
  have tmm : TMm tm ts H0 H0 := TMm.rf
  have nms : NSm (nM na H0) (nM na H0) := NSm.rf
  refine lv_aload_n hx hb dX12_mean_0 rfl (lv_at hl 0 rfl) ?_
  refine lv_iconst (v := 0) hx hb dX12_mean_1 rfl ?_
  refine q_put E hC0 hS0 g0 fp_RX12_69 tv_F rfl rfl dX12_mean_2 (fun H21 locs21 hC21 hS21 U21 => ?_)
  have hKp21 := Kp.upO E g0 fp_RX12_69 rfl U21 hKp0
  have e22 := up_I U21
  replace tmm : TMm tm ts H0 H21 := TMm.ne tmm U21 (nek g0 gtm (by decide)) (nek g0 gts (by decide))
  replace nms : NSm (nM na H0) (nM na H21) := nM_ne nms U21 (nek g0 gna (by decide))
  have hwg0 : WGY a3 (sI H21 tm (a3 : Int).toNat).toInt a1 a2 (CBn (nMI na H21 a3)) ↔ WGY a3 (sI H0 tm (a3 : Int).toNat).toInt a1 a2 (CBn (nMI na H0 a3)) := WGY.iff (fun q1 q2 => by have tq := tmm (a3 : Int).toNat; omega) (fun q1 q2 _ => CBn.iff fun i hi => congrArg Int64.toInt (nms (a3 : Int).toNat i (by omega) (by omega)))
  refine lv_aload_n hx hb dX12_mean_5 rfl (lv_at hl 0 rfl) ?_
  refine lv_aload_n hx hb dX12_mean_6 rfl (lv_at hl 0 rfl) ?_
  refine lv_iload_n hx hb dX12_mean_7 rfl (lv_at hl 1 rfl) ?_
  refine lv_iload_n hx hb dX12_mean_8 rfl (lv_at hl 2 rfl) ?_
  refine lv_iload_n hx hb dX12_mean_9 rfl (lv_at hl 3 rfl) ?_
  refine q_goI (q_runV (As := [.int p1, .int p2, .int p3]) (rest := [.ref h0]) E hC21 hS21 (m_X12_reckons l X Γ H21 hC21 h0 g0 p1 (a1 := a1) e1 p2 (a2 := a2) e2 p3 (a3 := a3) e3 ca gca uc tm ts gtm utm gts uts na gna una) cw_X12_reckons cl_RX12_426 g0 ⟨rfl, rfl⟩ rfl hl.1 rfl (show _ ≤ _ from by simp [Value.category]) (by decide) dX12_mean_10) hS21 (fun v23 H23 locs23 hr23 hC23 hS23 => ?_)
  obtain ⟨hp23, hr23⟩ := hr23
  have hKp23 := hKp21.tr (hp23.mono rfl)
  replace tmm : TMm tm ts H0 H23 := TMm.kp tmm hp23 gtm gts rfl
  replace nms : NSm (nM na H0) (nM na H23) := nM_kp nms hp23 gna rfl
  obtain ⟨f23_0, f23_1, f23_2⟩ := hr23
  have hwg := f23_2
  rw [hwg0] at hwg
  refine q_put E hC23 hS23 g0 fp_RX12_72 tv_F rfl rfl dX12_mean_13 (fun H24 locs24 hC24 hS24 U24 => ?_)
  have hKp24 := Kp.upO E g0 fp_RX12_72 rfl U24 hKp23
  have e25 := up_I U24
  replace tmm : TMm tm ts H0 H24 := TMm.ne tmm U24 (nek g0 gtm (by decide)) (nek g0 gts (by decide))
  replace nms : NSm (nM na H0) (nM na H24) := nM_ne nms U24 (nek g0 gna (by decide))
  refine lv_aload_n hx hb dX12_mean_16 rfl (lv_at hl 0 rfl) ?_
  refine q_getI E hC24 g0 fa_RX12_72 dX12_mean_17 (fun v26 ev26 _ _ => ?_)
  have qv26 := e25.symm.trans ev26; subst qv26
  refine q_if_le hx hb (a := v23.toInt) rfl (tgt := 25) dX12_mean_20 rfl (fun c27 => ?_) (fun c27 => ?_)
  · refine lv_lconst (v := 0) hx hb dX12_mean_25 rfl ?_
    refine lv_lstore hx hb dX12_mean_26 hl (by decide) rfl (fun ls hl => ?_)
    replace hl : lv_has ls 7 [(4, .long 0), (0, .ref h0), (1, .int p1), (2, .int p2), (3, .int p3)] := hl
    refine lv_iconst (v := 0) hx hb dX12_mean_28 rfl ?_
    refine lv_istore hx hb dX12_mean_29 hl (by decide) rfl (fun ls hl => ?_)
    replace hl : lv_has ls 7 [(6, .int 0), (4, .long 0), (0, .ref h0), (1, .int p1), (2, .int p2), (3, .int p3)] := hl
    have L31 : ∀ (n30 : Nat) (locs30 : List Loc) (v28 : Int32) (z28 : Int) (v29 : Int64) (z29 : Int) (ls : Array Slot), (100 - z28).toNat < n30 → v28.toInt = z28 → v29.toInt = z29 → z28 ≤ 100 → 0 ≤ z28 → va_S (AΓ Γ) H0 H24 locs30 → lv_has ls 7 [(6, .int v28), (4, .long v29), (0, .ref h0), (1, .int p1), (2, .int p2), (3, .int p3)] → W p l e (rmL 3) s m args below meth c H24 locs30 0 0 Qz (F0 m 31 ls []) := by
      intro n30
      induction n30 with
      | zero => intro locs30 v28 z28 v29 z29 ls hm30 ev28 ev29 iv30_0 iv30_1 hS30 hl; exact absurd hm30 (Nat.not_lt_zero _)
      | succ n30 ih30 =>
        intro locs30 v28 z28 v29 z29 ls hm30 ev28 ev29 iv30_0 iv30_1 hS30 hl
        refine lv_iload hx hb dX12_mean_31 (lv_at hl 0 rfl) ?_
        refine lv_bipush (v := 100) hx hb dX12_mean_33 rfl ?_
        refine q_icmp_ge hx hb (a := z28) (b := 100) ev28 (by decide) (tgt := 60) dX12_mean_35 rfl (fun c31 => ?_) (fun c31 => ?_)
        · refine lv_aload_n hx hb dX12_mean_60 rfl (lv_at hl 2 rfl) ?_
          refine lv_lload hx hb dX12_mean_61 (lv_at hl 1 rfl) ?_
          refine lv_iload_n hx hb dX12_mean_63 rfl (lv_at hl 4 rfl) ?_
          refine q_goJp (q_runS (As := [.int p2]) (rest := [.long v29, .ref h0]) E hS30 (m_X12_power l X Γ H24 hC24 p2 (a0 := a2) e2 (by omega) (by omega)) cw_X12_power cl_RX12_429 rfl hl.1 rfl (show _ ≤ _ from by simp [Value.category]) (by decide) dX12_mean_64) hS30 (fun v32 locs32 hr32 hS32 => ?_)
          have f32_0 := hr32
          refine q_goI (q_runV (As := [.long v29, .long v32]) (rest := []) E hC24 hS32 (m_X12_fraction l X Γ H24 hC24 h0 g0 v29 (a1 := z29) ev29 v32 (a2 := v32.toInt) rfl ca gca uc (by omega)) cw_X12_fraction cl_RX12_433 g0 ⟨rfl, rfl⟩ rfl hl.1 rfl (Nat.zero_le _) (by decide) dX12_mean_67) hS32 (fun v33 H33 locs33 hr33 hC33 hS33 => ?_)
          obtain ⟨hp33, hr33⟩ := hr33
          have hKp33 := hKp24.tr (hp33.mono rfl)
          replace tmm : TMm tm ts H0 H33 := TMm.kp tmm hp33 gtm gts rfl
          replace nms : NSm (nM na H0) (nM na H33) := nM_kp nms hp33 gna rfl
          rcases hr33 with ⟨rfl, -⟩ | ⟨rfl, f33b⟩
          · have hya : WGY a3 (sI H0 tm (a3 : Int).toNat).toInt a1 a2 (CBn (nMI na H0 a3)) := by (rcases hwg with ⟨h, hh⟩ | ⟨h, hh⟩ <;> first | exact hh | (exfalso; omega))
            exact ret 1 H33 locs33 _ _ dX12_mean_70 (Or.inr rfl) ⟨hKp33, Or.inl ⟨rfl, hya⟩⟩ hC33 hS33
          · exact absurd f33b (by decide)
        · refine lv_lload hx hb dX12_mean_38 (lv_at hl 1 rfl) ?_
          refine lv_iload hx hb dX12_mean_40 (lv_at hl 0 rfl) ?_
          refine lv_i2l (v := v28.toInt64) hx hb dX12_mean_42 rfl (lv_topl (fun v34 ev34 => ?_))
          have ev34i : v34.toInt = z28 := l_ofi ev34.symm ev28
          refine lv_aload_n hx hb dX12_mean_43 rfl (lv_at hl 2 rfl) ?_
          refine q_getR E hC24 g0 fa_RX12_60 dX12_mean_44 (fun q35 eq35 gq35 => ?_)
          refine lv_iload hx hb dX12_mean_47 (lv_at hl 0 rfl) ?_
          refine q_lald2 E hC24 gq35 rfl rfl (fun _ => rfl) (a := z28) ev28 (by omega) (by omega) dX12_mean_49 (fun v36 ev36 => ?_)
          refine lv_lmul hx hb dX12_mean_50 (lv_topl (fun v37 ev37 => ?_))
          refine lv_ladd hx hb dX12_mean_51 (lv_topl (fun v38 ev38 => ?_))
          refine lv_lstore hx hb dX12_mean_52 hl (by decide) rfl (fun ls hl => ?_)
          replace hl : lv_has ls 7 [(4, .long v38), (6, .int v28), (0, .ref h0), (1, .int p1), (2, .int p2), (3, .int p3)] := hl
          obtain ⟨v39, ev39⟩ : ∃ z, z = v28 + Int32.ofInt 1 := ⟨_, rfl⟩
          have ev39i : v39.toInt = (z28 + 1) := i_add ev39 ev28 (by decide) (by omega) (by omega)
          refine lv_iinc hx hb dX12_mean_54 hl (k := 1) rfl ev39.symm (by decide) rfl (fun ls hl => ?_)
          replace hl : lv_has ls 7 [(6, .int v39), (4, .long v38), (0, .ref h0), (1, .int p1), (2, .int p2), (3, .int p3)] := hl
          refine lv_goto (tgt := 31) hx hb dX12_mean_57 rfl ?_
          exact ih30 locs30 v39 ((z28 + 1)) v38 (v38.toInt) ls (by omega) ev39i rfl (by omega) (by omega) hS30 hl
    exact L31 _ locs24 0 0 0 0 ls (Nat.lt_succ_self _) (by decide) (show (0 : Int64).toInt = 0 from by decide) (by omega) (by omega) hS24 hl
  · refine lv_iconst (v := 0) hx hb dX12_mean_23 rfl ?_
    have hnb : ¬ WGY a3 (sI H0 tm (a3 : Int).toNat).toInt a1 a2 (CBn (nMI na H0 a3)) := by (rcases hwg with ⟨h, hh⟩ | ⟨h, hh⟩ <;> first | exact hh | (exfalso; omega))
    exact ret 0 H24 locs24 _ _ dX12_mean_24 (Or.inl rfl) ⟨hKp24, Or.inr ⟨rfl, hnb⟩⟩ hC24 hS24
