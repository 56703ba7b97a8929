set_option maxRecDepth 100000 in
set_option maxHeartbeats 4000000 in
theorem m_X11_steal (l : Launch) (X : xW) (Γ : Nat → Option Nat) (H0 : Heap) (hC0 : Conf X Γ H0) (h0 : Nat) (g0 : Γ h0 = some 0) (p1 : Int32) {a1 : Int} (e1 : p1.toInt = a1) (p2 : Int32) {a2 : Int} (e2 : p2.toInt = a2) (p3 : Int32) {a3 : Int} (e3 : p3.toInt = a3) (p4 : Int32) {a4 : Int} (e4 : p4.toInt = a4) (p5 : Int32) {a5 : Int} (e5 : p5.toInt = a5) (yd : Nat) (hyd : sR H0 h0 (X.1.2 10 5) = some yd) (gyd : Γ yd = some 5) (sn wl su lw ic kn hd us br ar fi : Nat) (yn : YN X Γ H0 yd sn wl su lw ic kn hd us br ar fi) (hf9 : Int) (hfe : (a1 < (sI H0 yd (X.1.2 8 0)).toInt / 2 ∧ hf9 = 0) ∨ ((sI H0 yd (X.1.2 8 0)).toInt / 2 ≤ a1 ∧ hf9 = 1)) (hfo : hf9 < (sI H0 yd (X.1.2 8 2)).toInt) (r0 : 0 ≤ a1) (r1 : a1 ≤ 5) (r2 : a1 < (sI H0 yd (X.1.2 8 0)).toInt) (r3 : 0 ≤ a2) (r4 : a2 ≤ 5) (r5 : a2 < (sI H0 yd (X.1.2 8 1)).toInt) (r6 : 0 ≤ a3) (r7 : a3 ≤ 5) (r8 : a3 < (sI H0 yd (X.1.2 8 0)).toInt) (r9 : 0 ≤ a4) (r10 : a4 ≤ 5) (r11 : a4 < (sI H0 yd (X.1.2 8 1)).toInt) (r12 : 1 ≤ a5) (r13 : a5 ≤ 40) (r14 : aI H0 us hf9 ≤ aI H0 hd hf9) (r15 : 0 ≤ (sI H0 yd (X.1.2 8 5)).toInt) (r16 : (sI H0 yd (X.1.2 8 5)).toInt ≤ 1000000) : Ctr l X Γ yX11_steal cX11_steal 7 (some .int) 3 [.ref h0, .int p1, .int p2, .int p3, .int p4, .int p5] H0 (QI X Γ (fun v H1 => Kp X Γ [3, 29, 31, 32, 33, 34, 37, 39, 40, 50, 51, 52, 54, 56, 57, 58, 59, 61, 67, 68, 69, 70, 71] H0 H1 ∧ ((SM H1 sn 36 + (sI H1 yd (X.1.2 8 5)).toInt = SM H0 sn 36 + (sI H0 yd (X.1.2 8 5)).toInt) ∧ (aI H1 us hf9 ≤ aI H1 hd hf9) ∧ (OT H0 H1 us hf9) ∧ (OT H0 H1 br hf9) ∧ ((sI H0 yd (X.1.2 8 5)).toInt ≤ (sI H1 yd (X.1.2 8 5)).toInt) ∧ ((sI H1 yd (X.1.2 8 5)).toInt ≤ (sI H0 yd (X.1.2 8 5)).toInt + 40)))) := by
  refine q_enterI (own := "SnowForts") (by decide) rfl (Nat.le_of_ble_eq_true rfl) ?_
  intro p e s m args below meth c ls Qz E hl ret hS0
  have hx := E.1; have hb := E.2.1
  have hKp0 : Kp X Γ [3, 29, 31, 32, 33, 34, 37, 39, 40, 50, 51, 52, 54, 56, 57, 58, 59, 61, 67, 68, 69, 70, 71] H0 H0 := Kp.rf
  have hl : lv_has ls 7 [(0, .ref h0), (1, .int p1), (2, .int p2), (3, .int p3), (4, .int p4), (5, .int p5)] := hl
  have gsn := yn.sn.2; have gwl := yn.wl.2; have gsu := yn.su.2; have glw := yn.lw.2; have gic := yn.ic.2; have gkn := yn.kn.2; have ghd := yn.hd.2; have gus := yn.us.2; have gbr := yn.br.2; have gar := yn.ar.2; have gfi := yn.fi.2
  refine lv_aload_n hx hb dX11_steal_0 rfl (lv_at hl 0 rfl) ?_
  refine q_getS E hC0 g0 fa_RX11_42 hyd dX11_steal_1 (fun _ => ?_)
  refine lv_iload_n hx hb dX11_steal_4 rfl (lv_at hl 1 rfl) ?_
  refine lv_iload_n hx hb dX11_steal_5 rfl (lv_at hl 2 rfl) ?_
  refine q_goIp (q_runV (As := [.int p1, .int p2]) (rest := []) E hC0 hS0 (m_X9_isOwned l X Γ H0 hC0 yd gyd p1 (a1 := a1) e1 p2 (a2 := a2) e2) cw_X9_isOwned cl_RX11_238 gyd ⟨rfl, rfl⟩ rfl hl.1 rfl (Nat.zero_le _) (by decide) dX11_steal_6) hS0 (fun v21 locs21 hr21 hS21 => ?_)
  rcases hr21 with ⟨rfl, f21a0, f21a1, f21a2, f21a3, f21a4, f21a5, f21a6⟩ | ⟨rfl, f21b⟩
  · refine q_if_eq hx hb (a := 1) (by decide) (tgt := 25) dX11_steal_9 rfl (fun c22 => absurd c22 (by omega)) (fun c22 => ?_)
    refine lv_aload_n hx hb dX11_steal_12 rfl (lv_at hl 0 rfl) ?_
    refine q_getS E hC0 g0 fa_RX11_42 hyd dX11_steal_13 (fun _ => ?_)
    refine lv_iload_n hx hb dX11_steal_16 rfl (lv_at hl 3 rfl) ?_
    refine lv_iload hx hb dX11_steal_17 (lv_at hl 4 rfl) ?_
    refine q_goIp (q_runV (As := [.int p3, .int p4]) (rest := []) E hC0 hS21 (m_X9_isCell l X Γ H0 hC0 yd gyd p3 (a1 := a3) e3 p4 (a2 := a4) e4) cw_X9_isCell cl_RX11_209 gyd ⟨rfl, rfl⟩ rfl hl.1 rfl (Nat.zero_le _) (by decide) dX11_steal_19) hS21 (fun v23 locs23 hr23 hS23 => ?_)
    rcases hr23 with ⟨rfl, f23a0, f23a1, f23a2, f23a3, f23a4, f23a5⟩ | ⟨rfl, f23b⟩
    · refine q_if_ne hx hb (a := 1) (by decide) (tgt := 31) dX11_steal_22 rfl (fun c24 => ?_) (fun c24 => absurd c24 (by omega))
      refine lv_iload hx hb dX11_steal_31 (lv_at hl 5 rfl) ?_
      refine lv_i2l (v := p5.toInt64) hx hb dX11_steal_33 rfl (lv_topl (fun v25 ev25 => ?_))
      have ev25i : v25.toInt = a5 := l_ofi ev25.symm e5
      refine lv_iconst (v := 1) hx hb dX11_steal_34 rfl ?_
      refine lv_bipush (v := 40) hx hb dX11_steal_35 rfl ?_
      refine q_goIp (q_runS (As := [.long v25, .int 1, .int 40]) (rest := []) E hS23 (m_X11_isWithin l X Γ H0 hC0 v25 (a0 := a5) ev25i 1 (a1 := 1) (by decide) 40 (a2 := 40) (by decide)) cw_X11_isWithin cl_RX11_113 rfl hl.1 rfl (Nat.zero_le _) (by decide) dX11_steal_37) hS23 (fun v26 locs26 hr26 hS26 => ?_)
      rcases hr26 with ⟨rfl, f26a0, f26a1⟩ | ⟨rfl, f26b⟩
      · refine q_if_ne hx hb (a := 1) (by decide) (tgt := 49) dX11_steal_40 rfl (fun c27 => ?_) (fun c27 => absurd c27 (by omega))
        refine lv_aload_n hx hb dX11_steal_49 rfl (lv_at hl 0 rfl) ?_
        refine q_getS E hC0 g0 fa_RX11_42 hyd dX11_steal_50 (fun _ => ?_)
        refine lv_iload_n hx hb dX11_steal_53 rfl (lv_at hl 2 rfl) ?_
        refine lv_bipush (v := 6) hx hb dX11_steal_54 rfl ?_
        refine lv_imul hx hb dX11_steal_56 (lv_topi (fun v28 ev28 => ?_))
        have ev28i : v28.toInt = (a2 * 6) := i_mul ev28 e2 (by decide) (by omega) (by omega)
        refine lv_iload_n hx hb dX11_steal_57 rfl (lv_at hl 1 rfl) ?_
        refine lv_iadd hx hb dX11_steal_58 (lv_topi (fun v29 ev29 => ?_))
        have ev29i : v29.toInt = ((a2 * 6) + a1) := i_add ev29 ev28i e1 (by omega) (by omega)
        refine lv_iload hx hb dX11_steal_59 (lv_at hl 4 rfl) ?_
        refine lv_bipush (v := 6) hx hb dX11_steal_61 rfl ?_
        refine lv_imul hx hb dX11_steal_63 (lv_topi (fun v30 ev30 => ?_))
        have ev30i : v30.toInt = (a4 * 6) := i_mul ev30 e4 (by decide) (by omega) (by omega)
        refine lv_iload_n hx hb dX11_steal_64 rfl (lv_at hl 3 rfl) ?_
        refine lv_iadd hx hb dX11_steal_65 (lv_topi (fun v31 ev31 => ?_))
        have ev31i : v31.toInt = ((a4 * 6) + a3) := i_add ev31 ev30i e3 (by omega) (by omega)
        refine lv_iload hx hb dX11_steal_66 (lv_at hl 5 rfl) ?_
        refine q_goI (q_runV (As := [.int v29, .int v31, .int p5]) (rest := []) E hC0 hS26 (m_X9_takes l X Γ H0 hC0 yd gyd v29 (a1 := ((a2 * 6) + a1)) ev29i v31 (a2 := ((a4 * 6) + a3)) ev31i p5 (a3 := a5) e5 sn wl su lw ic kn hd us br ar fi yn hf9 (by omega) (by omega) (by omega) (by omega) (by omega) (by omega) (by omega) (by omega) (by omega) (by omega) (by omega) (by omega) (by omega) (by omega)) cw_X9_takes cl_RX11_247 gyd ⟨rfl, rfl⟩ rfl hl.1 rfl (Nat.zero_le _) (by decide) dX11_steal_68) hS26 (fun v32 H32 locs32 hr32 hC32 hS32 => ?_)
        obtain ⟨hp32, hr32⟩ := hr32
        have hKp32 := hKp0.tr (hp32.mono rfl)
        have m34 : aI H32 hd hf9 = aI H0 hd hf9 := aI_kp hp32 ghd rfl rfl
        have m35 : (sI H32 yd (X.1.2 8 0)).toInt = (sI H0 yd (X.1.2 8 0)).toInt := congrArg Int32.toInt (kp_I hp32 gyd (ci := 8) (k := 0) rfl (by decide) rfl)
        have m36 : (sI H32 yd (X.1.2 8 1)).toInt = (sI H0 yd (X.1.2 8 1)).toInt := congrArg Int32.toInt (kp_I hp32 gyd (ci := 8) (k := 1) rfl (by decide) rfl)
        have m37 : (sI H32 yd (X.1.2 8 2)).toInt = (sI H0 yd (X.1.2 8 2)).toInt := congrArg Int32.toInt (kp_I hp32 gyd (ci := 8) (k := 2) rfl (by decide) rfl)
        obtain ⟨f32_0, f32_1, f32_2, f32_3, f32_4, f32_5, f32_6⟩ := hr32
        have ous : OT H0 H32 us hf9 := f32_3
        have obr : OT H0 H32 br hf9 := f32_4
        refine lv_istore hx hb dX11_steal_71 hl (by decide) rfl (fun ls hl => ?_)
        replace hl : lv_has ls 7 [(6, .int v32), (0, .ref h0), (1, .int p1), (2, .int p2), (3, .int p3), (4, .int p4), (5, .int p5)] := hl
        refine lv_iload hx hb dX11_steal_73 (lv_at hl 0 rfl) ?_
        refine q_if_ne hx hb (a := v32.toInt) rfl (tgt := 87) dX11_steal_75 rfl (fun c40 => ?_) (fun c40 => ?_)
        · refine lv_aload_n hx hb dX11_steal_87 rfl (lv_at hl 1 rfl) ?_
          refine lv_iload hx hb dX11_steal_88 (lv_at hl 0 rfl) ?_
          refine q_goI (q_runV (As := [.int v32]) (rest := []) E hC32 hS32 (m_X11_answer l X Γ H32 hC32 h0 g0 v32 (a1 := v32.toInt) rfl) cw_X11_answer cl_RX11_191 g0 ⟨rfl, rfl⟩ rfl hl.1 rfl (Nat.zero_le _) (by decide) dX11_steal_90) hS32 (fun v41 H41 locs41 hr41 hC41 hS41 => ?_)
          obtain ⟨hp41, hr41⟩ := hr41
          have hKp41 := hKp32.tr (hp41.mono rfl)
          have m42 : aI H41 us hf9 = aI H32 us hf9 := aI_kp hp41 gus rfl rfl
          have m43 : aI H41 hd hf9 = aI H32 hd hf9 := aI_kp hp41 ghd rfl rfl
          have m44 : (sI H41 yd (X.1.2 8 0)).toInt = (sI H32 yd (X.1.2 8 0)).toInt := congrArg Int32.toInt (kp_I hp41 gyd (ci := 8) (k := 0) rfl (by decide) rfl)
          have m45 : (sI H41 yd (X.1.2 8 1)).toInt = (sI H32 yd (X.1.2 8 1)).toInt := congrArg Int32.toInt (kp_I hp41 gyd (ci := 8) (k := 1) rfl (by decide) rfl)
          have m46 : (sI H41 yd (X.1.2 8 2)).toInt = (sI H32 yd (X.1.2 8 2)).toInt := congrArg Int32.toInt (kp_I hp41 gyd (ci := 8) (k := 2) rfl (by decide) rfl)
          have m47 : (sI H41 yd (X.1.2 8 5)).toInt = (sI H32 yd (X.1.2 8 5)).toInt := congrArg Int32.toInt (kp_I hp41 gyd (ci := 8) (k := 5) rfl (by decide) rfl)
          have m48 : SM H41 sn 36 = SM H32 sn 36 := SM_kp hp41 gsn rfl rfl
          replace ous : OT H0 H41 us hf9 := ous.kp hp41 gus rfl rfl
          replace obr : OT H0 H41 br hf9 := obr.kp hp41 gbr rfl rfl
          obtain ⟨f41_0, f41_1⟩ := hr41
          have c49 : v41.toInt = v41.toInt := rfl
          exact ret v41 H41 locs41 _ _ dX11_steal_93 ⟨hKp41, ⟨by omega, by omega, ous, obr, by omega, by omega⟩⟩ hC41 hS41
        · refine lv_aload_n hx hb dX11_steal_78 rfl (lv_at hl 1 rfl) ?_
          refine lv_bipush (v := 9) hx hb dX11_steal_79 rfl ?_
          refine q_goI (q_runV (As := [.int 9]) (rest := []) E hC32 hS32 (m_X11_refuse l X Γ H32 hC32 h0 g0 9 (a1 := 9) (by decide)) cw_X11_refuse cl_RX11_146 g0 ⟨rfl, rfl⟩ rfl hl.1 rfl (Nat.zero_le _) (by decide) dX11_steal_81) hS32 (fun v50 H50 locs50 hr50 hC50 hS50 => ?_)
          obtain ⟨hp50, hr50⟩ := hr50
          have hKp50 := hKp32.tr (hp50.mono rfl)
          have m51 : aI H50 us hf9 = aI H32 us hf9 := aI_kp hp50 gus rfl rfl
          have m52 : aI H50 hd hf9 = aI H32 hd hf9 := aI_kp hp50 ghd rfl rfl
          have m53 : (sI H50 yd (X.1.2 8 0)).toInt = (sI H32 yd (X.1.2 8 0)).toInt := congrArg Int32.toInt (kp_I hp50 gyd (ci := 8) (k := 0) rfl (by decide) rfl)
          have m54 : (sI H50 yd (X.1.2 8 1)).toInt = (sI H32 yd (X.1.2 8 1)).toInt := congrArg Int32.toInt (kp_I hp50 gyd (ci := 8) (k := 1) rfl (by decide) rfl)
          have m55 : (sI H50 yd (X.1.2 8 2)).toInt = (sI H32 yd (X.1.2 8 2)).toInt := congrArg Int32.toInt (kp_I hp50 gyd (ci := 8) (k := 2) rfl (by decide) rfl)
          have m56 : (sI H50 yd (X.1.2 8 5)).toInt = (sI H32 yd (X.1.2 8 5)).toInt := congrArg Int32.toInt (kp_I hp50 gyd (ci := 8) (k := 5) rfl (by decide) rfl)
          have m57 : SM H50 sn 36 = SM H32 sn 36 := SM_kp hp50 gsn rfl rfl
          replace ous : OT H0 H50 us hf9 := ous.kp hp50 gus rfl rfl
          replace obr : OT H0 H50 br hf9 := obr.kp hp50 gbr rfl rfl
          have f50_0 := hr50
          refine lv_goto (tgt := 93) hx hb dX11_steal_84 rfl ?_
          have c58 : v50.toInt = v50.toInt := rfl
          exact ret v50 H50 locs50 _ _ dX11_steal_93 ⟨hKp50, ⟨by omega, by omega, ous, obr, by omega, by omega⟩⟩ hC50 hS50
      · refine q_if_ne hx hb (a := 0) (by decide) (tgt := 49) dX11_steal_40 rfl (fun c59 => absurd c59 (by omega)) (fun c59 => ?_)
        (exfalso; omega)
    · refine q_if_ne hx hb (a := 0) (by decide) (tgt := 31) dX11_steal_22 rfl (fun c60 => absurd c60 (by omega)) (fun c60 => ?_)
      (exfalso; omega)
  · refine q_if_eq hx hb (a := 0) (by decide) (tgt := 25) dX11_steal_9 rfl (fun c61 => ?_) (fun c61 => absurd c61 (by omega))
    (exfalso; omega)
set_option maxRecDepth 100000 in
set_option maxHeartbeats 4000000 in
theorem m_X9_sleeps (l : Launch) (X : xW) (Γ : Nat → Option Nat) (H0 : Heap) (hC0 : Conf X Γ H0) (h0 : Nat) (g0 : Γ h0 = some 5) (sn wl su lw ic kn hd us br ar fi : Nat) (yn : YN X Γ H0 h0 sn wl su lw ic kn hd us br ar fi) : Ctr l X Γ yX9_sleeps cX9_sleeps 1 (some .boolean) 1 [.ref h0] H0 (QI X Γ (fun v H1 => Kp X Γ [3, 29, 31, 32, 33, 34, 37, 39, 40, 50, 52, 53, 54, 55, 56, 57, 59, 60, 61, 63, 65, 67, 68, 69, 70, 71, 72] H0 H1 ∧ ((v = 1 ∧ ((sI H0 h0 (X.1.2 8 3)).toInt < 999 ∧ (sI H1 h0 (X.1.2 8 3)).toInt = (sI H0 h0 (X.1.2 8 3)).toInt + 1 ∧ aI H1 us 0 = 0 ∧ aI H1 us 1 = 0)) ∨ (v = 0 ∧ (999 ≤ (sI H0 h0 (X.1.2 8 3)).toInt))))) := by
  refine q_enterZ (own := "SnowForts$Yard") (by decide) rfl (Nat.le_of_ble_eq_true rfl) ?_
  intro p e s m args below meth c ls Qz E hl ret hS0
  have hx := E.1; have hb := E.2.1
  have hKp0 : Kp X Γ [3, 29, 31, 32, 33, 34, 37, 39, 40, 50, 52, 53, 54, 55, 56, 57, 59, 60, 61, 63, 65, 67, 68, 69, 70, 71, 72] H0 H0 := Kp.rf
  have hl : lv_has ls 1 [(0, .ref h0)] := hl
  have gsn := yn.sn.2; have gwl := yn.wl.2; have gsu := yn.su.2; have glw := yn.lw.2; have gic := yn.ic.2; have gkn := yn.kn.2; have ghd := yn.hd.2; have gus := yn.us.2; have gbr := yn.br.2; have gar := yn.ar.2; have gfi := yn.fi.2
  refine lv_aload_n hx hb dX9_sleeps_0 rfl (lv_at hl 0 rfl) ?_
  refine q_getI E hC0 g0 fa_RX9_55 dX9_sleeps_1 (fun v21 ev21 lv21 uv21 => ?_)
  have m22 : (sI H0 h0 (X.1.2 8 3)).toInt = v21.toInt := (congrArg Int32.toInt ev21).trans rfl
  refine lv_sipush (v := 999) hx hb dX9_sleeps_4 rfl ?_
  refine q_icmp_lt hx hb (a := v21.toInt) (b := 999) rfl (by decide) (tgt := 12) dX9_sleeps_7 rfl (fun c23 => ?_) (fun c23 => ?_)
  · refine lv_aload_n hx hb dX9_sleeps_12 rfl (lv_at hl 0 rfl) ?_
    refine lv_dup hx hb dX9_sleeps_13 rfl ?_
    refine q_getI E hC0 g0 fa_RX9_55 dX9_sleeps_14 (fun v24 ev24 lv24 uv24 => ?_)
    have qv24 := ev21.symm.trans ev24; subst qv24
    refine lv_iconst (v := 1) hx hb dX9_sleeps_17 rfl ?_
    refine lv_iadd hx hb dX9_sleeps_18 (lv_topi (fun v25 ev25 => ?_))
    have ev25i : v25.toInt = (v21.toInt + 1) := i_add ev25 rfl (by decide) (by omega) (by omega)
    refine q_put E hC0 hS0 g0 fp_RX9_55 (tv_I ev25i (by omega) (by omega)) rfl rfl dX9_sleeps_19 (fun H26 locs26 hC26 hS26 U26 => ?_)
    have hKp26 := Kp.upO E g0 fp_RX9_55 rfl U26 hKp0
    have e27 := up_I U26
    have m28 : (sI H26 h0 (X.1.2 8 3)).toInt = (v21.toInt + 1) := (congrArg Int32.toInt e27).trans ev25i
    have m29 : aI H26 us (0) = aI H0 us (0) := aI_ne U26 (nek g0 gus (by decide))
    have m30 : aI H26 us (1) = aI H0 us (1) := aI_ne U26 (nek g0 gus (by decide))
    have m31 : (sI H26 h0 (X.1.2 8 0)).toInt = (sI H0 h0 (X.1.2 8 0)).toInt := congrArg Int32.toInt (up_nI U26 (ne_f E 8 0 3 rfl (by decide) (by decide) (by decide)))
    have m32 : (sI H26 h0 (X.1.2 8 1)).toInt = (sI H0 h0 (X.1.2 8 1)).toInt := congrArg Int32.toInt (up_nI U26 (ne_f E 8 1 3 rfl (by decide) (by decide) (by decide)))
    have m33 : (sI H26 h0 (X.1.2 8 2)).toInt = (sI H0 h0 (X.1.2 8 2)).toInt := congrArg Int32.toInt (up_nI U26 (ne_f E 8 2 3 rfl (by decide) (by decide) (by decide)))
    refine lv_aload_n hx hb dX9_sleeps_22 rfl (lv_at hl 0 rfl) ?_
    refine q_getS E hC26 g0 fa_RX9_22 (yn.kp g0 hKp26 rfl).us.1 dX9_sleeps_23 (fun _ => ?_)
    refine lv_iconst (v := 0) hx hb dX9_sleeps_26 rfl ?_
    refine q_goV (q_runS (As := [.ref us, .int 0]) (rest := []) E hS26 (m_fillI l X Γ H26 hC26 us gus (by decide) rfl rfl (fun _ => rfl) (by decide) 0 (by decide)) cw_J7_fill_53178 cl_RX9_67 rfl hl.1 rfl (Nat.zero_le _) (by decide) dX9_sleeps_27) hS26 (fun H34 locs34 U34 hC34 hS34 => ?_)
    obtain ⟨U34, F34⟩ := U34
    have hKp34 := Kp.upC gus rfl (by decide) rfl U34 hKp26
    have m37 : (sI H34 h0 (X.1.2 8 0)).toInt = (sI H26 h0 (X.1.2 8 0)).toInt := congrArg Int32.toInt (cp_I U34 (nek g0 gus (by decide)))
    have m38 : (sI H34 h0 (X.1.2 8 1)).toInt = (sI H26 h0 (X.1.2 8 1)).toInt := congrArg Int32.toInt (cp_I U34 (nek g0 gus (by decide)))
    have m39 : (sI H34 h0 (X.1.2 8 2)).toInt = (sI H26 h0 (X.1.2 8 2)).toInt := congrArg Int32.toInt (cp_I U34 (nek g0 gus (by decide)))
    have m40 : (sI H34 h0 (X.1.2 8 3)).toInt = (sI H26 h0 (X.1.2 8 3)).toInt := congrArg Int32.toInt (cp_I U34 (nek g0 gus (by decide)))
    have q0 : aI H34 us 0 = 0 := by unfold aI; rw [F34 _ (by decide)]; rfl
    have q1 : aI H34 us 1 = 0 := by unfold aI; rw [F34 _ (by decide)]; rfl
    refine lv_aload_n hx hb dX9_sleeps_30 rfl (lv_at hl 0 rfl) ?_
    refine q_getS E hC34 g0 fa_RX9_37 (yn.kp g0 hKp34 rfl).wl.1 dX9_sleeps_31 (fun _ => ?_)
    refine lv_iconst (v := 0) hx hb dX9_sleeps_34 rfl ?_
    refine lv_aload_n hx hb dX9_sleeps_35 rfl (lv_at hl 0 rfl) ?_
    refine q_getS E hC34 g0 fa_RX9_43 (yn.kp g0 hKp34 rfl).lw.1 dX9_sleeps_36 (fun _ => ?_)
    refine lv_iconst (v := 0) hx hb dX9_sleeps_39 rfl ?_
    refine lv_bipush (v := 36) hx hb dX9_sleeps_40 rfl ?_
    refine q_copyI E hl.1 w_605 arrw hC34 hS34 gwl glw (by decide) rfl rfl rfl rfl (fun _ => rfl) (fun _ => rfl) (a := 0) (b := 0) (d := 36) (show (0 : Int32).toInt = 0 from by decide) (show (0 : Int32).toInt = 0 from by decide) (show (36 : Int32).toInt = 36 from by decide) (by omega) (by omega) (by omega) (by omega) (by omega) (by decide) (Nat.zero_le _) dX9_sleeps_42 (fun H41 locs41 hC41 hS41 U41 => ?_)
    obtain ⟨U41, C41⟩ := U41
    have hKp41 := Kp.upC glw rfl (by decide) rfl U41 hKp34
    have m42 : aI H41 us (0) = aI H34 us (0) := aI_cp U41 (nek gus glw (by decide))
    have m43 : aI H41 us (1) = aI H34 us (1) := aI_cp U41 (nek gus glw (by decide))
    have m44 : (sI H41 h0 (X.1.2 8 0)).toInt = (sI H34 h0 (X.1.2 8 0)).toInt := congrArg Int32.toInt (cp_I U41 (nek g0 glw (by decide)))
    have m45 : (sI H41 h0 (X.1.2 8 1)).toInt = (sI H34 h0 (X.1.2 8 1)).toInt := congrArg Int32.toInt (cp_I U41 (nek g0 glw (by decide)))
    have m46 : (sI H41 h0 (X.1.2 8 2)).toInt = (sI H34 h0 (X.1.2 8 2)).toInt := congrArg Int32.toInt (cp_I U41 (nek g0 glw (by decide)))
    have m47 : (sI H41 h0 (X.1.2 8 3)).toInt = (sI H34 h0 (X.1.2 8 3)).toInt := congrArg Int32.toInt (cp_I U41 (nek g0 glw (by decide)))
    refine lv_iconst (v := 1) hx hb dX9_sleeps_45 rfl ?_
    exact ret 1 H41 locs41 _ _ dX9_sleeps_46 (Or.inr rfl) ⟨hKp41, Or.inl ⟨rfl, by omega, by omega, by omega, by omega⟩⟩ hC41 hS41
  · refine lv_iconst (v := 0) hx hb dX9_sleeps_10 rfl ?_
    exact ret 0 H0 [] _ _ dX9_sleeps_11 (Or.inl rfl) ⟨hKp0, Or.inr ⟨rfl, by omega⟩⟩ hC0 hS0
set_option maxRecDepth 100000 in
set_option maxHeartbeats 4000000 in
theorem m_X11_night (l : Launch) (X : xW) (Γ : Nat → Option Nat) (H0 : Heap) (hC0 : Conf X Γ H0) (h0 : Nat) (g0 : Γ h0 = some 0) (yd : Nat) (hyd : sR H0 h0 (X.1.2 10 5) = some yd) (gyd : Γ yd = some 5) (sn wl su lw ic kn hd us br ar fi : Nat) (yn : YN X Γ H0 yd sn wl su lw ic kn hd us br ar fi) (r0 : (sI H0 yd (X.1.2 8 3)).toInt ≤ 900) : Ctr l X Γ yX11_night cX11_night 1 (some .int) 2 [.ref h0] H0 (QI X Γ (fun v H1 => Kp X Γ [3, 29, 31, 32, 33, 34, 37, 39, 40, 50, 52, 53, 54, 55, 56, 57, 59, 60, 61, 63, 65, 67, 68, 69, 70, 71] H0 H1 ∧ ((1 ≤ v.toInt) ∧ ((sI H1 yd (X.1.2 8 3)).toInt = (sI H0 yd (X.1.2 8 3)).toInt + 1) ∧ (aI H1 us 0 = 0) ∧ (aI H1 us 1 = 0)))) := by
  refine q_enterI (own := "SnowForts") (by decide) rfl (Nat.le_of_ble_eq_true rfl) ?_
  intro p e s m args below meth c ls Qz E hl ret hS0
  have hx := E.1; have hb := E.2.1
  have hKp0 : Kp X Γ [3, 29, 31, 32, 33, 34, 37, 39, 40, 50, 52, 53, 54, 55, 56, 57, 59, 60, 61, 63, 65, 67, 68, 69, 70, 71] H0 H0 := Kp.rf
  have hl : lv_has ls 1 [(0, .ref h0)] := hl
  have gsn := yn.sn.2; have gwl := yn.wl.2; have gsu := yn.su.2; have glw := yn.lw.2; have gic := yn.ic.2; have gkn := yn.kn.2; have ghd := yn.hd.2; have gus := yn.us.2; have gbr := yn.br.2; have gar := yn.ar.2; have gfi := yn.fi.2
  have hdy := f_bd hC0 gyd (ci := 8) (k := 3) rfl rfl
  refine lv_aload_n hx hb dX11_night_0 rfl (lv_at hl 0 rfl) ?_
  refine q_getS E hC0 g0 fa_RX11_42 hyd dX11_night_1 (fun _ => ?_)
  refine q_goI (q_runV (As := []) (rest := []) E hC0 hS0 (m_X9_sleeps l X Γ H0 hC0 yd gyd sn wl su lw ic kn hd us br ar fi yn) cw_X9_sleeps cl_RX11_251 gyd ⟨rfl, rfl⟩ rfl hl.1 rfl (Nat.zero_le _) (by decide) dX11_night_4) hS0 (fun v21 H21 locs21 hr21 hC21 hS21 => ?_)
  obtain ⟨hp21, hr21⟩ := hr21
  have hKp21 := hKp0.tr (hp21.mono rfl)
  have m24 : (sI H21 yd (X.1.2 8 0)).toInt = (sI H0 yd (X.1.2 8 0)).toInt := congrArg Int32.toInt (kp_I hp21 gyd (ci := 8) (k := 0) rfl (by decide) rfl)
  have m25 : (sI H21 yd (X.1.2 8 1)).toInt = (sI H0 yd (X.1.2 8 1)).toInt := congrArg Int32.toInt (kp_I hp21 gyd (ci := 8) (k := 1) rfl (by decide) rfl)
  have m26 : (sI H21 yd (X.1.2 8 2)).toInt = (sI H0 yd (X.1.2 8 2)).toInt := congrArg Int32.toInt (kp_I hp21 gyd (ci := 8) (k := 2) rfl (by decide) rfl)
  rcases hr21 with ⟨rfl, f21a0, f21a1, f21a2, f21a3⟩ | ⟨rfl, f21b⟩
  · refine q_if_eq hx hb (a := 1) (by decide) (tgt := 24) dX11_night_7 rfl (fun c28 => absurd c28 (by omega)) (fun c28 => ?_)
    refine lv_aload_n hx hb dX11_night_10 rfl (lv_at hl 0 rfl) ?_
    refine lv_aload_n hx hb dX11_night_11 rfl (lv_at hl 0 rfl) ?_
    refine q_getS E hC21 g0 fa_RX11_42 ((kp_R hKp21 g0 (ci := 10) (k := 5) rfl (by decide) rfl).trans hyd) dX11_night_12 (fun _ => ?_)
    refine q_getI E hC21 gyd fa_RX11_254 dX11_night_15 (fun v29 ev29 lv29 uv29 => ?_)
    have m30 : (sI H21 yd (X.1.2 8 3)).toInt = v29.toInt := congrArg Int32.toInt ev29
    refine q_goI (q_runV (As := [.int v29]) (rest := []) E hC21 hS21 (m_X11_answer l X Γ H21 hC21 h0 g0 v29 (a1 := v29.toInt) rfl) cw_X11_answer cl_RX11_191 g0 ⟨rfl, rfl⟩ rfl hl.1 rfl (Nat.zero_le _) (by decide) dX11_night_18) hS21 (fun v31 H31 locs31 hr31 hC31 hS31 => ?_)
    obtain ⟨hp31, hr31⟩ := hr31
    have hKp31 := hKp21.tr (hp31.mono rfl)
    have m32 : aI H31 us (0) = aI H21 us (0) := aI_kp hp31 gus rfl rfl
    have m33 : aI H31 us (1) = aI H21 us (1) := aI_kp hp31 gus rfl rfl
    have m34 : (sI H31 yd (X.1.2 8 0)).toInt = (sI H21 yd (X.1.2 8 0)).toInt := congrArg Int32.toInt (kp_I hp31 gyd (ci := 8) (k := 0) rfl (by decide) rfl)
    have m35 : (sI H31 yd (X.1.2 8 1)).toInt = (sI H21 yd (X.1.2 8 1)).toInt := congrArg Int32.toInt (kp_I hp31 gyd (ci := 8) (k := 1) rfl (by decide) rfl)
    have m36 : (sI H31 yd (X.1.2 8 2)).toInt = (sI H21 yd (X.1.2 8 2)).toInt := congrArg Int32.toInt (kp_I hp31 gyd (ci := 8) (k := 2) rfl (by decide) rfl)
    have m37 : (sI H31 yd (X.1.2 8 3)).toInt = (sI H21 yd (X.1.2 8 3)).toInt := congrArg Int32.toInt (kp_I hp31 gyd (ci := 8) (k := 3) rfl (by decide) rfl)
    obtain ⟨f31_0, f31_1⟩ := hr31
    refine lv_goto (tgt := 30) hx hb dX11_night_21 rfl ?_
    have c38 : v31.toInt = v31.toInt := rfl
    exact ret v31 H31 locs31 _ _ dX11_night_30 ⟨hKp31, ⟨by omega, by omega, by omega, by omega⟩⟩ hC31 hS31
  · refine q_if_eq hx hb (a := 0) (by decide) (tgt := 24) dX11_night_7 rfl (fun c39 => ?_) (fun c39 => absurd c39 (by omega))
    (exfalso; omega)
set_option maxRecDepth 100000 in
set_option maxHeartbeats 4000000 in
theorem m_X9_fitsIn (l : Launch) (X : xW) (Γ : Nat → Option Nat) (H0 : Heap) (hC0 : Conf X Γ H0) (h0 : Nat) (g0 : Γ h0 = some 5) (p1 : Int32) {a1 : Int} (e1 : p1.toInt = a1) (sn wl su lw ic kn hd us br ar fi : Nat) (yn : YN X Γ H0 h0 sn wl su lw ic kn hd us br ar fi) (r0 : 0 ≤ a1) (r1 : a1 ≤ 35) : Ctr l X Γ yX9_fitsIn cX9_fitsIn 3 (some .int) 2 [.ref h0, .int p1] H0 (QI X Γ (fun v H1 => H1 = H0 ∧ ((v.toInt = fit H0 sn wl lw ar (sI H0 h0 (X.1.2 8 0)).toInt a1) ∧ (0 ≤ v.toInt) ∧ (v.toInt ≤ 99)))) := by
  refine q_enterI (own := "SnowForts$Yard") (by decide) rfl (Nat.le_of_ble_eq_true rfl) ?_
  intro p e s m args below meth c ls Qz E hl ret hS0
  have hx := E.1; have hb := E.2.1
  have hl : lv_has ls 3 [(0, .ref h0), (1, .int p1)] := hl
  have gsn := yn.sn.2; have gwl := yn.wl.2; have gsu := yn.su.2; have glw := yn.lw.2; have gic := yn.ic.2; have gkn := yn.kn.2; have ghd := yn.hd.2; have gus := yn.us.2; have gbr := yn.br.2; have gar := yn.ar.2; have gfi := yn.fi.2
  refine lv_bipush (v := 99) hx hb dX9_fitsIn_0 rfl ?_
  refine lv_aload_n hx hb dX9_fitsIn_2 rfl (lv_at hl 0 rfl) ?_
  refine lv_iload_n hx hb dX9_fitsIn_3 rfl (lv_at hl 1 rfl) ?_
  refine q_goIp (q_runV (As := [.int p1]) (rest := [.int 99]) E hC0 hS0 (m_X9_wallLimit l X Γ H0 hC0 h0 g0 p1 (a1 := a1) e1 sn wl su lw ic kn hd us br ar fi yn (by omega) (by omega)) cw_X9_wallLimit cl_RX9_132 g0 ⟨rfl, rfl⟩ rfl hl.1 rfl (show _ ≤ _ from by simp [Value.category]) (by decide) dX9_fitsIn_4) hS0 (fun v21 locs21 hr21 hS21 => ?_)
  obtain ⟨f21_0, f21_1, f21_2⟩ := hr21
  refine q_mmin E hl.1 w_526 mathw_min (a := 99) (b := v21.toInt) (show (99 : Int32).toInt = 99 from by decide) rfl (by decide) (Nat.zero_le _) dX9_fitsIn_7 (fun v22 mv22a mv22b mv22c => ?_)
  refine lv_istore_n hx hb dX9_fitsIn_10 rfl hl (by decide) rfl (fun ls hl => ?_)
  replace hl : lv_has ls 3 [(2, .int v22), (0, .ref h0), (1, .int p1)] := hl
  refine lv_iconst (v := 0) hx hb dX9_fitsIn_11 rfl ?_
  refine lv_aload_n hx hb dX9_fitsIn_12 rfl (lv_at hl 1 rfl) ?_
  refine q_getS E hC0 g0 fa_RX9_34 yn.sn.1 dX9_fitsIn_13 (fun _ => ?_)
  refine lv_iload_n hx hb dX9_fitsIn_16 rfl (lv_at hl 2 rfl) ?_
  refine q_iald E hC0 gsn rfl rfl (fun _ h => h) (i_in (a := a1) e1 (by omega) (by omega)) dX9_fitsIn_17 (fun v23 ev23 lv23 uv23 => ?_)
  have m24 : aI H0 sn a1 = v23.toInt := aI_of e1 ev23
  refine lv_iload_n hx hb dX9_fitsIn_18 rfl (lv_at hl 0 rfl) ?_
  refine lv_aload_n hx hb dX9_fitsIn_19 rfl (lv_at hl 1 rfl) ?_
  refine q_getS E hC0 g0 fa_RX9_37 yn.wl.1 dX9_fitsIn_20 (fun _ => ?_)
  refine lv_iload_n hx hb dX9_fitsIn_23 rfl (lv_at hl 2 rfl) ?_
  refine q_iald E hC0 gwl rfl rfl (fun _ h => h) (i_in (a := a1) e1 (by omega) (by omega)) dX9_fitsIn_24 (fun v25 ev25 lv25 uv25 => ?_)
  have m26 : aI H0 wl a1 = v25.toInt := aI_of e1 ev25
  refine lv_isub hx hb dX9_fitsIn_25 (lv_topi (fun v27 ev27 => ?_))
  have ev27i : v27.toInt = (v22.toInt - v25.toInt) := i_sub ev27 rfl rfl (by omega) (by omega)
  refine q_mmin E hl.1 w_526 mathw_min (a := v23.toInt) (b := (v22.toInt - v25.toInt)) rfl ev27i (by decide) (show _ ≤ _ from by simp [Value.category]) dX9_fitsIn_26 (fun v28 mv28a mv28b mv28c => ?_)
  refine q_mmax E hl.1 w_511 mathw_max (a := 0) (b := v28.toInt) (show (0 : Int32).toInt = 0 from by decide) rfl (by decide) (Nat.zero_le _) dX9_fitsIn_29 (fun v29 mv29a mv29b mv29c => ?_)
  have c30 : v29.toInt = v29.toInt := rfl
  exact ret v29 H0 locs21 _ _ dX9_fitsIn_32 ⟨rfl, ⟨by unfold fit; omega, by omega, by omega⟩⟩ hC0 hS21
set_option maxRecDepth 100000 in
set_option maxHeartbeats 4000000 in
theorem m_X9_roomAt (l : Launch) (X : xW) (Γ : Nat → Option Nat) (H0 : Heap) (hC0 : Conf X Γ H0) (h0 : Nat) (g0 : Γ h0 = some 5) (p1 : Int32) {a1 : Int} (e1 : p1.toInt = a1) (sn wl su lw ic kn hd us br ar fi : Nat) (yn : YN X Γ H0 h0 sn wl su lw ic kn hd us br ar fi) (hf9 : Int) (hfe : (a1 % 6 < (sI H0 h0 (X.1.2 8 0)).toInt / 2 ∧ hf9 = 0) ∨ ((sI H0 h0 (X.1.2 8 0)).toInt / 2 ≤ a1 % 6 ∧ hf9 = 1)) (r0 : 0 ≤ a1) (r1 : a1 ≤ 35) (r2 : a1 % 6 < (sI H0 h0 (X.1.2 8 0)).toInt) (r3 : a1 / 6 < (sI H0 h0 (X.1.2 8 1)).toInt) : Ctr l X Γ yX9_roomAt cX9_roomAt 2 (some .int) 3 [.ref h0, .int p1] H0 (QI X Γ (fun v H1 => H1 = H0 ∧ ((v.toInt ≤ fit H0 sn wl lw ar (sI H0 h0 (X.1.2 8 0)).toInt a1) ∧ (v.toInt ≤ lwh H0 ar us hf9) ∧ (0 ≤ v.toInt) ∧ (v.toInt ≤ 99)))) := by
  refine q_enterI (own := "SnowForts$Yard") (by decide) rfl (Nat.le_of_ble_eq_true rfl) ?_
  intro p e s m args below meth c ls Qz E hl ret hS0
  have hx := E.1; have hb := E.2.1
  have hl : lv_has ls 2 [(0, .ref h0), (1, .int p1)] := hl
  have gsn := yn.sn.2; have gwl := yn.wl.2; have gsu := yn.su.2; have glw := yn.lw.2; have gic := yn.ic.2; have gkn := yn.kn.2; have ghd := yn.hd.2; have gus := yn.us.2; have gbr := yn.br.2; have gar := yn.ar.2; have gfi := yn.fi.2
  refine lv_aload_n hx hb dX9_roomAt_0 rfl (lv_at hl 0 rfl) ?_
  refine lv_iload_n hx hb dX9_roomAt_1 rfl (lv_at hl 1 rfl) ?_
  refine q_goIp (q_runV (As := [.int p1]) (rest := []) E hC0 hS0 (m_X9_holds l X Γ H0 hC0 h0 g0 p1 (a1 := a1) e1) cw_X9_holds cl_RX9_99 g0 ⟨rfl, rfl⟩ rfl hl.1 rfl (Nat.zero_le _) (by decide) dX9_roomAt_2) hS0 (fun v21 locs21 hr21 hS21 => ?_)
  rcases hr21 with ⟨rfl, f21a0, f21a1, f21a2, f21a3⟩ | ⟨rfl, f21b⟩
  · refine q_if_eq hx hb (a := 1) (by decide) (tgt := 28) dX9_roomAt_5 rfl (fun c22 => absurd c22 (by omega)) (fun c22 => ?_)
    refine lv_aload_n hx hb dX9_roomAt_8 rfl (lv_at hl 0 rfl) ?_
    refine lv_iload_n hx hb dX9_roomAt_9 rfl (lv_at hl 1 rfl) ?_
    refine q_goIp (q_runV (As := [.int p1]) (rest := []) E hC0 hS21 (m_X9_fitsIn l X Γ H0 hC0 h0 g0 p1 (a1 := a1) e1 sn wl su lw ic kn hd us br ar fi yn (by omega) (by omega)) cw_X9_fitsIn cl_RX9_149 g0 ⟨rfl, rfl⟩ rfl hl.1 rfl (Nat.zero_le _) (by decide) dX9_roomAt_10) hS21 (fun v23 locs23 hr23 hS23 => ?_)
    obtain ⟨f23_0, f23_1, f23_2⟩ := hr23
    refine lv_aload_n hx hb dX9_roomAt_13 rfl (lv_at hl 0 rfl) ?_
    refine lv_aload_n hx hb dX9_roomAt_14 rfl (lv_at hl 0 rfl) ?_
    refine lv_iload_n hx hb dX9_roomAt_15 rfl (lv_at hl 1 rfl) ?_
    refine q_goIp (q_runV (As := [.int p1]) (rest := [.ref h0, .int v23]) E hC0 hS23 (m_X9_halfOf l X Γ H0 hC0 h0 g0 p1 (a1 := a1) e1 (by omega) (by omega)) cw_X9_halfOf cl_RX9_102 g0 ⟨rfl, rfl⟩ rfl hl.1 rfl (show _ ≤ _ from by simp [Value.category]) (by decide) dX9_roomAt_16) hS23 (fun v24 locs24 hr24 hS24 => ?_)
    obtain ⟨f24_0, f24_1, f24_2⟩ := hr24
    have hh9 : v24.toInt = hf9 := by omega
    refine q_goIp (q_runV (As := [.int v24]) (rest := [.int v23]) E hC0 hS24 (m_X9_lawfulHands l X Γ H0 hC0 h0 g0 v24 (a1 := v24.toInt) rfl sn wl su lw ic kn hd us br ar fi yn (by omega) (by omega)) cw_X9_lawfulHands cl_RX9_142 g0 ⟨rfl, rfl⟩ rfl hl.1 rfl (show _ ≤ _ from by simp [Value.category]) (by decide) dX9_roomAt_19) hS24 (fun v25 locs25 hr25 hS25 => ?_)
    obtain ⟨f25_0, f25_1, f25_2⟩ := hr25
    have hlw9 := f25_0
    rw [hh9] at hlw9
    refine q_mmin E hl.1 w_526 mathw_min (a := v23.toInt) (b := v25.toInt) rfl rfl (by decide) (Nat.zero_le _) dX9_roomAt_22 (fun v26 mv26a mv26b mv26c => ?_)
    refine lv_goto (tgt := 29) hx hb dX9_roomAt_25 rfl ?_
    have c27 : v26.toInt = v26.toInt := rfl
    exact ret v26 H0 locs25 _ _ dX9_roomAt_29 ⟨rfl, ⟨by omega, by omega, by omega, by omega⟩⟩ hC0 hS25
  · refine q_if_eq hx hb (a := 0) (by decide) (tgt := 28) dX9_roomAt_5 rfl (fun c28 => ?_) (fun c28 => absurd c28 (by omega))
    (exfalso; omega)
set_option maxRecDepth 100000 in
set_option maxHeartbeats 4000000 in
theorem m_X11_room (l : Launch) (X : xW) (Γ : Nat → Option Nat) (H0 : Heap) (hC0 : Conf X Γ H0) (h0 : Nat) (g0 : Γ h0 = some 0) (p1 : Int32) {a1 : Int} (e1 : p1.toInt = a1) (p2 : Int32) {a2 : Int} (e2 : p2.toInt = a2) (yd : Nat) (hyd : sR H0 h0 (X.1.2 10 5) = some yd) (gyd : Γ yd = some 5) (sn wl su lw ic kn hd us br ar fi : Nat) (yn : YN X Γ H0 yd sn wl su lw ic kn hd us br ar fi) (hf9 : Int) (hfe : (a1 < (sI H0 yd (X.1.2 8 0)).toInt / 2 ∧ hf9 = 0) ∨ ((sI H0 yd (X.1.2 8 0)).toInt / 2 ≤ a1 ∧ hf9 = 1)) (hfo : hf9 < (sI H0 yd (X.1.2 8 2)).toInt) (r0 : 0 ≤ a1) (r1 : a1 ≤ 5) (r2 : a1 < (sI H0 yd (X.1.2 8 0)).toInt) (r3 : 0 ≤ a2) (r4 : a2 ≤ 5) (r5 : a2 < (sI H0 yd (X.1.2 8 1)).toInt) : Ctr l X Γ yX11_room cX11_room 3 (some .int) 4 [.ref h0, .int p1, .int p2] H0 (QI X Γ (fun v H1 => Kp X Γ [3, 29, 31, 32, 33, 34, 37, 39, 40, 50, 51, 52, 53, 54, 55, 56, 57, 58, 59, 60, 61, 62, 63, 65, 67, 68, 69, 70, 71] H0 H1 ∧ ((v.toInt ≤ fit H0 sn wl lw ar (sI H0 yd (X.1.2 8 0)).toInt (a2 * 6 + a1)) ∧ (v.toInt ≤ lwh H0 ar us hf9) ∧ (0 ≤ v.toInt) ∧ (v.toInt ≤ 99)))) := by
  refine q_enterI (own := "SnowForts") (by decide) rfl (Nat.le_of_ble_eq_true rfl) ?_
  intro p e s m args below meth c ls Qz E hl ret hS0
  have hx := E.1; have hb := E.2.1
  have hKp0 : Kp X Γ [3, 29, 31, 32, 33, 34, 37, 39, 40, 50, 51, 52, 53, 54, 55, 56, 57, 58, 59, 60, 61, 62, 63, 65, 67, 68, 69, 70, 71] H0 H0 := Kp.rf
  have hl : lv_has ls 3 [(0, .ref h0), (1, .int p1), (2, .int p2)] := hl
  have gsn := yn.sn.2; have gwl := yn.wl.2; have gsu := yn.su.2; have glw := yn.lw.2; have gic := yn.ic.2; have gkn := yn.kn.2; have ghd := yn.hd.2; have gus := yn.us.2; have gbr := yn.br.2; have gar := yn.ar.2; have gfi := yn.fi.2
  refine lv_aload_n hx hb dX11_room_0 rfl (lv_at hl 0 rfl) ?_
  refine q_getS E hC0 g0 fa_RX11_42 hyd dX11_room_1 (fun _ => ?_)
  refine lv_iload_n hx hb dX11_room_4 rfl (lv_at hl 1 rfl) ?_
  refine lv_iload_n hx hb dX11_room_5 rfl (lv_at hl 2 rfl) ?_
  refine q_goIp (q_runV (As := [.int p1, .int p2]) (rest := []) E hC0 hS0 (m_X9_isOwned l X Γ H0 hC0 yd gyd p1 (a1 := a1) e1 p2 (a2 := a2) e2) cw_X9_isOwned cl_RX11_238 gyd ⟨rfl, rfl⟩ rfl hl.1 rfl (Nat.zero_le _) (by decide) dX11_room_6) hS0 (fun v21 locs21 hr21 hS21 => ?_)
  rcases hr21 with ⟨rfl, f21a0, f21a1, f21a2, f21a3, f21a4, f21a5, f21a6⟩ | ⟨rfl, f21b⟩
  · refine q_if_eq hx hb (a := 1) (by decide) (tgt := 32) dX11_room_9 rfl (fun c22 => absurd c22 (by omega)) (fun c22 => ?_)
    refine lv_aload_n hx hb dX11_room_12 rfl (lv_at hl 0 rfl) ?_
    refine lv_aload_n hx hb dX11_room_13 rfl (lv_at hl 0 rfl) ?_
    refine q_getS E hC0 g0 fa_RX11_42 hyd dX11_room_14 (fun _ => ?_)
    refine lv_iload_n hx hb dX11_room_17 rfl (lv_at hl 2 rfl) ?_
    refine lv_bipush (v := 6) hx hb dX11_room_18 rfl ?_
    refine lv_imul hx hb dX11_room_20 (lv_topi (fun v23 ev23 => ?_))
    have ev23i : v23.toInt = (a2 * 6) := i_mul ev23 e2 (by decide) (by omega) (by omega)
    refine lv_iload_n hx hb dX11_room_21 rfl (lv_at hl 1 rfl) ?_
    refine lv_iadd hx hb dX11_room_22 (lv_topi (fun v24 ev24 => ?_))
    have ev24i : v24.toInt = ((a2 * 6) + a1) := i_add ev24 ev23i e1 (by omega) (by omega)
    refine q_goIp (q_runV (As := [.int v24]) (rest := [.ref h0]) E hC0 hS21 (m_X9_roomAt l X Γ H0 hC0 yd gyd v24 (a1 := ((a2 * 6) + a1)) ev24i sn wl su lw ic kn hd us br ar fi yn hf9 (by omega) (by omega) (by omega) (by omega) (by omega)) cw_X9_roomAt cl_RX11_257 gyd ⟨rfl, rfl⟩ rfl hl.1 rfl (show _ ≤ _ from by simp [Value.category]) (by decide) dX11_room_23) hS21 (fun v25 locs25 hr25 hS25 => ?_)
    obtain ⟨f25_0, f25_1, f25_2, f25_3⟩ := hr25
    refine q_goI (q_runV (As := [.int v25]) (rest := []) E hC0 hS25 (m_X11_answer l X Γ H0 hC0 h0 g0 v25 (a1 := v25.toInt) rfl) cw_X11_answer cl_RX11_191 g0 ⟨rfl, rfl⟩ rfl hl.1 rfl (Nat.zero_le _) (by decide) dX11_room_26) hS25 (fun v26 H26 locs26 hr26 hC26 hS26 => ?_)
    obtain ⟨hp26, hr26⟩ := hr26
    have hKp26 := hKp0.tr (hp26.mono rfl)
    have m27 : (sI H26 yd (X.1.2 8 0)).toInt = (sI H0 yd (X.1.2 8 0)).toInt := congrArg Int32.toInt (kp_I hp26 gyd (ci := 8) (k := 0) rfl (by decide) rfl)
    have m28 : (sI H26 yd (X.1.2 8 1)).toInt = (sI H0 yd (X.1.2 8 1)).toInt := congrArg Int32.toInt (kp_I hp26 gyd (ci := 8) (k := 1) rfl (by decide) rfl)
    have m29 : (sI H26 yd (X.1.2 8 2)).toInt = (sI H0 yd (X.1.2 8 2)).toInt := congrArg Int32.toInt (kp_I hp26 gyd (ci := 8) (k := 2) rfl (by decide) rfl)
    obtain ⟨f26_0, f26_1⟩ := hr26
    refine lv_goto (tgt := 37) hx hb dX11_room_29 rfl ?_
    have c30 : v26.toInt = v26.toInt := rfl
    exact ret v26 H26 locs26 _ _ dX11_room_37 ⟨hKp26, ⟨by omega, by omega, by omega, by omega⟩⟩ hC26 hS26
  · refine q_if_eq hx hb (a := 0) (by decide) (tgt := 32) dX11_room_9 rfl (fun c31 => ?_) (fun c31 => absurd c31 (by omega))
    (exfalso; omega)
set_option maxRecDepth 100000 in
set_option maxHeartbeats 4000000 in
theorem m_X9_mostOf (l : Launch) (X : xW) (Γ : Nat → Option Nat) (H0 : Heap) (hC0 : Conf X Γ H0) (h0 : Nat) (g0 : Γ h0 = some 5) (p1 : Int32) {a1 : Int} (e1 : p1.toInt = a1) (sn wl su lw ic kn hd us br ar fi : Nat) (yn : YN X Γ H0 h0 sn wl su lw ic kn hd us br ar fi) (r0 : 0 ≤ a1) (r1 : a1 ≤ 1) (r2 : a1 < (sI H0 h0 (X.1.2 8 2)).toInt) : Ctr l X Γ yX9_mostOf cX9_mostOf 4 (some .int) 3 [.ref h0, .int p1] H0 (QI X Γ (fun v H1 => H1 = H0 ∧ ((v.toInt = mst H0 sn wl lw ar hd us (sI H0 h0 (X.1.2 8 0)).toInt (sI H0 h0 (X.1.2 8 1)).toInt a1) ∧ (0 ≤ v.toInt) ∧ (v.toInt ≤ 40)))) := by
  refine q_enterI (own := "SnowForts$Yard") (by decide) rfl (Nat.le_of_ble_eq_true rfl) ?_
  intro p e s m args below meth c ls Qz E hl ret hS0
  have hx := E.1; have hb := E.2.1
  have hl : lv_has ls 4 [(0, .ref h0), (1, .int p1)] := hl
  have gsn := yn.sn.2; have gwl := yn.wl.2; have gsu := yn.su.2; have glw := yn.lw.2; have gic := yn.ic.2; have gkn := yn.kn.2; have ghd := yn.hd.2; have gus := yn.us.2; have gbr := yn.br.2; have gar := yn.ar.2; have gfi := yn.fi.2
  refine lv_aload_n hx hb dX9_mostOf_0 rfl (lv_at hl 0 rfl) ?_
  refine lv_iload_n hx hb dX9_mostOf_1 rfl (lv_at hl 1 rfl) ?_
  refine q_goIp (q_runV (As := [.int p1]) (rest := []) E hC0 hS0 (m_X9_isSchool l X Γ H0 hC0 h0 g0 p1 (a1 := a1) e1) cw_X9_isSchool cl_RX9_87 g0 ⟨rfl, rfl⟩ rfl hl.1 rfl (Nat.zero_le _) (by decide) dX9_mostOf_2) hS0 (fun v21 locs21 hr21 hS21 => ?_)
  rcases hr21 with ⟨rfl, f21a0, f21a1, f21a2⟩ | ⟨rfl, f21b⟩
  · refine q_if_ne hx hb (a := 1) (by decide) (tgt := 10) dX9_mostOf_5 rfl (fun c22 => ?_) (fun c22 => absurd c22 (by omega))
    refine lv_iconst (v := 0) hx hb dX9_mostOf_10 rfl ?_
    refine lv_istore_n hx hb dX9_mostOf_11 rfl hl (by decide) rfl (fun ls hl => ?_)
    replace hl : lv_has ls 4 [(2, .int 0), (0, .ref h0), (1, .int p1)] := hl
    refine lv_iconst (v := 0) hx hb dX9_mostOf_12 rfl ?_
    refine lv_istore_n hx hb dX9_mostOf_13 rfl hl (by decide) rfl (fun ls hl => ?_)
    replace hl : lv_has ls 4 [(3, .int 0), (2, .int 0), (0, .ref h0), (1, .int p1)] := hl
    have L14 : ∀ (n25 : Nat) (locs25 : List Loc) (v23 : Int32) (z23 : Int) (v24 : Int32) (z24 : Int) (ls : Array Slot), (36 - z23).toNat < n25 → v23.toInt = z23 → v24.toInt = z24 → z23 ≤ 36 → 0 ≤ z23 → z24 = sumF (inS (sI H0 h0 (X.1.2 8 0)).toInt (sI H0 h0 (X.1.2 8 1)).toInt a1 (fit H0 sn wl lw ar (sI H0 h0 (X.1.2 8 0)).toInt)) (z23).toNat → 0 ≤ z24 → z24 ≤ 99 * z23 → va_S (AΓ Γ) H0 H0 locs25 → lv_has ls 4 [(3, .int v23), (2, .int v24), (0, .ref h0), (1, .int p1)] → W p l e (rmL 3) s m args below meth c H0 locs25 0 0 Qz (F0 m 14 ls []) := by
      intro n25
      induction n25 with
      | zero => intro locs25 v23 z23 v24 z24 ls hm25 ev23 ev24 iv25_0 iv25_1 iv25_2 iv25_3 iv25_4 hS25 hl; exact absurd hm25 (Nat.not_lt_zero _)
      | succ n25 ih25 =>
        intro locs25 v23 z23 v24 z24 ls hm25 ev23 ev24 iv25_0 iv25_1 iv25_2 iv25_3 iv25_4 hS25 hl
        have hs9 := iv25_2
        refine lv_iload_n hx hb dX9_mostOf_14 rfl (lv_at hl 0 rfl) ?_
        refine lv_bipush (v := 36) hx hb dX9_mostOf_15 rfl ?_
        refine q_icmp_ge hx hb (a := z23) (b := 36) ev23 (by decide) (tgt := 43) dX9_mostOf_17 rfl (fun c26 => ?_) (fun c26 => ?_)
        · refine lv_iload_n hx hb dX9_mostOf_43 rfl (lv_at hl 1 rfl) ?_
          refine lv_aload_n hx hb dX9_mostOf_44 rfl (lv_at hl 2 rfl) ?_
          refine lv_iload_n hx hb dX9_mostOf_45 rfl (lv_at hl 3 rfl) ?_
          refine q_goIp (q_runV (As := [.int p1]) (rest := [.int v24]) E hC0 hS25 (m_X9_handsLeft l X Γ H0 hC0 h0 g0 p1 (a1 := a1) e1 sn wl su lw ic kn hd us br ar fi yn (by omega) (by omega)) cw_X9_handsLeft cl_RX9_129 g0 ⟨rfl, rfl⟩ rfl hl.1 rfl (show _ ≤ _ from by simp [Value.category]) (by decide) dX9_mostOf_46) hS25 (fun v27 locs27 hr27 hS27 => ?_)
          obtain ⟨f27_0, f27_1, f27_2, f27_3, f27_4⟩ := hr27
          refine lv_aload_n hx hb dX9_mostOf_49 rfl (lv_at hl 2 rfl) ?_
          refine lv_iload_n hx hb dX9_mostOf_50 rfl (lv_at hl 3 rfl) ?_
          refine q_goIp (q_runV (As := [.int p1]) (rest := [.int v27, .int v24]) E hC0 hS27 (m_X9_lawfulHands l X Γ H0 hC0 h0 g0 p1 (a1 := a1) e1 sn wl su lw ic kn hd us br ar fi yn (by omega) (by omega)) cw_X9_lawfulHands cl_RX9_142 g0 ⟨rfl, rfl⟩ rfl hl.1 rfl (show _ ≤ _ from by simp [Value.category]) (by decide) dX9_mostOf_51) hS27 (fun v28 locs28 hr28 hS28 => ?_)
          obtain ⟨f28_0, f28_1, f28_2⟩ := hr28
          refine q_mmin E hl.1 w_526 mathw_min (a := v27.toInt) (b := v28.toInt) rfl rfl (by decide) (show _ ≤ _ from by simp [Value.category]) dX9_mostOf_54 (fun v29 mv29a mv29b mv29c => ?_)
          refine q_mmin E hl.1 w_526 mathw_min (a := z24) (b := v29.toInt) ev24 rfl (by decide) (Nat.zero_le _) dX9_mostOf_57 (fun v30 mv30a mv30b mv30c => ?_)
          rw [show (z23).toNat = 36 by omega] at hs9
          have c31 : v30.toInt = v30.toInt := rfl
          exact ret v30 H0 locs28 _ _ dX9_mostOf_60 ⟨rfl, ⟨by unfold mst fitS; omega, by omega, by omega⟩⟩ hC0 hS28
        · refine lv_aload_n hx hb dX9_mostOf_20 rfl (lv_at hl 2 rfl) ?_
          refine lv_iload_n hx hb dX9_mostOf_21 rfl (lv_at hl 3 rfl) ?_
          refine lv_iload_n hx hb dX9_mostOf_22 rfl (lv_at hl 0 rfl) ?_
          refine q_goIp (q_runV (As := [.int p1, .int v23]) (rest := []) E hC0 hS25 (m_X9_isIn l X Γ H0 hC0 h0 g0 p1 (a1 := a1) e1 v23 (a2 := z23) ev23 (by omega) (by omega)) cw_X9_isIn cl_RX9_111 g0 ⟨rfl, rfl⟩ rfl hl.1 rfl (Nat.zero_le _) (by decide) dX9_mostOf_23) hS25 (fun v32 locs32 hr32 hS32 => ?_)
          rcases hr32 with ⟨rfl, hib⟩ | ⟨rfl, hib⟩
          · refine q_if_eq hx hb (a := 1) (by decide) (tgt := 37) dX9_mostOf_26 rfl (fun c33 => absurd c33 (by omega)) (fun c33 => ?_)
            refine lv_iload_n hx hb dX9_mostOf_29 rfl (lv_at hl 1 rfl) ?_
            refine lv_aload_n hx hb dX9_mostOf_30 rfl (lv_at hl 2 rfl) ?_
            refine lv_iload_n hx hb dX9_mostOf_31 rfl (lv_at hl 0 rfl) ?_
            refine q_goIp (q_runV (As := [.int v23]) (rest := [.int v24]) E hC0 hS32 (m_X9_fitsIn l X Γ H0 hC0 h0 g0 v23 (a1 := z23) ev23 sn wl su lw ic kn hd us br ar fi yn (by omega) (by omega)) cw_X9_fitsIn cl_RX9_149 g0 ⟨rfl, rfl⟩ rfl hl.1 rfl (show _ ≤ _ from by simp [Value.category]) (by decide) dX9_mostOf_32) hS32 (fun v34 locs34 hr34 hS34 => ?_)
            obtain ⟨f34_0, f34_1, f34_2⟩ := hr34
            refine lv_iadd hx hb dX9_mostOf_35 (lv_topi (fun v35 ev35 => ?_))
            have ev35i : v35.toInt = (z24 + v34.toInt) := i_add ev35 ev24 rfl (by omega) (by omega)
            refine lv_istore_n hx hb dX9_mostOf_36 rfl hl (by decide) rfl (fun ls hl => ?_)
            replace hl : lv_has ls 4 [(2, .int v35), (3, .int v23), (0, .ref h0), (1, .int p1)] := hl
            have hn9 : (z24 + v34.toInt) = sumF (inS (sI H0 h0 (X.1.2 8 0)).toInt (sI H0 h0 (X.1.2 8 1)).toInt a1 (fit H0 sn wl lw ar (sI H0 h0 (X.1.2 8 0)).toInt)) (z23 + 1).toNat := by rw [show (z23 + 1).toNat = (z23).toNat + 1 by omega]; first | exact sumF_in hs9 (by omega) hib (by omega) | exact sumF_out hs9 (by omega) hib
            obtain ⟨v36, ev36⟩ : ∃ z, z = v23 + Int32.ofInt 1 := ⟨_, rfl⟩
            have ev36i : v36.toInt = (z23 + 1) := i_add ev36 ev23 (by decide) (by omega) (by omega)
            refine lv_iinc hx hb dX9_mostOf_37 hl (k := 1) rfl ev36.symm (by decide) rfl (fun ls hl => ?_)
            replace hl : lv_has ls 4 [(3, .int v36), (2, .int v35), (0, .ref h0), (1, .int p1)] := hl
            refine lv_goto (tgt := 14) hx hb dX9_mostOf_40 rfl ?_
            exact ih25 locs34 v36 ((z23 + 1)) v35 ((z24 + v34.toInt)) ls (ms_lt hm25 (by omega) (by omega)) ev36i ev35i (by omega) (by omega) (hn9) (by omega) (by omega) hS34 hl
          · refine q_if_eq hx hb (a := 0) (by decide) (tgt := 37) dX9_mostOf_26 rfl (fun c37 => ?_) (fun c37 => absurd c37 (by omega))
            have hn9 : z24 = sumF (inS (sI H0 h0 (X.1.2 8 0)).toInt (sI H0 h0 (X.1.2 8 1)).toInt a1 (fit H0 sn wl lw ar (sI H0 h0 (X.1.2 8 0)).toInt)) (z23 + 1).toNat := by rw [show (z23 + 1).toNat = (z23).toNat + 1 by omega]; first | exact sumF_in hs9 (by omega) hib (by omega) | exact sumF_out hs9 (by omega) hib
            obtain ⟨v38, ev38⟩ : ∃ z, z = v23 + Int32.ofInt 1 := ⟨_, rfl⟩
            have ev38i : v38.toInt = (z23 + 1) := i_add ev38 ev23 (by decide) (by omega) (by omega)
            refine lv_iinc hx hb dX9_mostOf_37 hl (k := 0) rfl ev38.symm (by decide) rfl (fun ls hl => ?_)
            replace hl : lv_has ls 4 [(3, .int v38), (2, .int v24), (0, .ref h0), (1, .int p1)] := hl
            refine lv_goto (tgt := 14) hx hb dX9_mostOf_40 rfl ?_
            exact ih25 locs32 v38 ((z23 + 1)) v24 (z24) ls (ms_lt hm25 (by omega) (by omega)) ev38i ev24 (by omega) (by omega) (hn9) (by omega) (by omega) hS32 hl
    exact L14 _ locs21 0 0 0 0 ls (Nat.lt_succ_self _) (by decide) (by decide) (by omega) (by omega) (rfl) (by omega) (by omega) hS21 hl
  · refine q_if_ne hx hb (a := 0) (by decide) (tgt := 10) dX9_mostOf_5 rfl (fun c39 => absurd c39 (by omega)) (fun c39 => ?_)
    (exfalso; omega)
set_option maxRecDepth 100000 in
set_option maxHeartbeats 4000000 in
theorem m_X11_most (l : Launch) (X : xW) (Γ : Nat → Option Nat) (H0 : Heap) (hC0 : Conf X Γ H0) (h0 : Nat) (g0 : Γ h0 = some 0) (p1 : Int32) {a1 : Int} (e1 : p1.toInt = a1) (yd : Nat) (hyd : sR H0 h0 (X.1.2 10 5) = some yd) (gyd : Γ yd = some 5) (sn wl su lw ic kn hd us br ar fi : Nat) (yn : YN X Γ H0 yd sn wl su lw ic kn hd us br ar fi) (r0 : 0 ≤ a1) (r1 : a1 ≤ 1) (r2 : a1 < (sI H0 yd (X.1.2 8 2)).toInt) : Ctr l X Γ yX11_most cX11_most 2 (some .int) 4 [.ref h0, .int p1] H0 (QI X Γ (fun v H1 => Kp X Γ [3, 29, 31, 32, 33, 34, 37, 39, 40, 50, 51, 52, 53, 54, 55, 56, 57, 58, 59, 60, 61, 62, 63, 65, 67, 68, 69, 70, 71] H0 H1 ∧ ((v.toInt = mst H0 sn wl lw ar hd us (sI H0 yd (X.1.2 8 0)).toInt (sI H0 yd (X.1.2 8 1)).toInt a1) ∧ (0 ≤ v.toInt) ∧ (v.toInt ≤ 40)))) := by
  refine q_enterI (own := "SnowForts") (by decide) rfl (Nat.le_of_ble_eq_true rfl) ?_
  intro p e s m args below meth c ls Qz E hl ret hS0
  have hx := E.1; have hb := E.2.1
  have hKp0 : Kp X Γ [3, 29, 31, 32, 33, 34, 37, 39, 40, 50, 51, 52, 53, 54, 55, 56, 57, 58, 59, 60, 61, 62, 63, 65, 67, 68, 69, 70, 71] H0 H0 := Kp.rf
  have hl : lv_has ls 2 [(0, .ref h0), (1, .int p1)] := hl
  have gsn := yn.sn.2; have gwl := yn.wl.2; have gsu := yn.su.2; have glw := yn.lw.2; have gic := yn.ic.2; have gkn := yn.kn.2; have ghd := yn.hd.2; have gus := yn.us.2; have gbr := yn.br.2; have gar := yn.ar.2; have gfi := yn.fi.2
  refine lv_aload_n hx hb dX11_most_0 rfl (lv_at hl 0 rfl) ?_
  refine q_getS E hC0 g0 fa_RX11_42 hyd dX11_most_1 (fun _ => ?_)
  refine lv_iload_n hx hb dX11_most_4 rfl (lv_at hl 1 rfl) ?_
  refine q_goIp (q_runV (As := [.int p1]) (rest := []) E hC0 hS0 (m_X9_isSchool l X Γ H0 hC0 yd gyd p1 (a1 := a1) e1) cw_X9_isSchool cl_RX11_215 gyd ⟨rfl, rfl⟩ rfl hl.1 rfl (Nat.zero_le _) (by decide) dX11_most_5) hS0 (fun v21 locs21 hr21 hS21 => ?_)
  rcases hr21 with ⟨rfl, f21a0, f21a1, f21a2⟩ | ⟨rfl, f21b⟩
  · refine q_if_eq hx hb (a := 1) (by decide) (tgt := 26) dX11_most_8 rfl (fun c22 => absurd c22 (by omega)) (fun c22 => ?_)
    refine lv_aload_n hx hb dX11_most_11 rfl (lv_at hl 0 rfl) ?_
    refine lv_aload_n hx hb dX11_most_12 rfl (lv_at hl 0 rfl) ?_
    refine q_getS E hC0 g0 fa_RX11_42 hyd dX11_most_13 (fun _ => ?_)
    refine lv_iload_n hx hb dX11_most_16 rfl (lv_at hl 1 rfl) ?_
    refine q_goIp (q_runV (As := [.int p1]) (rest := [.ref h0]) E hC0 hS21 (m_X9_mostOf l X Γ H0 hC0 yd gyd p1 (a1 := a1) e1 sn wl su lw ic kn hd us br ar fi yn (by omega) (by omega) (by omega)) cw_X9_mostOf cl_RX11_260 gyd ⟨rfl, rfl⟩ rfl hl.1 rfl (show _ ≤ _ from by simp [Value.category]) (by decide) dX11_most_17) hS21 (fun v23 locs23 hr23 hS23 => ?_)
    obtain ⟨f23_0, f23_1, f23_2⟩ := hr23
    refine q_goI (q_runV (As := [.int v23]) (rest := []) E hC0 hS23 (m_X11_answer l X Γ H0 hC0 h0 g0 v23 (a1 := v23.toInt) rfl) cw_X11_answer cl_RX11_191 g0 ⟨rfl, rfl⟩ rfl hl.1 rfl (Nat.zero_le _) (by decide) dX11_most_20) hS23 (fun v24 H24 locs24 hr24 hC24 hS24 => ?_)
    obtain ⟨hp24, hr24⟩ := hr24
    have hKp24 := hKp0.tr (hp24.mono rfl)
    have m25 : (sI H24 yd (X.1.2 8 0)).toInt = (sI H0 yd (X.1.2 8 0)).toInt := congrArg Int32.toInt (kp_I hp24 gyd (ci := 8) (k := 0) rfl (by decide) rfl)
    have m26 : (sI H24 yd (X.1.2 8 1)).toInt = (sI H0 yd (X.1.2 8 1)).toInt := congrArg Int32.toInt (kp_I hp24 gyd (ci := 8) (k := 1) rfl (by decide) rfl)
    have m27 : (sI H24 yd (X.1.2 8 2)).toInt = (sI H0 yd (X.1.2 8 2)).toInt := congrArg Int32.toInt (kp_I hp24 gyd (ci := 8) (k := 2) rfl (by decide) rfl)
    obtain ⟨f24_0, f24_1⟩ := hr24
    refine lv_goto (tgt := 31) hx hb dX11_most_23 rfl ?_
    have c28 : v24.toInt = v24.toInt := rfl
    exact ret v24 H24 locs24 _ _ dX11_most_31 ⟨hKp24, ⟨by omega, by omega, by omega⟩⟩ hC24 hS24
  · refine q_if_eq hx hb (a := 0) (by decide) (tgt := 26) dX11_most_8 rfl (fun c29 => ?_) (fun c29 => absurd c29 (by omega))
    (exfalso; omega)
set_option maxRecDepth 100000 in
set_option maxHeartbeats 4000000 in
theorem m_X9_lastingWall (l : Launch) (X : xW) (Γ : Nat → Option Nat) (H0 : Heap) (hC0 : Conf X Γ H0) (h0 : Nat) (g0 : Γ h0 = some 5) (p1 : Int32) {a1 : Int} (e1 : p1.toInt = a1) (p2 : Int32) {a2 : Int} (e2 : p2.toInt = a2) (p3 : Int32) {a3 : Int} (e3 : p3.toInt = a3) (sn wl su lw ic kn hd us br ar fi : Nat) (yn : YN X Γ H0 h0 sn wl su lw ic kn hd us br ar fi) (r0 : 0 ≤ a1) (r1 : a1 ≤ 35) (r2 : 0 ≤ a2) (r3 : a2 ≤ 30) (r4 : 0 ≤ a3) (r5 : a3 ≤ 60) : Ctr l X Γ yX9_lastingWall cX9_lastingWall 9 (some .int) 1 [.ref h0, .int p1, .int p2, .int p3] H0 (QI X Γ (fun v H1 => H1 = H0 ∧ ((v.toInt = (lwP a3 (aI H0 ic a1) (aI H0 sn a1) (aI H0 wl a1) (a2 : Int).toNat).2) ∧ (0 ≤ v.toInt) ∧ (v.toInt ≤ 99)))) := by
  refine q_enterI (own := "SnowForts$Yard") (by decide) rfl (Nat.le_of_ble_eq_true rfl) ?_
  intro p e s m args below meth c ls Qz E hl ret hS0
  have hx := E.1; have hb := E.2.1
  have hl : lv_has ls 9 [(0, .ref h0), (1, .int p1), (2, .int p2), (3, .int p3)] := hl
  have gsn := yn.sn.2; have gwl := yn.wl.2; have gsu := yn.su.2; have glw := yn.lw.2; have gic := yn.ic.2; have gkn := yn.kn.2; have ghd := yn.hd.2; have gus := yn.us.2; have gbr := yn.br.2; have gar := yn.ar.2; have gfi := yn.fi.2
  refine lv_aload_n hx hb dX9_lastingWall_0 rfl (lv_at hl 0 rfl) ?_
  refine q_getS E hC0 g0 fa_RX9_34 yn.sn.1 dX9_lastingWall_1 (fun _ => ?_)
  refine lv_iload_n hx hb dX9_lastingWall_4 rfl (lv_at hl 1 rfl) ?_
  refine q_iald E hC0 gsn rfl rfl (fun _ h => h) (i_in (a := a1) e1 (by omega) (by omega)) dX9_lastingWall_5 (fun v21 ev21 lv21 uv21 => ?_)
  have m22 : aI H0 sn a1 = v21.toInt := aI_of e1 ev21
  refine lv_istore hx hb dX9_lastingWall_6 hl (by decide) rfl (fun ls hl => ?_)
  replace hl : lv_has ls 9 [(4, .int v21), (0, .ref h0), (1, .int p1), (2, .int p2), (3, .int p3)] := hl
  refine lv_aload_n hx hb dX9_lastingWall_8 rfl (lv_at hl 1 rfl) ?_
  refine q_getS E hC0 g0 fa_RX9_37 yn.wl.1 dX9_lastingWall_9 (fun _ => ?_)
  refine lv_iload_n hx hb dX9_lastingWall_12 rfl (lv_at hl 2 rfl) ?_
  refine q_iald E hC0 gwl rfl rfl (fun _ h => h) (i_in (a := a1) e1 (by omega) (by omega)) dX9_lastingWall_13 (fun v23 ev23 lv23 uv23 => ?_)
  have m24 : aI H0 wl a1 = v23.toInt := aI_of e1 ev23
  refine lv_istore hx hb dX9_lastingWall_14 hl (by decide) rfl (fun ls hl => ?_)
  replace hl : lv_has ls 9 [(5, .int v23), (4, .int v21), (0, .ref h0), (1, .int p1), (2, .int p2), (3, .int p3)] := hl
  refine lv_iconst (v := 0) hx hb dX9_lastingWall_16 rfl ?_
  refine lv_istore hx hb dX9_lastingWall_17 hl (by decide) rfl (fun ls hl => ?_)
  replace hl : lv_has ls 9 [(6, .int 0), (5, .int v23), (4, .int v21), (0, .ref h0), (1, .int p1), (2, .int p2), (3, .int p3)] := hl
  have L19 : ∀ (n28 : Nat) (locs28 : List Loc) (v25 : Int32) (z25 : Int) (v26 : Int32) (z26 : Int) (v27 : Int32) (z27 : Int) (ls : Array Slot), (a2 - z25).toNat < n28 → v25.toInt = z25 → v26.toInt = z26 → v27.toInt = z27 → 0 ≤ z25 → z27 = (lwP a3 (aI H0 ic a1) (aI H0 sn a1) (aI H0 wl a1) (z25).toNat).1 → z26 = (lwP a3 (aI H0 ic a1) (aI H0 sn a1) (aI H0 wl a1) (z25).toNat).2 → 0 ≤ z27 → z27 ≤ 99 → 0 ≤ z26 → z26 ≤ 99 → z25 ≤ a2 → va_S (AΓ Γ) H0 H0 locs28 → lv_has ls 9 [(6, .int v25), (5, .int v26), (4, .int v27), (0, .ref h0), (1, .int p1), (2, .int p2), (3, .int p3)] → W p l e (rmL 1) s m args below meth c H0 locs28 0 0 Qz (F0 m 19 ls []) := by
    intro n28
    induction n28 with
    | zero => intro locs28 v25 z25 v26 z26 v27 z27 ls hm28 ev25 ev26 ev27 iv28_0 iv28_1 iv28_2 iv28_3 iv28_4 iv28_5 iv28_6 iv28_7 hS28 hl; exact absurd hm28 (Nat.not_lt_zero _)
    | succ n28 ih28 =>
      intro locs28 v25 z25 v26 z26 v27 z27 ls hm28 ev25 ev26 ev27 iv28_0 iv28_1 iv28_2 iv28_3 iv28_4 iv28_5 iv28_6 iv28_7 hS28 hl
      have hp9 := iv28_1
      have hq9 := iv28_2
      refine lv_iload hx hb dX9_lastingWall_19 (lv_at hl 0 rfl) ?_
      refine lv_iload_n hx hb dX9_lastingWall_21 rfl (lv_at hl 5 rfl) ?_
      refine q_icmp_ge hx hb (a := z25) (b := a2) ev25 e2 (tgt := 91) dX9_lastingWall_22 rfl (fun c29 => ?_) (fun c29 => ?_)
      · refine lv_iload hx hb dX9_lastingWall_91 (lv_at hl 1 rfl) ?_
        rw [show (z25).toNat = (a2).toNat by omega] at hq9
        have c30 : v26.toInt = z26 := ev26
        exact ret v26 H0 locs28 _ _ dX9_lastingWall_93 ⟨rfl, ⟨by omega, by omega, by omega⟩⟩ hC0 hS28
      · refine lv_iload_n hx hb dX9_lastingWall_25 rfl (lv_at hl 6 rfl) ?_
        refine lv_iload hx hb dX9_lastingWall_26 (lv_at hl 2 rfl) ?_
        refine q_mmin E hl.1 w_526 mathw_min (a := a3) (b := z27) e3 ev27 (by decide) (Nat.zero_le _) dX9_lastingWall_28 (fun v31 mv31a mv31b mv31c => ?_)
        refine lv_istore hx hb dX9_lastingWall_31 hl (by decide) rfl (fun ls hl => ?_)
        replace hl : lv_has ls 9 [(7, .int v31), (6, .int v25), (5, .int v26), (4, .int v27), (0, .ref h0), (1, .int p1), (2, .int p2), (3, .int p3)] := hl
        refine lv_iload hx hb dX9_lastingWall_33 (lv_at hl 1 rfl) ?_
        refine q_if_ne hx hb (a := z25) ev25 (tgt := 52) dX9_lastingWall_35 rfl (fun c32 => ?_) (fun c32 => ?_)
        · refine lv_iconst (v := 0) hx hb dX9_lastingWall_52 rfl ?_
          refine lv_istore hx hb dX9_lastingWall_53 hl (by decide) rfl (fun ls hl => ?_)
          replace hl : lv_has ls 9 [(8, .int 0), (7, .int v31), (6, .int v25), (5, .int v26), (4, .int v27), (0, .ref h0), (1, .int p1), (2, .int p2), (3, .int p3)] := hl
          refine lv_iload hx hb dX9_lastingWall_55 (lv_at hl 4 rfl) ?_
          refine lv_iload hx hb dX9_lastingWall_57 (lv_at hl 1 rfl) ?_
          refine lv_isub hx hb dX9_lastingWall_59 (lv_topi (fun v33 ev33 => ?_))
          have ev33i : v33.toInt = (z27 - v31.toInt) := i_sub ev33 ev27 rfl (by omega) (by omega)
          refine lv_istore hx hb dX9_lastingWall_60 hl (by decide) rfl (fun ls hl => ?_)
          replace hl : lv_has ls 9 [(4, .int v33), (8, .int 0), (7, .int v31), (6, .int v25), (5, .int v26), (0, .ref h0), (1, .int p1), (2, .int p2), (3, .int p3)] := hl
          refine lv_iload hx hb dX9_lastingWall_62 (lv_at hl 4 rfl) ?_
          refine lv_iload hx hb dX9_lastingWall_64 (lv_at hl 1 rfl) ?_
          refine q_if_eq hx hb (a := 0) (by decide) (tgt := 73) dX9_lastingWall_66 rfl (fun c34 => ?_) (fun c34 => absurd c34 (by omega))
          refine lv_iload_n hx hb dX9_lastingWall_73 rfl (lv_at hl 8 rfl) ?_
          refine lv_iload hx hb dX9_lastingWall_74 (lv_at hl 2 rfl) ?_
          refine lv_isub hx hb dX9_lastingWall_76 (lv_topi (fun v35 ev35 => ?_))
          have ev35i : v35.toInt = (a3 - v31.toInt) := i_sub ev35 e3 rfl (by omega) (by omega)
          refine lv_iload hx hb dX9_lastingWall_77 (lv_at hl 4 rfl) ?_
          refine q_mmin E hl.1 w_526 mathw_min (a := (a3 - v31.toInt)) (b := z26) ev35i ev26 (by decide) (show _ ≤ _ from by simp [Value.category]) dX9_lastingWall_79 (fun v36 mv36a mv36b mv36c => ?_)
          refine lv_isub hx hb dX9_lastingWall_82 (lv_topi (fun v37 ev37 => ?_))
          have ev37i : v37.toInt = (z26 - v36.toInt) := i_sub ev37 ev26 rfl (by omega) (by omega)
          refine lv_istore hx hb dX9_lastingWall_83 hl (by decide) rfl (fun ls hl => ?_)
          replace hl : lv_has ls 9 [(5, .int v37), (4, .int v33), (8, .int 0), (7, .int v31), (6, .int v25), (0, .ref h0), (1, .int p1), (2, .int p2), (3, .int p3)] := hl
          have hn8 : (z27 - v31.toInt) = (lwP a3 (aI H0 ic a1) (aI H0 sn a1) (aI H0 wl a1) ((z25).toNat + 1)).1 := by show _ = (lwP a3 (aI H0 ic a1) (aI H0 sn a1) (aI H0 wl a1) (z25).toNat).1 - min a3 (lwP a3 (aI H0 ic a1) (aI H0 sn a1) (aI H0 wl a1) (z25).toNat).1; rw [← hp9]; omega
          have hn9 : (z26 - v36.toInt) = (lwP a3 (aI H0 ic a1) (aI H0 sn a1) (aI H0 wl a1) ((z25).toNat + 1)).2 := by
            have hs := lwP_s2 (e := a3) (ic := aI H0 ic a1) (s := aI H0 sn a1) (w := aI H0 wl a1) (i := (z25).toNat)
            rw [← hp9, ← hq9] at hs
            rw [hs]; split <;> omega
          rw [show (z25).toNat + 1 = (z25 + 1).toNat by omega] at hn8 hn9
          obtain ⟨v38, ev38⟩ : ∃ z, z = v25 + Int32.ofInt 1 := ⟨_, rfl⟩
          have ev38i : v38.toInt = (z25 + 1) := i_add ev38 ev25 (by decide) (by omega) (by omega)
          refine lv_iinc hx hb dX9_lastingWall_85 hl (k := 4) rfl ev38.symm (by decide) rfl (fun ls hl => ?_)
          replace hl : lv_has ls 9 [(6, .int v38), (5, .int v37), (4, .int v33), (8, .int 0), (7, .int v31), (0, .ref h0), (1, .int p1), (2, .int p2), (3, .int p3)] := hl
          refine lv_goto (tgt := 19) hx hb dX9_lastingWall_88 rfl ?_
          exact ih28 locs28 v38 ((z25 + 1)) v37 ((z26 - v36.toInt)) v33 ((z27 - v31.toInt)) ls (ms_lt hm28 (by omega) (by omega)) ev38i ev37i ev33i (by omega) (hn8) (hn9) (by omega) (by omega) (by omega) (by omega) (by omega) hS28 (lv_sub hl [0, 1, 2, 5, 6, 7, 8] rfl)
        · refine lv_aload_n hx hb dX9_lastingWall_38 rfl (lv_at hl 4 rfl) ?_
          refine q_getS E hC0 g0 fa_RX9_46 yn.ic.1 dX9_lastingWall_39 (fun _ => ?_)
          refine lv_iload_n hx hb dX9_lastingWall_42 rfl (lv_at hl 5 rfl) ?_
          refine q_iald E hC0 gic rfl rfl (fun _ h => h) (i_in (a := a1) e1 (by omega) (by omega)) dX9_lastingWall_43 (fun v39 ev39 lv39 uv39 => ?_)
          have m40 : aI H0 ic a1 = v39.toInt := aI_of e1 ev39
          refine lv_iconst (v := 1) hx hb dX9_lastingWall_44 rfl ?_
          refine q_icmp_ne hx hb (a := v39.toInt) (b := 1) rfl (by decide) (tgt := 52) dX9_lastingWall_45 rfl (fun c41 => ?_) (fun c41 => ?_)
          · refine lv_iconst (v := 0) hx hb dX9_lastingWall_52 rfl ?_
            refine lv_istore hx hb dX9_lastingWall_53 hl (by decide) rfl (fun ls hl => ?_)
            replace hl : lv_has ls 9 [(8, .int 0), (7, .int v31), (6, .int v25), (5, .int v26), (4, .int v27), (0, .ref h0), (1, .int p1), (2, .int p2), (3, .int p3)] := hl
            refine lv_iload hx hb dX9_lastingWall_55 (lv_at hl 4 rfl) ?_
            refine lv_iload hx hb dX9_lastingWall_57 (lv_at hl 1 rfl) ?_
            refine lv_isub hx hb dX9_lastingWall_59 (lv_topi (fun v42 ev42 => ?_))
            have ev42i : v42.toInt = (z27 - v31.toInt) := i_sub ev42 ev27 rfl (by omega) (by omega)
            refine lv_istore hx hb dX9_lastingWall_60 hl (by decide) rfl (fun ls hl => ?_)
            replace hl : lv_has ls 9 [(4, .int v42), (8, .int 0), (7, .int v31), (6, .int v25), (5, .int v26), (0, .ref h0), (1, .int p1), (2, .int p2), (3, .int p3)] := hl
            refine lv_iload hx hb dX9_lastingWall_62 (lv_at hl 4 rfl) ?_
            refine lv_iload hx hb dX9_lastingWall_64 (lv_at hl 1 rfl) ?_
            refine q_if_eq hx hb (a := 0) (by decide) (tgt := 73) dX9_lastingWall_66 rfl (fun c43 => ?_) (fun c43 => absurd c43 (by omega))
            refine lv_iload_n hx hb dX9_lastingWall_73 rfl (lv_at hl 8 rfl) ?_
            refine lv_iload hx hb dX9_lastingWall_74 (lv_at hl 2 rfl) ?_
            refine lv_isub hx hb dX9_lastingWall_76 (lv_topi (fun v44 ev44 => ?_))
            have ev44i : v44.toInt = (a3 - v31.toInt) := i_sub ev44 e3 rfl (by omega) (by omega)
            refine lv_iload hx hb dX9_lastingWall_77 (lv_at hl 4 rfl) ?_
            refine q_mmin E hl.1 w_526 mathw_min (a := (a3 - v31.toInt)) (b := z26) ev44i ev26 (by decide) (show _ ≤ _ from by simp [Value.category]) dX9_lastingWall_79 (fun v45 mv45a mv45b mv45c => ?_)
            refine lv_isub hx hb dX9_lastingWall_82 (lv_topi (fun v46 ev46 => ?_))
            have ev46i : v46.toInt = (z26 - v45.toInt) := i_sub ev46 ev26 rfl (by omega) (by omega)
            refine lv_istore hx hb dX9_lastingWall_83 hl (by decide) rfl (fun ls hl => ?_)
            replace hl : lv_has ls 9 [(5, .int v46), (4, .int v42), (8, .int 0), (7, .int v31), (6, .int v25), (0, .ref h0), (1, .int p1), (2, .int p2), (3, .int p3)] := hl
            have hn8 : (z27 - v31.toInt) = (lwP a3 (aI H0 ic a1) (aI H0 sn a1) (aI H0 wl a1) ((z25).toNat + 1)).1 := by show _ = (lwP a3 (aI H0 ic a1) (aI H0 sn a1) (aI H0 wl a1) (z25).toNat).1 - min a3 (lwP a3 (aI H0 ic a1) (aI H0 sn a1) (aI H0 wl a1) (z25).toNat).1; rw [← hp9]; omega
            have hn9 : (z26 - v45.toInt) = (lwP a3 (aI H0 ic a1) (aI H0 sn a1) (aI H0 wl a1) ((z25).toNat + 1)).2 := by
              have hs := lwP_s2 (e := a3) (ic := aI H0 ic a1) (s := aI H0 sn a1) (w := aI H0 wl a1) (i := (z25).toNat)
              rw [← hp9, ← hq9] at hs
              rw [hs]; split <;> omega
            rw [show (z25).toNat + 1 = (z25 + 1).toNat by omega] at hn8 hn9
            obtain ⟨v47, ev47⟩ : ∃ z, z = v25 + Int32.ofInt 1 := ⟨_, rfl⟩
            have ev47i : v47.toInt = (z25 + 1) := i_add ev47 ev25 (by decide) (by omega) (by omega)
            refine lv_iinc hx hb dX9_lastingWall_85 hl (k := 4) rfl ev47.symm (by decide) rfl (fun ls hl => ?_)
            replace hl : lv_has ls 9 [(6, .int v47), (5, .int v46), (4, .int v42), (8, .int 0), (7, .int v31), (0, .ref h0), (1, .int p1), (2, .int p2), (3, .int p3)] := hl
            refine lv_goto (tgt := 19) hx hb dX9_lastingWall_88 rfl ?_
            exact ih28 locs28 v47 ((z25 + 1)) v46 ((z26 - v45.toInt)) v42 ((z27 - v31.toInt)) ls (ms_lt hm28 (by omega) (by omega)) ev47i ev46i ev42i (by omega) (hn8) (hn9) (by omega) (by omega) (by omega) (by omega) (by omega) hS28 (lv_sub hl [0, 1, 2, 5, 6, 7, 8] rfl)
          · refine lv_iconst (v := 1) hx hb dX9_lastingWall_48 rfl ?_
            refine lv_goto (tgt := 53) hx hb dX9_lastingWall_49 rfl ?_
            refine lv_istore hx hb dX9_lastingWall_53 hl (by decide) rfl (fun ls hl => ?_)
            replace hl : lv_has ls 9 [(8, .int 1), (7, .int v31), (6, .int v25), (5, .int v26), (4, .int v27), (0, .ref h0), (1, .int p1), (2, .int p2), (3, .int p3)] := hl
            refine lv_iload hx hb dX9_lastingWall_55 (lv_at hl 4 rfl) ?_
            refine lv_iload hx hb dX9_lastingWall_57 (lv_at hl 1 rfl) ?_
            refine lv_isub hx hb dX9_lastingWall_59 (lv_topi (fun v48 ev48 => ?_))
            have ev48i : v48.toInt = (z27 - v31.toInt) := i_sub ev48 ev27 rfl (by omega) (by omega)
            refine lv_istore hx hb dX9_lastingWall_60 hl (by decide) rfl (fun ls hl => ?_)
            replace hl : lv_has ls 9 [(4, .int v48), (8, .int 1), (7, .int v31), (6, .int v25), (5, .int v26), (0, .ref h0), (1, .int p1), (2, .int p2), (3, .int p3)] := hl
            refine lv_iload hx hb dX9_lastingWall_62 (lv_at hl 4 rfl) ?_
            refine lv_iload hx hb dX9_lastingWall_64 (lv_at hl 1 rfl) ?_
            refine q_if_eq hx hb (a := 1) (by decide) (tgt := 73) dX9_lastingWall_66 rfl (fun c49 => absurd c49 (by omega)) (fun c49 => ?_)
            refine lv_iconst (v := 0) hx hb dX9_lastingWall_69 rfl ?_
            refine lv_goto (tgt := 82) hx hb dX9_lastingWall_70 rfl ?_
            refine lv_isub hx hb dX9_lastingWall_82 (lv_topi (fun v50 ev50 => ?_))
            have ev50i : v50.toInt = (z26 - 0) := i_sub ev50 ev26 (by decide) (by omega) (by omega)
            refine lv_istore hx hb dX9_lastingWall_83 hl (by decide) rfl (fun ls hl => ?_)
            replace hl : lv_has ls 9 [(5, .int v50), (4, .int v48), (8, .int 1), (7, .int v31), (6, .int v25), (0, .ref h0), (1, .int p1), (2, .int p2), (3, .int p3)] := hl
            have hn8 : (z27 - v31.toInt) = (lwP a3 (aI H0 ic a1) (aI H0 sn a1) (aI H0 wl a1) ((z25).toNat + 1)).1 := by show _ = (lwP a3 (aI H0 ic a1) (aI H0 sn a1) (aI H0 wl a1) (z25).toNat).1 - min a3 (lwP a3 (aI H0 ic a1) (aI H0 sn a1) (aI H0 wl a1) (z25).toNat).1; rw [← hp9]; omega
            have hn9 : (z26 - 0) = (lwP a3 (aI H0 ic a1) (aI H0 sn a1) (aI H0 wl a1) ((z25).toNat + 1)).2 := by
              have hs := lwP_s2 (e := a3) (ic := aI H0 ic a1) (s := aI H0 sn a1) (w := aI H0 wl a1) (i := (z25).toNat)
              rw [← hp9, ← hq9] at hs
              rw [hs]; split <;> omega
            rw [show (z25).toNat + 1 = (z25 + 1).toNat by omega] at hn8 hn9
            obtain ⟨v51, ev51⟩ : ∃ z, z = v25 + Int32.ofInt 1 := ⟨_, rfl⟩
            have ev51i : v51.toInt = (z25 + 1) := i_add ev51 ev25 (by decide) (by omega) (by omega)
            refine lv_iinc hx hb dX9_lastingWall_85 hl (k := 4) rfl ev51.symm (by decide) rfl (fun ls hl => ?_)
            replace hl : lv_has ls 9 [(6, .int v51), (5, .int v50), (4, .int v48), (8, .int 1), (7, .int v31), (0, .ref h0), (1, .int p1), (2, .int p2), (3, .int p3)] := hl
            refine lv_goto (tgt := 19) hx hb dX9_lastingWall_88 rfl ?_
            exact ih28 locs28 v51 ((z25 + 1)) v50 ((z26 - 0)) v48 ((z27 - v31.toInt)) ls (ms_lt hm28 (by omega) (by omega)) ev51i ev50i ev48i (by omega) (hn8) (hn9) (by omega) (by omega) (by omega) (by omega) (by omega) hS28 (lv_sub hl [0, 1, 2, 5, 6, 7, 8] rfl)
  exact L19 _ [] 0 0 v23 v23.toInt v21 v21.toInt ls (Nat.lt_succ_self _) (by decide) rfl rfl (by omega) (by show _ = aI H0 sn _; omega) (by show _ = aI H0 wl _; omega) (by omega) (by omega) (by omega) (by omega) (by omega) hS0 hl
set_option maxRecDepth 100000 in
set_option maxHeartbeats 4000000 in
theorem m_X9_lastingWalls (l : Launch) (X : xW) (Γ : Nat → Option Nat) (H0 : Heap) (hC0 : Conf X Γ H0) (h0 : Nat) (g0 : Γ h0 = some 5) (p1 : Int32) {a1 : Int} (e1 : p1.toInt = a1) (p2 : Int32) {a2 : Int} (e2 : p2.toInt = a2) (p3 : Int32) {a3 : Int} (e3 : p3.toInt = a3) (sn wl su lw ic kn hd us br ar fi : Nat) (yn : YN X Γ H0 h0 sn wl su lw ic kn hd us br ar fi) (r0 : 0 ≤ a1) (r1 : a1 ≤ 1) (r2 : 0 ≤ a2) (r3 : a2 ≤ 30) (r4 : 0 ≤ a3) (r5 : a3 ≤ 40) : Ctr l X Γ yX9_lastingWalls cX9_lastingWalls 6 (some .int) 2 [.ref h0, .int p1, .int p2, .int p3] H0 (QI X Γ (fun v H1 => H1 = H0 ∧ ((v.toInt = lwS H0 sn wl su ic (sI H0 h0 (X.1.2 8 0)).toInt (sI H0 h0 (X.1.2 8 1)).toInt a1 a2 a3)))) := by
  refine q_enterI (own := "SnowForts$Yard") (by decide) rfl (Nat.le_of_ble_eq_true rfl) ?_
  intro p e s m args below meth c ls Qz E hl ret hS0
  have hx := E.1; have hb := E.2.1
  have hl : lv_has ls 6 [(0, .ref h0), (1, .int p1), (2, .int p2), (3, .int p3)] := hl
  have gsn := yn.sn.2; have gwl := yn.wl.2; have gsu := yn.su.2; have glw := yn.lw.2; have gic := yn.ic.2; have gkn := yn.kn.2; have ghd := yn.hd.2; have gus := yn.us.2; have gbr := yn.br.2; have gar := yn.ar.2; have gfi := yn.fi.2
  refine lv_iconst (v := 0) hx hb dX9_lastingWalls_0 rfl ?_
  refine lv_istore hx hb dX9_lastingWalls_1 hl (by decide) rfl (fun ls hl => ?_)
  replace hl : lv_has ls 6 [(4, .int 0), (0, .ref h0), (1, .int p1), (2, .int p2), (3, .int p3)] := hl
  refine lv_iconst (v := 0) hx hb dX9_lastingWalls_3 rfl ?_
  refine lv_istore hx hb dX9_lastingWalls_4 hl (by decide) rfl (fun ls hl => ?_)
  replace hl : lv_has ls 6 [(5, .int 0), (4, .int 0), (0, .ref h0), (1, .int p1), (2, .int p2), (3, .int p3)] := hl
  have L6 : ∀ (n23 : Nat) (locs23 : List Loc) (v21 : Int32) (z21 : Int) (v22 : Int32) (z22 : Int) (ls : Array Slot), (36 - z21).toNat < n23 → v21.toInt = z21 → v22.toInt = z22 → z21 ≤ 36 → 0 ≤ z21 → z22 = sumF (inS (sI H0 h0 (X.1.2 8 0)).toInt (sI H0 h0 (X.1.2 8 1)).toInt a1 (lwC H0 sn wl su ic a2 a3)) (z21).toNat → 0 ≤ z22 → z22 ≤ 99 * z21 → va_S (AΓ Γ) H0 H0 locs23 → lv_has ls 6 [(5, .int v21), (4, .int v22), (0, .ref h0), (1, .int p1), (2, .int p2), (3, .int p3)] → W p l e (rmL 2) s m args below meth c H0 locs23 0 0 Qz (F0 m 6 ls []) := by
    intro n23
    induction n23 with
    | zero => intro locs23 v21 z21 v22 z22 ls hm23 ev21 ev22 iv23_0 iv23_1 iv23_2 iv23_3 iv23_4 hS23 hl; exact absurd hm23 (Nat.not_lt_zero _)
    | succ n23 ih23 =>
      intro locs23 v21 z21 v22 z22 ls hm23 ev21 ev22 iv23_0 iv23_1 iv23_2 iv23_3 iv23_4 hS23 hl
      have hs9 := iv23_2
      refine lv_iload hx hb dX9_lastingWalls_6 (lv_at hl 0 rfl) ?_
      refine lv_bipush (v := 36) hx hb dX9_lastingWalls_8 rfl ?_
      refine q_icmp_ge hx hb (a := z21) (b := 36) ev21 (by decide) (tgt := 50) dX9_lastingWalls_10 rfl (fun c24 => ?_) (fun c24 => ?_)
      · refine lv_iload hx hb dX9_lastingWalls_50 (lv_at hl 1 rfl) ?_
        rw [show (z21).toNat = 36 by omega] at hs9
        have c25 : v22.toInt = z22 := ev22
        exact ret v22 H0 locs23 _ _ dX9_lastingWalls_52 ⟨rfl, by unfold lwS; omega⟩ hC0 hS23
      · refine lv_aload_n hx hb dX9_lastingWalls_13 rfl (lv_at hl 2 rfl) ?_
        refine lv_iload_n hx hb dX9_lastingWalls_14 rfl (lv_at hl 3 rfl) ?_
        refine lv_iload hx hb dX9_lastingWalls_15 (lv_at hl 0 rfl) ?_
        refine q_goIp (q_runV (As := [.int p1, .int v21]) (rest := []) E hC0 hS23 (m_X9_isIn l X Γ H0 hC0 h0 g0 p1 (a1 := a1) e1 v21 (a2 := z21) ev21 (by omega) (by omega)) cw_X9_isIn cl_RX9_111 g0 ⟨rfl, rfl⟩ rfl hl.1 rfl (Nat.zero_le _) (by decide) dX9_lastingWalls_17) hS23 (fun v26 locs26 hr26 hS26 => ?_)
        rcases hr26 with ⟨rfl, hib⟩ | ⟨rfl, hib⟩
        · refine q_if_eq hx hb (a := 1) (by decide) (tgt := 44) dX9_lastingWalls_20 rfl (fun c27 => absurd c27 (by omega)) (fun c27 => ?_)
          refine lv_iload hx hb dX9_lastingWalls_23 (lv_at hl 1 rfl) ?_
          refine lv_aload_n hx hb dX9_lastingWalls_25 rfl (lv_at hl 2 rfl) ?_
          refine lv_iload hx hb dX9_lastingWalls_26 (lv_at hl 0 rfl) ?_
          refine lv_iload_n hx hb dX9_lastingWalls_28 rfl (lv_at hl 4 rfl) ?_
          refine lv_iload_n hx hb dX9_lastingWalls_29 rfl (lv_at hl 5 rfl) ?_
          refine lv_aload_n hx hb dX9_lastingWalls_30 rfl (lv_at hl 2 rfl) ?_
          refine q_getS E hC0 g0 fa_RX9_40 yn.su.1 dX9_lastingWalls_31 (fun _ => ?_)
          refine lv_iload hx hb dX9_lastingWalls_34 (lv_at hl 0 rfl) ?_
          refine q_iald E hC0 gsu rfl rfl (fun _ h => h) (i_in (a := z21) ev21 (by omega) (by omega)) dX9_lastingWalls_36 (fun v28 ev28 lv28 uv28 => ?_)
          have m29 : aI H0 su z21 = v28.toInt := aI_of ev21 ev28
          have hsun : aI H0 su z21 = v28.toInt := aI_of ev21 ev28
          refine lv_iadd hx hb dX9_lastingWalls_37 (lv_topi (fun v30 ev30 => ?_))
          have ev30i : v30.toInt = (a3 + v28.toInt) := i_add ev30 e3 rfl (by omega) (by omega)
          refine q_goIp (q_runV (As := [.int v21, .int p2, .int v30]) (rest := [.int v22]) E hC0 hS26 (m_X9_lastingWall l X Γ H0 hC0 h0 g0 v21 (a1 := z21) ev21 p2 (a2 := a2) e2 v30 (a3 := (a3 + v28.toInt)) ev30i sn wl su lw ic kn hd us br ar fi yn (by omega) (by omega) (by omega) (by omega) (by omega) (by omega)) cw_X9_lastingWall cl_RX9_168 g0 ⟨rfl, rfl⟩ rfl hl.1 rfl (show _ ≤ _ from by simp [Value.category]) (by decide) dX9_lastingWalls_38) hS26 (fun v31 locs31 hr31 hS31 => ?_)
          obtain ⟨f31_0, f31_1, f31_2⟩ := hr31
          have hlas := f31_0
          refine lv_iadd hx hb dX9_lastingWalls_41 (lv_topi (fun v32 ev32 => ?_))
          have ev32i : v32.toInt = (z22 + v31.toInt) := i_add ev32 ev22 rfl (by omega) (by omega)
          refine lv_istore hx hb dX9_lastingWalls_42 hl (by decide) rfl (fun ls hl => ?_)
          replace hl : lv_has ls 6 [(4, .int v32), (5, .int v21), (0, .ref h0), (1, .int p1), (2, .int p2), (3, .int p3)] := hl
          have hn9 : (z22 + v31.toInt) = sumF (inS (sI H0 h0 (X.1.2 8 0)).toInt (sI H0 h0 (X.1.2 8 1)).toInt a1 (lwC H0 sn wl su ic a2 a3)) (z21 + 1).toNat := by rw [show (z21 + 1).toNat = (z21).toNat + 1 by omega]; first | exact sumF_in hs9 (by omega) hib (by unfold lwC; rw [hsun]; exact hlas) | exact sumF_out hs9 (by omega) hib
          obtain ⟨v33, ev33⟩ : ∃ z, z = v21 + Int32.ofInt 1 := ⟨_, rfl⟩
          have ev33i : v33.toInt = (z21 + 1) := i_add ev33 ev21 (by decide) (by omega) (by omega)
          refine lv_iinc hx hb dX9_lastingWalls_44 hl (k := 1) rfl ev33.symm (by decide) rfl (fun ls hl => ?_)
          replace hl : lv_has ls 6 [(5, .int v33), (4, .int v32), (0, .ref h0), (1, .int p1), (2, .int p2), (3, .int p3)] := hl
          refine lv_goto (tgt := 6) hx hb dX9_lastingWalls_47 rfl ?_
          exact ih23 locs31 v33 ((z21 + 1)) v32 ((z22 + v31.toInt)) ls (ms_lt hm23 (by omega) (by omega)) ev33i ev32i (by omega) (by omega) (hn9) (by omega) (by omega) hS31 hl
        · refine q_if_eq hx hb (a := 0) (by decide) (tgt := 44) dX9_lastingWalls_20 rfl (fun c34 => ?_) (fun c34 => absurd c34 (by omega))
          have hn9 : z22 = sumF (inS (sI H0 h0 (X.1.2 8 0)).toInt (sI H0 h0 (X.1.2 8 1)).toInt a1 (lwC H0 sn wl su ic a2 a3)) (z21 + 1).toNat := by rw [show (z21 + 1).toNat = (z21).toNat + 1 by omega]; first | exact sumF_in hs9 (by omega) hib (by unfold lwC; rw [hsun]; exact hlas) | exact sumF_out hs9 (by omega) hib
          obtain ⟨v35, ev35⟩ : ∃ z, z = v21 + Int32.ofInt 1 := ⟨_, rfl⟩
          have ev35i : v35.toInt = (z21 + 1) := i_add ev35 ev21 (by decide) (by omega) (by omega)
          refine lv_iinc hx hb dX9_lastingWalls_44 hl (k := 0) rfl ev35.symm (by decide) rfl (fun ls hl => ?_)
          replace hl : lv_has ls 6 [(5, .int v35), (4, .int v22), (0, .ref h0), (1, .int p1), (2, .int p2), (3, .int p3)] := hl
          refine lv_goto (tgt := 6) hx hb dX9_lastingWalls_47 rfl ?_
          exact ih23 locs26 v35 ((z21 + 1)) v22 (z22) ls (ms_lt hm23 (by omega) (by omega)) ev35i ev22 (by omega) (by omega) (hn9) (by omega) (by omega) hS26 hl
  exact L6 _ [] 0 0 0 0 ls (Nat.lt_succ_self _) (by decide) (by decide) (by omega) (by omega) (rfl) (by omega) (by omega) hS0 hl
set_option maxRecDepth 100000 in
set_option maxHeartbeats 4000000 in
theorem m_X11_lasting (l : Launch) (X : xW) (Γ : Nat → Option Nat) (H0 : Heap) (hC0 : Conf X Γ H0) (h0 : Nat) (g0 : Γ h0 = some 0) (p1 : Int32) {a1 : Int} (e1 : p1.toInt = a1) (p2 : Int32) {a2 : Int} (e2 : p2.toInt = a2) (p3 : Int32) {a3 : Int} (e3 : p3.toInt = a3) (yd : Nat) (hyd : sR H0 h0 (X.1.2 10 5) = some yd) (gyd : Γ yd = some 5) (sn wl su lw ic kn hd us br ar fi : Nat) (yn : YN X Γ H0 yd sn wl su lw ic kn hd us br ar fi) (r0 : 0 ≤ a1) (r1 : a1 ≤ 1) (r2 : a1 < (sI H0 yd (X.1.2 8 2)).toInt) (r3 : 0 ≤ a2) (r4 : a2 ≤ 30) (r5 : 0 ≤ a3) (r6 : a3 ≤ 40) : Ctr l X Γ yX11_lasting cX11_lasting 4 (some .int) 3 [.ref h0, .int p1, .int p2, .int p3] H0 (QI X Γ (fun v H1 => Kp X Γ [3, 29, 31, 32, 33, 34, 37, 39, 40, 50, 51, 52, 53, 54, 55, 56, 57, 58, 59, 60, 61, 62, 63, 65, 67, 68, 69, 70, 71] H0 H1 ∧ ((v.toInt = lwS H0 sn wl su ic (sI H0 yd (X.1.2 8 0)).toInt (sI H0 yd (X.1.2 8 1)).toInt a1 a2 a3)))) := by
  refine q_enterI (own := "SnowForts") (by decide) rfl (Nat.le_of_ble_eq_true rfl) ?_
  intro p e s m args below meth c ls Qz E hl ret hS0
  have hx := E.1; have hb := E.2.1
  have hKp0 : Kp X Γ [3, 29, 31, 32, 33, 34, 37, 39, 40, 50, 51, 52, 53, 54, 55, 56, 57, 58, 59, 60, 61, 62, 63, 65, 67, 68, 69, 70, 71] H0 H0 := Kp.rf
  have hl : lv_has ls 4 [(0, .ref h0), (1, .int p1), (2, .int p2), (3, .int p3)] := hl
  have gsn := yn.sn.2; have gwl := yn.wl.2; have gsu := yn.su.2; have glw := yn.lw.2; have gic := yn.ic.2; have gkn := yn.kn.2; have ghd := yn.hd.2; have gus := yn.us.2; have gbr := yn.br.2; have gar := yn.ar.2; have gfi := yn.fi.2
  refine lv_aload_n hx hb dX11_lasting_0 rfl (lv_at hl 0 rfl) ?_
  refine q_getS E hC0 g0 fa_RX11_42 hyd dX11_lasting_1 (fun _ => ?_)
  refine lv_iload_n hx hb dX11_lasting_4 rfl (lv_at hl 1 rfl) ?_
  refine q_goIp (q_runV (As := [.int p1]) (rest := []) E hC0 hS0 (m_X9_isSchool l X Γ H0 hC0 yd gyd p1 (a1 := a1) e1) cw_X9_isSchool cl_RX11_215 gyd ⟨rfl, rfl⟩ rfl hl.1 rfl (Nat.zero_le _) (by decide) dX11_lasting_5) hS0 (fun v21 locs21 hr21 hS21 => ?_)
  rcases hr21 with ⟨rfl, f21a0, f21a1, f21a2⟩ | ⟨rfl, f21b⟩
  · refine q_if_ne hx hb (a := 1) (by decide) (tgt := 17) dX11_lasting_8 rfl (fun c22 => ?_) (fun c22 => absurd c22 (by omega))
    refine lv_iload_n hx hb dX11_lasting_17 rfl (lv_at hl 2 rfl) ?_
    refine lv_i2l (v := p2.toInt64) hx hb dX11_lasting_18 rfl (lv_topl (fun v23 ev23 => ?_))
    have ev23i : v23.toInt = a2 := l_ofi ev23.symm e2
    refine lv_iconst (v := 0) hx hb dX11_lasting_19 rfl ?_
    refine lv_bipush (v := 30) hx hb dX11_lasting_20 rfl ?_
    refine q_goIp (q_runS (As := [.long v23, .int 0, .int 30]) (rest := []) E hS21 (m_X11_isWithin l X Γ H0 hC0 v23 (a0 := a2) ev23i 0 (a1 := 0) (by decide) 30 (a2 := 30) (by decide)) cw_X11_isWithin cl_RX11_113 rfl hl.1 rfl (Nat.zero_le _) (by decide) dX11_lasting_22) hS21 (fun v24 locs24 hr24 hS24 => ?_)
    rcases hr24 with ⟨rfl, f24a0, f24a1⟩ | ⟨rfl, f24b⟩
    · refine q_if_eq hx hb (a := 1) (by decide) (tgt := 39) dX11_lasting_25 rfl (fun c25 => absurd c25 (by omega)) (fun c25 => ?_)
      refine lv_iload_n hx hb dX11_lasting_28 rfl (lv_at hl 3 rfl) ?_
      refine lv_i2l (v := p3.toInt64) hx hb dX11_lasting_29 rfl (lv_topl (fun v26 ev26 => ?_))
      have ev26i : v26.toInt = a3 := l_ofi ev26.symm e3
      refine lv_iconst (v := 0) hx hb dX11_lasting_30 rfl ?_
      refine lv_bipush (v := 40) hx hb dX11_lasting_31 rfl ?_
      refine q_goIp (q_runS (As := [.long v26, .int 0, .int 40]) (rest := []) E hS24 (m_X11_isWithin l X Γ H0 hC0 v26 (a0 := a3) ev26i 0 (a1 := 0) (by decide) 40 (a2 := 40) (by decide)) cw_X11_isWithin cl_RX11_113 rfl hl.1 rfl (Nat.zero_le _) (by decide) dX11_lasting_33) hS24 (fun v27 locs27 hr27 hS27 => ?_)
      rcases hr27 with ⟨rfl, f27a0, f27a1⟩ | ⟨rfl, f27b⟩
      · refine q_if_ne hx hb (a := 1) (by decide) (tgt := 45) dX11_lasting_36 rfl (fun c28 => ?_) (fun c28 => absurd c28 (by omega))
        refine lv_aload_n hx hb dX11_lasting_45 rfl (lv_at hl 0 rfl) ?_
        refine lv_aload_n hx hb dX11_lasting_46 rfl (lv_at hl 0 rfl) ?_
        refine q_getS E hC0 g0 fa_RX11_42 hyd dX11_lasting_47 (fun _ => ?_)
        refine lv_iload_n hx hb dX11_lasting_50 rfl (lv_at hl 1 rfl) ?_
        refine lv_iload_n hx hb dX11_lasting_51 rfl (lv_at hl 2 rfl) ?_
        refine lv_iload_n hx hb dX11_lasting_52 rfl (lv_at hl 3 rfl) ?_
        refine q_goIp (q_runV (As := [.int p1, .int p2, .int p3]) (rest := [.ref h0]) E hC0 hS27 (m_X9_lastingWalls l X Γ H0 hC0 yd gyd p1 (a1 := a1) e1 p2 (a2 := a2) e2 p3 (a3 := a3) e3 sn wl su lw ic kn hd us br ar fi yn (by omega) (by omega) (by omega) (by omega) (by omega) (by omega)) cw_X9_lastingWalls cl_RX11_281 gyd ⟨rfl, rfl⟩ rfl hl.1 rfl (show _ ≤ _ from by simp [Value.category]) (by decide) dX11_lasting_53) hS27 (fun v29 locs29 hr29 hS29 => ?_)
        have f29_0 := hr29
        refine q_goI (q_runV (As := [.int v29]) (rest := []) E hC0 hS29 (m_X11_answer l X Γ H0 hC0 h0 g0 v29 (a1 := v29.toInt) rfl) cw_X11_answer cl_RX11_191 g0 ⟨rfl, rfl⟩ rfl hl.1 rfl (Nat.zero_le _) (by decide) dX11_lasting_56) hS29 (fun v30 H30 locs30 hr30 hC30 hS30 => ?_)
        obtain ⟨hp30, hr30⟩ := hr30
        have hKp30 := hKp0.tr (hp30.mono rfl)
        have m31 : (sI H30 yd (X.1.2 8 0)).toInt = (sI H0 yd (X.1.2 8 0)).toInt := congrArg Int32.toInt (kp_I hp30 gyd (ci := 8) (k := 0) rfl (by decide) rfl)
        have m32 : (sI H30 yd (X.1.2 8 1)).toInt = (sI H0 yd (X.1.2 8 1)).toInt := congrArg Int32.toInt (kp_I hp30 gyd (ci := 8) (k := 1) rfl (by decide) rfl)
        have m33 : (sI H30 yd (X.1.2 8 2)).toInt = (sI H0 yd (X.1.2 8 2)).toInt := congrArg Int32.toInt (kp_I hp30 gyd (ci := 8) (k := 2) rfl (by decide) rfl)
        obtain ⟨f30_0, f30_1⟩ := hr30
        have c34 : v30.toInt = v30.toInt := rfl
        exact ret v30 H30 locs30 _ _ dX11_lasting_59 ⟨hKp30, by omega⟩ hC30 hS30
      · refine q_if_ne hx hb (a := 0) (by decide) (tgt := 45) dX11_lasting_36 rfl (fun c35 => absurd c35 (by omega)) (fun c35 => ?_)
        (exfalso; omega)
    · refine q_if_eq hx hb (a := 0) (by decide) (tgt := 39) dX11_lasting_25 rfl (fun c36 => ?_) (fun c36 => absurd c36 (by omega))
      (exfalso; omega)
  · refine q_if_ne hx hb (a := 0) (by decide) (tgt := 17) dX11_lasting_8 rfl (fun c37 => absurd c37 (by omega)) (fun c37 => ?_)
    (exfalso; omega)
set_option maxRecDepth 100000 in
set_option maxHeartbeats 4000000 in
theorem m_X9_topOf (l : Launch) (X : xW) (Γ : Nat → Option Nat) (H0 : Heap) (hC0 : Conf X Γ H0) (h0 : Nat) (g0 : Γ h0 = some 5) (p1 : Int32) {a1 : Int} (e1 : p1.toInt = a1) (sn wl su lw ic kn hd us br ar fi : Nat) (yn : YN X Γ H0 h0 sn wl su lw ic kn hd us br ar fi) (r0 : 0 ≤ a1) (r1 : a1 ≤ 35) : Ctr l X Γ yX9_topOf cX9_topOf 2 (some .int) 0 [.ref h0, .int p1] H0 (QI X Γ (fun v H1 => H1 = H0 ∧ ((v.toInt = aI H0 sn a1 + aI H0 wl a1) ∧ (0 ≤ v.toInt) ∧ (v.toInt ≤ 198)))) := by
  refine q_enterI (own := "SnowForts$Yard") (by decide) rfl (Nat.le_of_ble_eq_true rfl) ?_
  intro p e s m args below meth c ls Qz E hl ret hS0
  have hx := E.1; have hb := E.2.1
  have hl : lv_has ls 2 [(0, .ref h0), (1, .int p1)] := hl
  have gsn := yn.sn.2; have gwl := yn.wl.2; have gsu := yn.su.2; have glw := yn.lw.2; have gic := yn.ic.2; have gkn := yn.kn.2; have ghd := yn.hd.2; have gus := yn.us.2; have gbr := yn.br.2; have gar := yn.ar.2; have gfi := yn.fi.2
  refine lv_iload_n hx hb dX9_topOf_0 rfl (lv_at hl 1 rfl) ?_
  refine q_if_lt hx hb (a := a1) e1 (tgt := 26) dX9_topOf_1 rfl (fun c21 => absurd c21 (by omega)) (fun c21 => ?_)
  refine lv_iload_n hx hb dX9_topOf_4 rfl (lv_at hl 1 rfl) ?_
  refine lv_bipush (v := 36) hx hb dX9_topOf_5 rfl ?_
  refine q_icmp_ge hx hb (a := a1) (b := 36) e1 (by decide) (tgt := 26) dX9_topOf_7 rfl (fun c22 => absurd c22 (by omega)) (fun c22 => ?_)
  refine lv_aload_n hx hb dX9_topOf_10 rfl (lv_at hl 0 rfl) ?_
  refine q_getS E hC0 g0 fa_RX9_34 yn.sn.1 dX9_topOf_11 (fun _ => ?_)
  refine lv_iload_n hx hb dX9_topOf_14 rfl (lv_at hl 1 rfl) ?_
  refine q_iald E hC0 gsn rfl rfl (fun _ h => h) (i_in (a := a1) e1 (by omega) (by omega)) dX9_topOf_15 (fun v23 ev23 lv23 uv23 => ?_)
  have m24 : aI H0 sn a1 = v23.toInt := aI_of e1 ev23
  refine lv_aload_n hx hb dX9_topOf_16 rfl (lv_at hl 0 rfl) ?_
  refine q_getS E hC0 g0 fa_RX9_37 yn.wl.1 dX9_topOf_17 (fun _ => ?_)
  refine lv_iload_n hx hb dX9_topOf_20 rfl (lv_at hl 1 rfl) ?_
  refine q_iald E hC0 gwl rfl rfl (fun _ h => h) (i_in (a := a1) e1 (by omega) (by omega)) dX9_topOf_21 (fun v25 ev25 lv25 uv25 => ?_)
  have m26 : aI H0 wl a1 = v25.toInt := aI_of e1 ev25
  refine lv_iadd hx hb dX9_topOf_22 (lv_topi (fun v27 ev27 => ?_))
  have ev27i : v27.toInt = (v23.toInt + v25.toInt) := i_add ev27 rfl rfl (by omega) (by omega)
  refine lv_goto (tgt := 27) hx hb dX9_topOf_23 rfl ?_
  have c28 : v27.toInt = (v23.toInt + v25.toInt) := ev27i
  exact ret v27 H0 [] _ _ dX9_topOf_27 ⟨rfl, ⟨by omega, by omega, by omega⟩⟩ hC0 hS0
set_option maxRecDepth 100000 in
set_option maxHeartbeats 4000000 in
theorem m_X7_comesTo (l : Launch) (X : xW) (Γ : Nat → Option Nat) (H0 : Heap) (hC0 : Conf X Γ H0) (h0 : Nat) (g0 : Γ h0 = some 7) (h1 : Nat) (g1 : Γ h1 = some 5) (sn wl su lw ic kn hd us br ar fi : Nat) (yn : YN X Γ H0 h1 sn wl su lw ic kn hd us br ar fi) (pa hh wt : Nat) (wn : WN X Γ H0 h0 pa hh wt) : Ctr l X Γ yX7_comesTo cX7_comesTo 5 (some .boolean) 1 [.ref h0, .ref h1] H0 (QI X Γ (fun v H1 => Kp X Γ [3, 29, 31, 32, 33, 34, 37, 39, 40, 50, 51, 52, 53, 54, 55, 56, 57, 58, 59, 60, 61, 62, 63, 65, 67, 68, 70, 71, 72] H0 H1 ∧ ((v = 1 ∧ ((sI H0 h1 (X.1.2 8 0)).toInt ≤ 6 ∧ (sI H1 h0 (X.1.2 7 4)).toInt = (sI H0 h1 (X.1.2 8 0)).toInt ∧ (sI H1 h0 (X.1.2 7 5)).toInt = (sI H0 h1 (X.1.2 8 1)).toInt ∧ ¬ ((sI H0 h0 (X.1.2 7 4)).toInt = (sI H0 h1 (X.1.2 8 0)).toInt ∧ (sI H0 h0 (X.1.2 7 5)).toInt = (sI H0 h1 (X.1.2 8 1)).toInt ∧ ∀ z : Int, 0 ≤ z → z < 36 → aI H0 hh z = aI H0 sn z + aI H0 wl z) ∧ ∀ z : Int, 0 ≤ z → z < 36 → aI H1 hh z = aI H0 sn z + aI H0 wl z)) ∨ (v = 0 ∧ ((sI H1 h0 (X.1.2 7 4)).toInt = (sI H0 h1 (X.1.2 8 0)).toInt ∧ (sI H1 h0 (X.1.2 7 5)).toInt = (sI H0 h1 (X.1.2 8 1)).toInt ∧ (∀ z : Int, 0 ≤ z → z < 36 → aI H1 hh z = aI H0 sn z + aI H0 wl z) ∧ (sI H0 h0 (X.1.2 7 4)).toInt = (sI H0 h1 (X.1.2 8 0)).toInt ∧ (sI H0 h0 (X.1.2 7 5)).toInt = (sI H0 h1 (X.1.2 8 1)).toInt ∧ ∀ j : Nat, (sI H1 hh j).toInt = (sI H0 hh j).toInt))))) := by
  refine q_enterZ (own := "SnowForts$Walk") (by decide) rfl (Nat.le_of_ble_eq_true rfl) ?_
  intro p e s m args below meth c ls Qz E hl ret hS0
  have hx := E.1; have hb := E.2.1
  have hKp0 : Kp X Γ [3, 29, 31, 32, 33, 34, 37, 39, 40, 50, 51, 52, 53, 54, 55, 56, 57, 58, 59, 60, 61, 62, 63, 65, 67, 68, 70, 71, 72] H0 H0 := Kp.rf
  have hl : lv_has ls 5 [(0, .ref h0), (1, .ref h1)] := hl
  have gsn := yn.sn.2; have gwl := yn.wl.2; have gsu := yn.su.2; have glw := yn.lw.2; have gic := yn.ic.2; have gkn := yn.kn.2; have ghd := yn.hd.2; have gus := yn.us.2; have gbr := yn.br.2; have gar := yn.ar.2; have gfi := yn.fi.2
  have gpa := wn.pa.2; have ghh := wn.hh.2; have gwt := wn.wt.2
  have hw6 := f_bd hC0 g1 (ci := 8) (k := 0) rfl rfl
  refine lv_aload_n hx hb dX7_comesTo_0 rfl (lv_at hl 0 rfl) ?_
  refine q_getI E hC0 g0 fa_RX7_43 dX7_comesTo_1 (fun v21 ev21 lv21 uv21 => ?_)
  have m22 : (sI H0 h0 (X.1.2 7 4)).toInt = v21.toInt := (congrArg Int32.toInt ev21).trans rfl
  refine lv_aload_n hx hb dX7_comesTo_4 rfl (lv_at hl 1 rfl) ?_
  refine q_getI E hC0 g1 fa_RX7_46 dX7_comesTo_5 (fun v23 ev23 lv23 uv23 => ?_)
  have m24 : (sI H0 h1 (X.1.2 8 0)).toInt = v23.toInt := congrArg Int32.toInt ev23
  refine q_icmp_ne hx hb (a := v21.toInt) (b := v23.toInt) rfl rfl (tgt := 22) dX7_comesTo_8 rfl (fun c25 => ?_) (fun c25 => ?_)
  · refine lv_iconst (v := 1) hx hb dX7_comesTo_22 rfl ?_
    refine lv_goto (tgt := 27) hx hb dX7_comesTo_23 rfl ?_
    refine lv_istore_n hx hb dX7_comesTo_27 rfl hl (by decide) rfl (fun ls hl => ?_)
    replace hl : lv_has ls 5 [(2, .int 1), (0, .ref h0), (1, .ref h1)] := hl
    refine lv_aload_n hx hb dX7_comesTo_28 rfl (lv_at hl 1 rfl) ?_
    refine lv_aload_n hx hb dX7_comesTo_29 rfl (lv_at hl 2 rfl) ?_
    refine q_getI E hC0 g1 fa_RX7_46 dX7_comesTo_30 (fun v26 ev26 lv26 uv26 => ?_)
    have qv26 := ev23.symm.trans ev26; subst qv26
    refine q_put E hC0 hS0 g0 fp_RX7_43 (tv_I rfl (by omega) (by omega)) rfl rfl dX7_comesTo_33 (fun H27 locs27 hC27 hS27 U27 => ?_)
    have hKp27 := Kp.upO E g0 fp_RX7_43 rfl U27 hKp0
    have e28 := up_I U27
    have m29 : (sI H27 h0 (X.1.2 7 4)).toInt = v23.toInt := (congrArg Int32.toInt e28).trans rfl
    have m30 : (sI H27 h1 (X.1.2 8 0)).toInt = (sI H0 h1 (X.1.2 8 0)).toInt := congrArg Int32.toInt (up_nI U27 (ne_k g1 g0 (by decide)))
    have m31 : (sI H27 h1 (X.1.2 8 1)).toInt = (sI H0 h1 (X.1.2 8 1)).toInt := congrArg Int32.toInt (up_nI U27 (ne_k g1 g0 (by decide)))
    have m32 : (sI H27 h0 (X.1.2 7 5)).toInt = (sI H0 h0 (X.1.2 7 5)).toInt := congrArg Int32.toInt (up_nI U27 (ne_f E 7 5 4 rfl (by decide) (by decide) (by decide)))
    have hq1 : ∀ j : Nat, sI H27 hh j = sI H0 hh j := fun j => up_nI U27 (ne_k ghh g0 (by decide))
    refine lv_aload_n hx hb dX7_comesTo_36 rfl (lv_at hl 1 rfl) ?_
    refine lv_aload_n hx hb dX7_comesTo_37 rfl (lv_at hl 2 rfl) ?_
    refine q_getI E hC27 g1 fa_RX7_52 dX7_comesTo_38 (fun v33 ev33 lv33 uv33 => ?_)
    have m34 : (sI H27 h1 (X.1.2 8 1)).toInt = v33.toInt := congrArg Int32.toInt ev33
    refine q_put E hC27 hS27 g0 fp_RX7_49 (tv_I rfl (by omega) (by omega)) rfl rfl dX7_comesTo_41 (fun H35 locs35 hC35 hS35 U35 => ?_)
    have hKp35 := Kp.upO E g0 fp_RX7_49 rfl U35 hKp27
    have e36 := up_I U35
    have m37 : (sI H35 h0 (X.1.2 7 5)).toInt = v33.toInt := (congrArg Int32.toInt e36).trans rfl
    have m38 : (sI H35 h1 (X.1.2 8 0)).toInt = (sI H27 h1 (X.1.2 8 0)).toInt := congrArg Int32.toInt (up_nI U35 (ne_k g1 g0 (by decide)))
    have m39 : (sI H35 h1 (X.1.2 8 1)).toInt = (sI H27 h1 (X.1.2 8 1)).toInt := congrArg Int32.toInt (up_nI U35 (ne_k g1 g0 (by decide)))
    have m40 : (sI H35 h0 (X.1.2 7 4)).toInt = (sI H27 h0 (X.1.2 7 4)).toInt := congrArg Int32.toInt (up_nI U35 (ne_f E 7 4 5 rfl (by decide) (by decide) (by decide)))
    have hq2 : ∀ j : Nat, sI H35 hh j = sI H27 hh j := fun j => up_nI U35 (ne_k ghh g0 (by decide))
    refine lv_iconst (v := 0) hx hb dX7_comesTo_44 rfl ?_
    refine lv_istore_n hx hb dX7_comesTo_45 rfl hl (by decide) rfl (fun ls hl => ?_)
    replace hl : lv_has ls 5 [(3, .int 0), (2, .int 1), (0, .ref h0), (1, .ref h1)] := hl
    have L46 : ∀ (n43 : Nat) (H43 : Heap) (locs43 : List Loc) (v41 : Int32) (z41 : Int) (v42 : Int32) (z42 : Int) (ls : Array Slot), (36 - z41).toNat < n43 → v41.toInt = z41 → v42.toInt = z42 → z41 ≤ 36 → 0 ≤ z41 → (∀ z : Int, 0 ≤ z → z < z41 → aI H43 hh z = aI H0 sn z + aI H0 wl z) → (z42 = 0 → ∀ j : Nat, (sI H43 hh j).toInt = (sI H0 hh j).toInt) → (z42 = 0 → (sI H0 h0 (X.1.2 7 4)).toInt = (sI H0 h1 (X.1.2 8 0)).toInt ∧ (sI H0 h0 (X.1.2 7 5)).toInt = (sI H0 h1 (X.1.2 8 1)).toInt) → (sI H43 h0 (X.1.2 7 4)).toInt = (sI H0 h1 (X.1.2 8 0)).toInt → (sI H43 h0 (X.1.2 7 5)).toInt = (sI H0 h1 (X.1.2 8 1)).toInt → (z42 = 0 ∨ ¬ ((sI H0 h0 (X.1.2 7 4)).toInt = (sI H0 h1 (X.1.2 8 0)).toInt ∧ (sI H0 h0 (X.1.2 7 5)).toInt = (sI H0 h1 (X.1.2 8 1)).toInt ∧ ∀ z : Int, 0 ≤ z → z < 36 → aI H0 hh z = aI H0 sn z + aI H0 wl z)) → 0 ≤ z42 → z42 ≤ 1 → Conf X Γ H43 → va_S (AΓ Γ) H0 H43 locs43 → Kp X Γ [3, 29, 31, 32, 33, 34, 37, 39, 40, 50, 51, 52, 53, 54, 55, 56, 57, 58, 59, 60, 61, 62, 63, 65, 67, 68, 70, 71, 72] H0 H43 → lv_has ls 5 [(3, .int v41), (2, .int v42), (0, .ref h0), (1, .ref h1)] → W p l e (rmL 1) s m args below meth c H43 locs43 0 0 Qz (F0 m 46 ls []) := by
      intro n43
      induction n43 with
      | zero => intro H43 locs43 v41 z41 v42 z42 ls hm43 ev41 ev42 iv43_0 iv43_1 iv43_2 iv43_3 iv43_4 iv43_5 iv43_6 iv43_7 iv43_8 iv43_9 hC43 hS43 hKp43 hl; exact absurd hm43 (Nat.not_lt_zero _)
      | succ n43 ih43 =>
        intro H43 locs43 v41 z41 v42 z42 ls hm43 ev41 ev42 iv43_0 iv43_1 iv43_2 iv43_3 iv43_4 iv43_5 iv43_6 iv43_7 iv43_8 iv43_9 hC43 hS43 hKp43 hl
        have htp := iv43_2
        have hsm := iv43_3
        have hwd := iv43_4
        have hdf := iv43_7
        refine lv_iload_n hx hb dX7_comesTo_46 rfl (lv_at hl 0 rfl) ?_
        refine lv_bipush (v := 36) hx hb dX7_comesTo_47 rfl ?_
        refine q_icmp_ge hx hb (a := z41) (b := 36) ev41 (by decide) (tgt := 92) dX7_comesTo_49 rfl (fun c44 => ?_) (fun c44 => ?_)
        · refine lv_iload_n hx hb dX7_comesTo_92 rfl (lv_at hl 1 rfl) ?_
          rcases z01 ev42 (by omega) (by omega) with hz9 | hz9
          · have hz8 : z42 = 0 := by rw [← ev42, hz9]; decide
            exact ret v42 H43 locs43 _ _ dX7_comesTo_93 (Or.inl hz9) ⟨hKp43, Or.inr ⟨hz9, ⟨by omega, by omega, fun z z0 z1 => htp z z0 (by omega), (hwd hz8).1, (hwd hz8).2, hsm hz8⟩⟩⟩ hC43 hS43
          · have hz8 : z42 = 1 := by rw [← ev42, hz9]; decide
            exact ret v42 H43 locs43 _ _ dX7_comesTo_93 (Or.inr hz9) ⟨hKp43, Or.inl ⟨hz9, ⟨by omega, by omega, by omega, Or.resolve_left hdf (by omega), fun z z0 z1 => htp z z0 (by omega)⟩⟩⟩ hC43 hS43
        · refine lv_aload_n hx hb dX7_comesTo_52 rfl (lv_at hl 3 rfl) ?_
          refine lv_iload_n hx hb dX7_comesTo_53 rfl (lv_at hl 0 rfl) ?_
          refine q_goIp (q_runV (As := [.int v41]) (rest := []) E hC43 hS43 (m_X9_topOf l X Γ H43 hC43 h1 g1 v41 (a1 := z41) ev41 sn wl su lw ic kn hd us br ar fi (yn.kp g1 hKp43 rfl) (by omega) (by omega)) cw_X9_topOf cl_RX7_53 g1 ⟨rfl, rfl⟩ rfl hl.1 rfl (Nat.zero_le _) (by decide) dX7_comesTo_54) hS43 (fun v45 locs45 hr45 hS45 => ?_)
          obtain ⟨f45_0, f45_1, f45_2⟩ := hr45
          have ht9 : v45.toInt = aI H0 sn z41 + aI H0 wl z41 := by rw [← aI_kp (z := z41) hKp43 gsn rfl rfl, ← aI_kp (z := z41) hKp43 gwl rfl rfl]; exact f45_0
          refine lv_istore hx hb dX7_comesTo_57 hl (by decide) rfl (fun ls hl => ?_)
          replace hl : lv_has ls 5 [(4, .int v45), (3, .int v41), (2, .int v42), (0, .ref h0), (1, .ref h1)] := hl
          refine lv_iload_n hx hb dX7_comesTo_59 rfl (lv_at hl 2 rfl) ?_
          refine lv_aload_n hx hb dX7_comesTo_60 rfl (lv_at hl 3 rfl) ?_
          refine q_getS E hC43 g0 fa_RX7_15 (wn.kp g0 hKp43 rfl).hh.1 dX7_comesTo_61 (fun _ => ?_)
          refine lv_iload_n hx hb dX7_comesTo_64 rfl (lv_at hl 1 rfl) ?_
          refine q_iald E hC43 ghh rfl rfl (fun _ h => h) (i_in (a := z41) ev41 (by omega) (by omega)) dX7_comesTo_65 (fun v46 ev46 lv46 uv46 => ?_)
          have m47 : aI H43 hh z41 = v46.toInt := aI_of ev41 ev46
          have ho9 : aI H43 hh z41 = v46.toInt := aI_of ev41 ev46
          refine lv_iload hx hb dX7_comesTo_66 (lv_at hl 0 rfl) ?_
          refine q_icmp_eq hx hb (a := v46.toInt) (b := v45.toInt) rfl rfl (tgt := 75) dX7_comesTo_68 rfl (fun c48 => ?_) (fun c48 => ?_)
          · refine lv_iconst (v := 0) hx hb dX7_comesTo_75 rfl ?_
            refine lv_ior hx hb dX7_comesTo_76 (lv_topi (fun v49 ev49 => ?_))
            have bv49 := i_or01 ev49 ev42 (show (0 : Int32).toInt = 0 from by decide) (by omega) (by omega) (by omega) (by omega)
            have ov49 := i_or0 ev49 ev42 (show (0 : Int32).toInt = 0 from by decide) (by omega) (by omega) (by omega) (by omega)
            have wv49 := i_or2 ev49 ev42 (show (0 : Int32).toInt = 0 from by decide) (by omega) (by omega) (by omega) (by omega)
            refine lv_istore_n hx hb dX7_comesTo_77 rfl hl (by decide) rfl (fun ls hl => ?_)
            replace hl : lv_has ls 5 [(2, .int v49), (4, .int v45), (3, .int v41), (0, .ref h0), (1, .ref h1)] := hl
            have hdf2 : v49.toInt = 0 ∨ ¬ ((sI H0 h0 (X.1.2 7 4)).toInt = (sI H0 h1 (X.1.2 8 0)).toInt ∧ (sI H0 h0 (X.1.2 7 5)).toInt = (sI H0 h1 (X.1.2 8 1)).toInt ∧ ∀ z : Int, 0 ≤ z → z < 36 → aI H0 hh z = aI H0 sn z + aI H0 wl z) := by
              rcases hdf with q | q
              · by_cases e : v49.toInt = 0
                · exact Or.inl e
                · exact Or.inr (fun q9 => by have k1 := q9.2.2 z41 (by omega) (by omega); have k3 : aI H43 hh z41 = aI H0 hh z41 := hsm q (z41 : Int).toNat; omega)
              · exact Or.inr q
            refine lv_aload_n hx hb dX7_comesTo_78 rfl (lv_at hl 3 rfl) ?_
            refine q_getS E hC43 g0 fa_RX7_15 (wn.kp g0 hKp43 rfl).hh.1 dX7_comesTo_79 (fun _ => ?_)
            refine lv_iload_n hx hb dX7_comesTo_82 rfl (lv_at hl 2 rfl) ?_
            refine lv_iload hx hb dX7_comesTo_83 (lv_at hl 1 rfl) ?_
            refine q_iast E hC43 hS45 ghh (by decide) rfl rfl (i_in (a := z41) ev41 (by omega) (by omega)) (tv_I rfl (by omega) (by omega)) dX7_comesTo_85 (fun H50 locs50 hC50 hS50 U50 => ?_)
            have hKp50 := Kp.upA ghh rfl (by decide) rfl U50 hKp43
            have m51 : aI H50 hh z41 = v45.toInt := aI_up U50 ev41 rfl
            have m52 : (sI H50 h1 (X.1.2 8 0)).toInt = (sI H43 h1 (X.1.2 8 0)).toInt := congrArg Int32.toInt (up_nI U50 (ne_k g1 ghh (by decide)))
            have m53 : (sI H50 h1 (X.1.2 8 1)).toInt = (sI H43 h1 (X.1.2 8 1)).toInt := congrArg Int32.toInt (up_nI U50 (ne_k g1 ghh (by decide)))
            have m54 : (sI H50 h0 (X.1.2 7 4)).toInt = (sI H43 h0 (X.1.2 7 4)).toInt := congrArg Int32.toInt (up_nI U50 (ne_k g0 ghh (by decide)))
            have m55 : (sI H50 h0 (X.1.2 7 5)).toInt = (sI H43 h0 (X.1.2 7 5)).toInt := congrArg Int32.toInt (up_nI U50 (ne_k g0 ghh (by decide)))
            have htp2 : ∀ z : Int, 0 ≤ z → z < z41 + 1 → aI H50 hh z = aI H0 sn z + aI H0 wl z := fun z z0 z1 => by
              by_cases e : z = z41
              · rw [e, aI_up U50 ev41 rfl]; exact ht9
              · exact (aI_un U50 ev41 ⟨by omega, z0, fun q => e q.symm⟩).trans (htp z z0 (by omega))
            have hsm2 : v49.toInt = 0 → ∀ j : Nat, (sI H50 hh j).toInt = (sI H0 hh j).toInt := fun q j => by
              by_cases e : j = (z41 : Int).toNat
              · rw [e]; show aI H50 hh z41 = _; rw [aI_up U50 ev41 rfl, ← hsm (by omega) (z41 : Int).toNat]; show _ = aI H43 hh z41; omega
              · exact (congrArg Int32.toInt (up_nI U50 (fun q2 => e (q2.2.trans (i_ix ev41))))).trans (hsm (by omega) j)
            obtain ⟨v56, ev56⟩ : ∃ z, z = v41 + Int32.ofInt 1 := ⟨_, rfl⟩
            have ev56i : v56.toInt = (z41 + 1) := i_add ev56 ev41 (by decide) (by omega) (by omega)
            refine lv_iinc hx hb dX7_comesTo_86 hl (k := 2) rfl ev56.symm (by decide) rfl (fun ls hl => ?_)
            replace hl : lv_has ls 5 [(3, .int v56), (2, .int v49), (4, .int v45), (0, .ref h0), (1, .ref h1)] := hl
            refine lv_goto (tgt := 46) hx hb dX7_comesTo_89 rfl ?_
            exact ih43 H50 locs50 v56 ((z41 + 1)) v49 (v49.toInt) ls (ms_lt hm43 (by omega) (by omega)) ev56i rfl (by omega) (by omega) (htp2) (hsm2) (fun q => hwd (by omega)) (by omega) (by omega) (hdf2) (by omega) (by omega) hC50 hS50 hKp50 (lv_sub hl [0, 1, 3, 4] rfl)
          · refine lv_iconst (v := 1) hx hb dX7_comesTo_71 rfl ?_
            refine lv_goto (tgt := 76) hx hb dX7_comesTo_72 rfl ?_
            refine lv_ior hx hb dX7_comesTo_76 (lv_topi (fun v57 ev57 => ?_))
            have bv57 := i_or01 ev57 ev42 (show (1 : Int32).toInt = 1 from by decide) (by omega) (by omega) (by omega) (by omega)
            have ov57 := i_or0 ev57 ev42 (show (1 : Int32).toInt = 1 from by decide) (by omega) (by omega) (by omega) (by omega)
            have wv57 := i_or2 ev57 ev42 (show (1 : Int32).toInt = 1 from by decide) (by omega) (by omega) (by omega) (by omega)
            refine lv_istore_n hx hb dX7_comesTo_77 rfl hl (by decide) rfl (fun ls hl => ?_)
            replace hl : lv_has ls 5 [(2, .int v57), (4, .int v45), (3, .int v41), (0, .ref h0), (1, .ref h1)] := hl
            have hdf2 : v57.toInt = 0 ∨ ¬ ((sI H0 h0 (X.1.2 7 4)).toInt = (sI H0 h1 (X.1.2 8 0)).toInt ∧ (sI H0 h0 (X.1.2 7 5)).toInt = (sI H0 h1 (X.1.2 8 1)).toInt ∧ ∀ z : Int, 0 ≤ z → z < 36 → aI H0 hh z = aI H0 sn z + aI H0 wl z) := by
              rcases hdf with q | q
              · by_cases e : v57.toInt = 0
                · exact Or.inl e
                · exact Or.inr (fun q9 => by have k1 := q9.2.2 z41 (by omega) (by omega); have k3 : aI H43 hh z41 = aI H0 hh z41 := hsm q (z41 : Int).toNat; omega)
              · exact Or.inr q
            refine lv_aload_n hx hb dX7_comesTo_78 rfl (lv_at hl 3 rfl) ?_
            refine q_getS E hC43 g0 fa_RX7_15 (wn.kp g0 hKp43 rfl).hh.1 dX7_comesTo_79 (fun _ => ?_)
            refine lv_iload_n hx hb dX7_comesTo_82 rfl (lv_at hl 2 rfl) ?_
            refine lv_iload hx hb dX7_comesTo_83 (lv_at hl 1 rfl) ?_
            refine q_iast E hC43 hS45 ghh (by decide) rfl rfl (i_in (a := z41) ev41 (by omega) (by omega)) (tv_I rfl (by omega) (by omega)) dX7_comesTo_85 (fun H58 locs58 hC58 hS58 U58 => ?_)
            have hKp58 := Kp.upA ghh rfl (by decide) rfl U58 hKp43
            have m59 : aI H58 hh z41 = v45.toInt := aI_up U58 ev41 rfl
            have m60 : (sI H58 h1 (X.1.2 8 0)).toInt = (sI H43 h1 (X.1.2 8 0)).toInt := congrArg Int32.toInt (up_nI U58 (ne_k g1 ghh (by decide)))
            have m61 : (sI H58 h1 (X.1.2 8 1)).toInt = (sI H43 h1 (X.1.2 8 1)).toInt := congrArg Int32.toInt (up_nI U58 (ne_k g1 ghh (by decide)))
            have m62 : (sI H58 h0 (X.1.2 7 4)).toInt = (sI H43 h0 (X.1.2 7 4)).toInt := congrArg Int32.toInt (up_nI U58 (ne_k g0 ghh (by decide)))
            have m63 : (sI H58 h0 (X.1.2 7 5)).toInt = (sI H43 h0 (X.1.2 7 5)).toInt := congrArg Int32.toInt (up_nI U58 (ne_k g0 ghh (by decide)))
            have htp2 : ∀ z : Int, 0 ≤ z → z < z41 + 1 → aI H58 hh z = aI H0 sn z + aI H0 wl z := fun z z0 z1 => by
              by_cases e : z = z41
              · rw [e, aI_up U58 ev41 rfl]; exact ht9
              · exact (aI_un U58 ev41 ⟨by omega, z0, fun q => e q.symm⟩).trans (htp z z0 (by omega))
            have hsm2 : v57.toInt = 0 → ∀ j : Nat, (sI H58 hh j).toInt = (sI H0 hh j).toInt := fun q j => by
              by_cases e : j = (z41 : Int).toNat
              · rw [e]; show aI H58 hh z41 = _; rw [aI_up U58 ev41 rfl, ← hsm (by omega) (z41 : Int).toNat]; show _ = aI H43 hh z41; omega
              · exact (congrArg Int32.toInt (up_nI U58 (fun q2 => e (q2.2.trans (i_ix ev41))))).trans (hsm (by omega) j)
            obtain ⟨v64, ev64⟩ : ∃ z, z = v41 + Int32.ofInt 1 := ⟨_, rfl⟩
            have ev64i : v64.toInt = (z41 + 1) := i_add ev64 ev41 (by decide) (by omega) (by omega)
            refine lv_iinc hx hb dX7_comesTo_86 hl (k := 2) rfl ev64.symm (by decide) rfl (fun ls hl => ?_)
            replace hl : lv_has ls 5 [(3, .int v64), (2, .int v57), (4, .int v45), (0, .ref h0), (1, .ref h1)] := hl
            refine lv_goto (tgt := 46) hx hb dX7_comesTo_89 rfl ?_
            exact ih43 H58 locs58 v64 ((z41 + 1)) v57 (v57.toInt) ls (ms_lt hm43 (by omega) (by omega)) ev64i rfl (by omega) (by omega) (htp2) (hsm2) (fun q => hwd (by omega)) (by omega) (by omega) (hdf2) (by omega) (by omega) hC58 hS58 hKp58 (lv_sub hl [0, 1, 3, 4] rfl)
    exact L46 _ H35 locs35 0 0 1 1 ls (Nat.lt_succ_self _) (by decide) (by decide) (by omega) (by omega) (fun z z0 z1 => by omega) (fun q j => by first | rfl | (exact congrArg Int32.toInt ((hq2 j).trans (hq1 j))) | omega) (fun _ => by omega) (by omega) (by omega) (by first | exact Or.inl rfl | exact Or.inr (fun q => by have q1 := q.1; have q2 := q.2.1; omega)) (by omega) (by omega) hC35 hS35 hKp35 hl
  · refine lv_aload_n hx hb dX7_comesTo_11 rfl (lv_at hl 0 rfl) ?_
    refine q_getI E hC0 g0 fa_RX7_49 dX7_comesTo_12 (fun v65 ev65 lv65 uv65 => ?_)
    have m66 : (sI H0 h0 (X.1.2 7 5)).toInt = v65.toInt := (congrArg Int32.toInt ev65).trans rfl
    refine lv_aload_n hx hb dX7_comesTo_15 rfl (lv_at hl 1 rfl) ?_
    refine q_getI E hC0 g1 fa_RX7_52 dX7_comesTo_16 (fun v67 ev67 lv67 uv67 => ?_)
    have m68 : (sI H0 h1 (X.1.2 8 1)).toInt = v67.toInt := congrArg Int32.toInt ev67
    refine q_icmp_eq hx hb (a := v65.toInt) (b := v67.toInt) rfl rfl (tgt := 26) dX7_comesTo_19 rfl (fun c69 => ?_) (fun c69 => ?_)
    · refine lv_iconst (v := 0) hx hb dX7_comesTo_26 rfl ?_
      refine lv_istore_n hx hb dX7_comesTo_27 rfl hl (by decide) rfl (fun ls hl => ?_)
      replace hl : lv_has ls 5 [(2, .int 0), (0, .ref h0), (1, .ref h1)] := hl
      refine lv_aload_n hx hb dX7_comesTo_28 rfl (lv_at hl 1 rfl) ?_
      refine lv_aload_n hx hb dX7_comesTo_29 rfl (lv_at hl 2 rfl) ?_
      refine q_getI E hC0 g1 fa_RX7_46 dX7_comesTo_30 (fun v70 ev70 lv70 uv70 => ?_)
      have qv70 := ev23.symm.trans ev70; subst qv70
      refine q_put E hC0 hS0 g0 fp_RX7_43 (tv_I rfl (by omega) (by omega)) rfl rfl dX7_comesTo_33 (fun H71 locs71 hC71 hS71 U71 => ?_)
      have hKp71 := Kp.upO E g0 fp_RX7_43 rfl U71 hKp0
      have e72 := up_I U71
      have m73 : (sI H71 h0 (X.1.2 7 4)).toInt = v23.toInt := (congrArg Int32.toInt e72).trans rfl
      have m74 : (sI H71 h1 (X.1.2 8 0)).toInt = (sI H0 h1 (X.1.2 8 0)).toInt := congrArg Int32.toInt (up_nI U71 (ne_k g1 g0 (by decide)))
      have m75 : (sI H71 h1 (X.1.2 8 1)).toInt = (sI H0 h1 (X.1.2 8 1)).toInt := congrArg Int32.toInt (up_nI U71 (ne_k g1 g0 (by decide)))
      have m76 : (sI H71 h0 (X.1.2 7 5)).toInt = (sI H0 h0 (X.1.2 7 5)).toInt := congrArg Int32.toInt (up_nI U71 (ne_f E 7 5 4 rfl (by decide) (by decide) (by decide)))
      have hq1 : ∀ j : Nat, sI H71 hh j = sI H0 hh j := fun j => up_nI U71 (ne_k ghh g0 (by decide))
      refine lv_aload_n hx hb dX7_comesTo_36 rfl (lv_at hl 1 rfl) ?_
      refine lv_aload_n hx hb dX7_comesTo_37 rfl (lv_at hl 2 rfl) ?_
      have e78 := (up_nI U71 (ne_k g1 g0 (by decide))).trans ev67
      refine q_getI E hC71 g1 fa_RX7_52 dX7_comesTo_38 (fun v77 ev77 lv77 uv77 => ?_)
      have qv77 := e78.symm.trans ev77; subst qv77
      refine q_put E hC71 hS71 g0 fp_RX7_49 (tv_I rfl (by omega) (by omega)) rfl rfl dX7_comesTo_41 (fun H79 locs79 hC79 hS79 U79 => ?_)
      have hKp79 := Kp.upO E g0 fp_RX7_49 rfl U79 hKp71
      have e80 := up_I U79
      have m81 : (sI H79 h0 (X.1.2 7 5)).toInt = v67.toInt := (congrArg Int32.toInt e80).trans rfl
      have m82 : (sI H79 h1 (X.1.2 8 0)).toInt = (sI H71 h1 (X.1.2 8 0)).toInt := congrArg Int32.toInt (up_nI U79 (ne_k g1 g0 (by decide)))
      have m83 : (sI H79 h1 (X.1.2 8 1)).toInt = (sI H71 h1 (X.1.2 8 1)).toInt := congrArg Int32.toInt (up_nI U79 (ne_k g1 g0 (by decide)))
      have m84 : (sI H79 h0 (X.1.2 7 4)).toInt = (sI H71 h0 (X.1.2 7 4)).toInt := congrArg Int32.toInt (up_nI U79 (ne_f E 7 4 5 rfl (by decide) (by decide) (by decide)))
      have hq2 : ∀ j : Nat, sI H79 hh j = sI H71 hh j := fun j => up_nI U79 (ne_k ghh g0 (by decide))
      refine lv_iconst (v := 0) hx hb dX7_comesTo_44 rfl ?_
      refine lv_istore_n hx hb dX7_comesTo_45 rfl hl (by decide) rfl (fun ls hl => ?_)
      replace hl : lv_has ls 5 [(3, .int 0), (2, .int 0), (0, .ref h0), (1, .ref h1)] := hl
      have L46 : ∀ (n87 : Nat) (H87 : Heap) (locs87 : List Loc) (v85 : Int32) (z85 : Int) (v86 : Int32) (z86 : Int) (ls : Array Slot), (36 - z85).toNat < n87 → v85.toInt = z85 → v86.toInt = z86 → z85 ≤ 36 → 0 ≤ z85 → (∀ z : Int, 0 ≤ z → z < z85 → aI H87 hh z = aI H0 sn z + aI H0 wl z) → (z86 = 0 → ∀ j : Nat, (sI H87 hh j).toInt = (sI H0 hh j).toInt) → (z86 = 0 → (sI H0 h0 (X.1.2 7 4)).toInt = (sI H0 h1 (X.1.2 8 0)).toInt ∧ (sI H0 h0 (X.1.2 7 5)).toInt = (sI H0 h1 (X.1.2 8 1)).toInt) → (sI H87 h0 (X.1.2 7 4)).toInt = (sI H0 h1 (X.1.2 8 0)).toInt → (sI H87 h0 (X.1.2 7 5)).toInt = (sI H0 h1 (X.1.2 8 1)).toInt → (z86 = 0 ∨ ¬ ((sI H0 h0 (X.1.2 7 4)).toInt = (sI H0 h1 (X.1.2 8 0)).toInt ∧ (sI H0 h0 (X.1.2 7 5)).toInt = (sI H0 h1 (X.1.2 8 1)).toInt ∧ ∀ z : Int, 0 ≤ z → z < 36 → aI H0 hh z = aI H0 sn z + aI H0 wl z)) → 0 ≤ z86 → z86 ≤ 1 → Conf X Γ H87 → va_S (AΓ Γ) H0 H87 locs87 → Kp X Γ [3, 29, 31, 32, 33, 34, 37, 39, 40, 50, 51, 52, 53, 54, 55, 56, 57, 58, 59, 60, 61, 62, 63, 65, 67, 68, 70, 71, 72] H0 H87 → lv_has ls 5 [(3, .int v85), (2, .int v86), (0, .ref h0), (1, .ref h1)] → W p l e (rmL 1) s m args below meth c H87 locs87 0 0 Qz (F0 m 46 ls []) := by
        intro n87
        induction n87 with
        | zero => intro H87 locs87 v85 z85 v86 z86 ls hm87 ev85 ev86 iv87_0 iv87_1 iv87_2 iv87_3 iv87_4 iv87_5 iv87_6 iv87_7 iv87_8 iv87_9 hC87 hS87 hKp87 hl; exact absurd hm87 (Nat.not_lt_zero _)
        | succ n87 ih87 =>
          intro H87 locs87 v85 z85 v86 z86 ls hm87 ev85 ev86 iv87_0 iv87_1 iv87_2 iv87_3 iv87_4 iv87_5 iv87_6 iv87_7 iv87_8 iv87_9 hC87 hS87 hKp87 hl
          have htp := iv87_2
          have hsm := iv87_3
          have hwd := iv87_4
          have hdf := iv87_7
          refine lv_iload_n hx hb dX7_comesTo_46 rfl (lv_at hl 0 rfl) ?_
          refine lv_bipush (v := 36) hx hb dX7_comesTo_47 rfl ?_
          refine q_icmp_ge hx hb (a := z85) (b := 36) ev85 (by decide) (tgt := 92) dX7_comesTo_49 rfl (fun c88 => ?_) (fun c88 => ?_)
          · refine lv_iload_n hx hb dX7_comesTo_92 rfl (lv_at hl 1 rfl) ?_
            rcases z01 ev86 (by omega) (by omega) with hz9 | hz9
            · have hz8 : z86 = 0 := by rw [← ev86, hz9]; decide
              exact ret v86 H87 locs87 _ _ dX7_comesTo_93 (Or.inl hz9) ⟨hKp87, Or.inr ⟨hz9, ⟨by omega, by omega, fun z z0 z1 => htp z z0 (by omega), (hwd hz8).1, (hwd hz8).2, hsm hz8⟩⟩⟩ hC87 hS87
            · have hz8 : z86 = 1 := by rw [← ev86, hz9]; decide
              exact ret v86 H87 locs87 _ _ dX7_comesTo_93 (Or.inr hz9) ⟨hKp87, Or.inl ⟨hz9, ⟨by omega, by omega, by omega, Or.resolve_left hdf (by omega), fun z z0 z1 => htp z z0 (by omega)⟩⟩⟩ hC87 hS87
          · refine lv_aload_n hx hb dX7_comesTo_52 rfl (lv_at hl 3 rfl) ?_
            refine lv_iload_n hx hb dX7_comesTo_53 rfl (lv_at hl 0 rfl) ?_
            refine q_goIp (q_runV (As := [.int v85]) (rest := []) E hC87 hS87 (m_X9_topOf l X Γ H87 hC87 h1 g1 v85 (a1 := z85) ev85 sn wl su lw ic kn hd us br ar fi (yn.kp g1 hKp87 rfl) (by omega) (by omega)) cw_X9_topOf cl_RX7_53 g1 ⟨rfl, rfl⟩ rfl hl.1 rfl (Nat.zero_le _) (by decide) dX7_comesTo_54) hS87 (fun v89 locs89 hr89 hS89 => ?_)
            obtain ⟨f89_0, f89_1, f89_2⟩ := hr89
            have ht9 : v89.toInt = aI H0 sn z85 + aI H0 wl z85 := by rw [← aI_kp (z := z85) hKp87 gsn rfl rfl, ← aI_kp (z := z85) hKp87 gwl rfl rfl]; exact f89_0
            refine lv_istore hx hb dX7_comesTo_57 hl (by decide) rfl (fun ls hl => ?_)
            replace hl : lv_has ls 5 [(4, .int v89), (3, .int v85), (2, .int v86), (0, .ref h0), (1, .ref h1)] := hl
            refine lv_iload_n hx hb dX7_comesTo_59 rfl (lv_at hl 2 rfl) ?_
            refine lv_aload_n hx hb dX7_comesTo_60 rfl (lv_at hl 3 rfl) ?_
            refine q_getS E hC87 g0 fa_RX7_15 (wn.kp g0 hKp87 rfl).hh.1 dX7_comesTo_61 (fun _ => ?_)
            refine lv_iload_n hx hb dX7_comesTo_64 rfl (lv_at hl 1 rfl) ?_
            refine q_iald E hC87 ghh rfl rfl (fun _ h => h) (i_in (a := z85) ev85 (by omega) (by omega)) dX7_comesTo_65 (fun v90 ev90 lv90 uv90 => ?_)
            have m91 : aI H87 hh z85 = v90.toInt := aI_of ev85 ev90
            have ho9 : aI H87 hh z85 = v90.toInt := aI_of ev85 ev90
            refine lv_iload hx hb dX7_comesTo_66 (lv_at hl 0 rfl) ?_
            refine q_icmp_eq hx hb (a := v90.toInt) (b := v89.toInt) rfl rfl (tgt := 75) dX7_comesTo_68 rfl (fun c92 => ?_) (fun c92 => ?_)
            · refine lv_iconst (v := 0) hx hb dX7_comesTo_75 rfl ?_
              refine lv_ior hx hb dX7_comesTo_76 (lv_topi (fun v93 ev93 => ?_))
              have bv93 := i_or01 ev93 ev86 (show (0 : Int32).toInt = 0 from by decide) (by omega) (by omega) (by omega) (by omega)
              have ov93 := i_or0 ev93 ev86 (show (0 : Int32).toInt = 0 from by decide) (by omega) (by omega) (by omega) (by omega)
              have wv93 := i_or2 ev93 ev86 (show (0 : Int32).toInt = 0 from by decide) (by omega) (by omega) (by omega) (by omega)
              refine lv_istore_n hx hb dX7_comesTo_77 rfl hl (by decide) rfl (fun ls hl => ?_)
              replace hl : lv_has ls 5 [(2, .int v93), (4, .int v89), (3, .int v85), (0, .ref h0), (1, .ref h1)] := hl
              have hdf2 : v93.toInt = 0 ∨ ¬ ((sI H0 h0 (X.1.2 7 4)).toInt = (sI H0 h1 (X.1.2 8 0)).toInt ∧ (sI H0 h0 (X.1.2 7 5)).toInt = (sI H0 h1 (X.1.2 8 1)).toInt ∧ ∀ z : Int, 0 ≤ z → z < 36 → aI H0 hh z = aI H0 sn z + aI H0 wl z) := by
                rcases hdf with q | q
                · by_cases e : v93.toInt = 0
                  · exact Or.inl e
                  · exact Or.inr (fun q9 => by have k1 := q9.2.2 z85 (by omega) (by omega); have k3 : aI H87 hh z85 = aI H0 hh z85 := hsm q (z85 : Int).toNat; omega)
                · exact Or.inr q
              refine lv_aload_n hx hb dX7_comesTo_78 rfl (lv_at hl 3 rfl) ?_
              refine q_getS E hC87 g0 fa_RX7_15 (wn.kp g0 hKp87 rfl).hh.1 dX7_comesTo_79 (fun _ => ?_)
              refine lv_iload_n hx hb dX7_comesTo_82 rfl (lv_at hl 2 rfl) ?_
              refine lv_iload hx hb dX7_comesTo_83 (lv_at hl 1 rfl) ?_
              refine q_iast E hC87 hS89 ghh (by decide) rfl rfl (i_in (a := z85) ev85 (by omega) (by omega)) (tv_I rfl (by omega) (by omega)) dX7_comesTo_85 (fun H94 locs94 hC94 hS94 U94 => ?_)
              have hKp94 := Kp.upA ghh rfl (by decide) rfl U94 hKp87
              have m95 : aI H94 hh z85 = v89.toInt := aI_up U94 ev85 rfl
              have m96 : (sI H94 h1 (X.1.2 8 0)).toInt = (sI H87 h1 (X.1.2 8 0)).toInt := congrArg Int32.toInt (up_nI U94 (ne_k g1 ghh (by decide)))
              have m97 : (sI H94 h1 (X.1.2 8 1)).toInt = (sI H87 h1 (X.1.2 8 1)).toInt := congrArg Int32.toInt (up_nI U94 (ne_k g1 ghh (by decide)))
              have m98 : (sI H94 h0 (X.1.2 7 4)).toInt = (sI H87 h0 (X.1.2 7 4)).toInt := congrArg Int32.toInt (up_nI U94 (ne_k g0 ghh (by decide)))
              have m99 : (sI H94 h0 (X.1.2 7 5)).toInt = (sI H87 h0 (X.1.2 7 5)).toInt := congrArg Int32.toInt (up_nI U94 (ne_k g0 ghh (by decide)))
              have htp2 : ∀ z : Int, 0 ≤ z → z < z85 + 1 → aI H94 hh z = aI H0 sn z + aI H0 wl z := fun z z0 z1 => by
                by_cases e : z = z85
                · rw [e, aI_up U94 ev85 rfl]; exact ht9
                · exact (aI_un U94 ev85 ⟨by omega, z0, fun q => e q.symm⟩).trans (htp z z0 (by omega))
              have hsm2 : v93.toInt = 0 → ∀ j : Nat, (sI H94 hh j).toInt = (sI H0 hh j).toInt := fun q j => by
                by_cases e : j = (z85 : Int).toNat
                · rw [e]; show aI H94 hh z85 = _; rw [aI_up U94 ev85 rfl, ← hsm (by omega) (z85 : Int).toNat]; show _ = aI H87 hh z85; omega
                · exact (congrArg Int32.toInt (up_nI U94 (fun q2 => e (q2.2.trans (i_ix ev85))))).trans (hsm (by omega) j)
              obtain ⟨v100, ev100⟩ : ∃ z, z = v85 + Int32.ofInt 1 := ⟨_, rfl⟩
              have ev100i : v100.toInt = (z85 + 1) := i_add ev100 ev85 (by decide) (by omega) (by omega)
              refine lv_iinc hx hb dX7_comesTo_86 hl (k := 2) rfl ev100.symm (by decide) rfl (fun ls hl => ?_)
              replace hl : lv_has ls 5 [(3, .int v100), (2, .int v93), (4, .int v89), (0, .ref h0), (1, .ref h1)] := hl
              refine lv_goto (tgt := 46) hx hb dX7_comesTo_89 rfl ?_
              exact ih87 H94 locs94 v100 ((z85 + 1)) v93 (v93.toInt) ls (ms_lt hm87 (by omega) (by omega)) ev100i rfl (by omega) (by omega) (htp2) (hsm2) (fun q => hwd (by omega)) (by omega) (by omega) (hdf2) (by omega) (by omega) hC94 hS94 hKp94 (lv_sub hl [0, 1, 3, 4] rfl)
            · refine lv_iconst (v := 1) hx hb dX7_comesTo_71 rfl ?_
              refine lv_goto (tgt := 76) hx hb dX7_comesTo_72 rfl ?_
              refine lv_ior hx hb dX7_comesTo_76 (lv_topi (fun v101 ev101 => ?_))
              have bv101 := i_or01 ev101 ev86 (show (1 : Int32).toInt = 1 from by decide) (by omega) (by omega) (by omega) (by omega)
              have ov101 := i_or0 ev101 ev86 (show (1 : Int32).toInt = 1 from by decide) (by omega) (by omega) (by omega) (by omega)
              have wv101 := i_or2 ev101 ev86 (show (1 : Int32).toInt = 1 from by decide) (by omega) (by omega) (by omega) (by omega)
              refine lv_istore_n hx hb dX7_comesTo_77 rfl hl (by decide) rfl (fun ls hl => ?_)
              replace hl : lv_has ls 5 [(2, .int v101), (4, .int v89), (3, .int v85), (0, .ref h0), (1, .ref h1)] := hl
              have hdf2 : v101.toInt = 0 ∨ ¬ ((sI H0 h0 (X.1.2 7 4)).toInt = (sI H0 h1 (X.1.2 8 0)).toInt ∧ (sI H0 h0 (X.1.2 7 5)).toInt = (sI H0 h1 (X.1.2 8 1)).toInt ∧ ∀ z : Int, 0 ≤ z → z < 36 → aI H0 hh z = aI H0 sn z + aI H0 wl z) := by
                rcases hdf with q | q
                · by_cases e : v101.toInt = 0
                  · exact Or.inl e
                  · exact Or.inr (fun q9 => by have k1 := q9.2.2 z85 (by omega) (by omega); have k3 : aI H87 hh z85 = aI H0 hh z85 := hsm q (z85 : Int).toNat; omega)
                · exact Or.inr q
              refine lv_aload_n hx hb dX7_comesTo_78 rfl (lv_at hl 3 rfl) ?_
              refine q_getS E hC87 g0 fa_RX7_15 (wn.kp g0 hKp87 rfl).hh.1 dX7_comesTo_79 (fun _ => ?_)
              refine lv_iload_n hx hb dX7_comesTo_82 rfl (lv_at hl 2 rfl) ?_
              refine lv_iload hx hb dX7_comesTo_83 (lv_at hl 1 rfl) ?_
              refine q_iast E hC87 hS89 ghh (by decide) rfl rfl (i_in (a := z85) ev85 (by omega) (by omega)) (tv_I rfl (by omega) (by omega)) dX7_comesTo_85 (fun H102 locs102 hC102 hS102 U102 => ?_)
              have hKp102 := Kp.upA ghh rfl (by decide) rfl U102 hKp87
              have m103 : aI H102 hh z85 = v89.toInt := aI_up U102 ev85 rfl
              have m104 : (sI H102 h1 (X.1.2 8 0)).toInt = (sI H87 h1 (X.1.2 8 0)).toInt := congrArg Int32.toInt (up_nI U102 (ne_k g1 ghh (by decide)))
              have m105 : (sI H102 h1 (X.1.2 8 1)).toInt = (sI H87 h1 (X.1.2 8 1)).toInt := congrArg Int32.toInt (up_nI U102 (ne_k g1 ghh (by decide)))
              have m106 : (sI H102 h0 (X.1.2 7 4)).toInt = (sI H87 h0 (X.1.2 7 4)).toInt := congrArg Int32.toInt (up_nI U102 (ne_k g0 ghh (by decide)))
              have m107 : (sI H102 h0 (X.1.2 7 5)).toInt = (sI H87 h0 (X.1.2 7 5)).toInt := congrArg Int32.toInt (up_nI U102 (ne_k g0 ghh (by decide)))
              have htp2 : ∀ z : Int, 0 ≤ z → z < z85 + 1 → aI H102 hh z = aI H0 sn z + aI H0 wl z := fun z z0 z1 => by
                by_cases e : z = z85
                · rw [e, aI_up U102 ev85 rfl]; exact ht9
                · exact (aI_un U102 ev85 ⟨by omega, z0, fun q => e q.symm⟩).trans (htp z z0 (by omega))
              have hsm2 : v101.toInt = 0 → ∀ j : Nat, (sI H102 hh j).toInt = (sI H0 hh j).toInt := fun q j => by
                by_cases e : j = (z85 : Int).toNat
                · rw [e]; show aI H102 hh z85 = _; rw [aI_up U102 ev85 rfl, ← hsm (by omega) (z85 : Int).toNat]; show _ = aI H87 hh z85; omega
                · exact (congrArg Int32.toInt (up_nI U102 (fun q2 => e (q2.2.trans (i_ix ev85))))).trans (hsm (by omega) j)
              obtain ⟨v108, ev108⟩ : ∃ z, z = v85 + Int32.ofInt 1 := ⟨_, rfl⟩
              have ev108i : v108.toInt = (z85 + 1) := i_add ev108 ev85 (by decide) (by omega) (by omega)
              refine lv_iinc hx hb dX7_comesTo_86 hl (k := 2) rfl ev108.symm (by decide) rfl (fun ls hl => ?_)
              replace hl : lv_has ls 5 [(3, .int v108), (2, .int v101), (4, .int v89), (0, .ref h0), (1, .ref h1)] := hl
              refine lv_goto (tgt := 46) hx hb dX7_comesTo_89 rfl ?_
              exact ih87 H102 locs102 v108 ((z85 + 1)) v101 (v101.toInt) ls (ms_lt hm87 (by omega) (by omega)) ev108i rfl (by omega) (by omega) (htp2) (hsm2) (fun q => hwd (by omega)) (by omega) (by omega) (hdf2) (by omega) (by omega) hC102 hS102 hKp102 (lv_sub hl [0, 1, 3, 4] rfl)
      exact L46 _ H79 locs79 0 0 0 0 ls (Nat.lt_succ_self _) (by decide) (by decide) (by omega) (by omega) (fun z z0 z1 => by omega) (fun q j => by first | rfl | (exact congrArg Int32.toInt ((hq2 j).trans (hq1 j))) | omega) (fun _ => by omega) (by omega) (by omega) (by first | exact Or.inl rfl | exact Or.inr (fun q => by have q1 := q.1; have q2 := q.2.1; omega)) (by omega) (by omega) hC79 hS79 hKp79 hl
    · refine lv_iconst (v := 1) hx hb dX7_comesTo_22 rfl ?_
      refine lv_goto (tgt := 27) hx hb dX7_comesTo_23 rfl ?_
      refine lv_istore_n hx hb dX7_comesTo_27 rfl hl (by decide) rfl (fun ls hl => ?_)
      replace hl : lv_has ls 5 [(2, .int 1), (0, .ref h0), (1, .ref h1)] := hl
      refine lv_aload_n hx hb dX7_comesTo_28 rfl (lv_at hl 1 rfl) ?_
      refine lv_aload_n hx hb dX7_comesTo_29 rfl (lv_at hl 2 rfl) ?_
      refine q_getI E hC0 g1 fa_RX7_46 dX7_comesTo_30 (fun v109 ev109 lv109 uv109 => ?_)
      have qv109 := ev23.symm.trans ev109; subst qv109
      refine q_put E hC0 hS0 g0 fp_RX7_43 (tv_I rfl (by omega) (by omega)) rfl rfl dX7_comesTo_33 (fun H110 locs110 hC110 hS110 U110 => ?_)
      have hKp110 := Kp.upO E g0 fp_RX7_43 rfl U110 hKp0
      have e111 := up_I U110
      have m112 : (sI H110 h0 (X.1.2 7 4)).toInt = v23.toInt := (congrArg Int32.toInt e111).trans rfl
      have m113 : (sI H110 h1 (X.1.2 8 0)).toInt = (sI H0 h1 (X.1.2 8 0)).toInt := congrArg Int32.toInt (up_nI U110 (ne_k g1 g0 (by decide)))
      have m114 : (sI H110 h1 (X.1.2 8 1)).toInt = (sI H0 h1 (X.1.2 8 1)).toInt := congrArg Int32.toInt (up_nI U110 (ne_k g1 g0 (by decide)))
      have m115 : (sI H110 h0 (X.1.2 7 5)).toInt = (sI H0 h0 (X.1.2 7 5)).toInt := congrArg Int32.toInt (up_nI U110 (ne_f E 7 5 4 rfl (by decide) (by decide) (by decide)))
      have hq1 : ∀ j : Nat, sI H110 hh j = sI H0 hh j := fun j => up_nI U110 (ne_k ghh g0 (by decide))
      refine lv_aload_n hx hb dX7_comesTo_36 rfl (lv_at hl 1 rfl) ?_
      refine lv_aload_n hx hb dX7_comesTo_37 rfl (lv_at hl 2 rfl) ?_
      have e117 := (up_nI U110 (ne_k g1 g0 (by decide))).trans ev67
      refine q_getI E hC110 g1 fa_RX7_52 dX7_comesTo_38 (fun v116 ev116 lv116 uv116 => ?_)
      have qv116 := e117.symm.trans ev116; subst qv116
      refine q_put E hC110 hS110 g0 fp_RX7_49 (tv_I rfl (by omega) (by omega)) rfl rfl dX7_comesTo_41 (fun H118 locs118 hC118 hS118 U118 => ?_)
      have hKp118 := Kp.upO E g0 fp_RX7_49 rfl U118 hKp110
      have e119 := up_I U118
      have m120 : (sI H118 h0 (X.1.2 7 5)).toInt = v67.toInt := (congrArg Int32.toInt e119).trans rfl
      have m121 : (sI H118 h1 (X.1.2 8 0)).toInt = (sI H110 h1 (X.1.2 8 0)).toInt := congrArg Int32.toInt (up_nI U118 (ne_k g1 g0 (by decide)))
      have m122 : (sI H118 h1 (X.1.2 8 1)).toInt = (sI H110 h1 (X.1.2 8 1)).toInt := congrArg Int32.toInt (up_nI U118 (ne_k g1 g0 (by decide)))
      have m123 : (sI H118 h0 (X.1.2 7 4)).toInt = (sI H110 h0 (X.1.2 7 4)).toInt := congrArg Int32.toInt (up_nI U118 (ne_f E 7 4 5 rfl (by decide) (by decide) (by decide)))
      have hq2 : ∀ j : Nat, sI H118 hh j = sI H110 hh j := fun j => up_nI U118 (ne_k ghh g0 (by decide))
      refine lv_iconst (v := 0) hx hb dX7_comesTo_44 rfl ?_
      refine lv_istore_n hx hb dX7_comesTo_45 rfl hl (by decide) rfl (fun ls hl => ?_)
      replace hl : lv_has ls 5 [(3, .int 0), (2, .int 1), (0, .ref h0), (1, .ref h1)] := hl
      have L46 : ∀ (n126 : Nat) (H126 : Heap) (locs126 : List Loc) (v124 : Int32) (z124 : Int) (v125 : Int32) (z125 : Int) (ls : Array Slot), (36 - z124).toNat < n126 → v124.toInt = z124 → v125.toInt = z125 → z124 ≤ 36 → 0 ≤ z124 → (∀ z : Int, 0 ≤ z → z < z124 → aI H126 hh z = aI H0 sn z + aI H0 wl z) → (z125 = 0 → ∀ j : Nat, (sI H126 hh j).toInt = (sI H0 hh j).toInt) → (z125 = 0 → (sI H0 h0 (X.1.2 7 4)).toInt = (sI H0 h1 (X.1.2 8 0)).toInt ∧ (sI H0 h0 (X.1.2 7 5)).toInt = (sI H0 h1 (X.1.2 8 1)).toInt) → (sI H126 h0 (X.1.2 7 4)).toInt = (sI H0 h1 (X.1.2 8 0)).toInt → (sI H126 h0 (X.1.2 7 5)).toInt = (sI H0 h1 (X.1.2 8 1)).toInt → (z125 = 0 ∨ ¬ ((sI H0 h0 (X.1.2 7 4)).toInt = (sI H0 h1 (X.1.2 8 0)).toInt ∧ (sI H0 h0 (X.1.2 7 5)).toInt = (sI H0 h1 (X.1.2 8 1)).toInt ∧ ∀ z : Int, 0 ≤ z → z < 36 → aI H0 hh z = aI H0 sn z + aI H0 wl z)) → 0 ≤ z125 → z125 ≤ 1 → Conf X Γ H126 → va_S (AΓ Γ) H0 H126 locs126 → Kp X Γ [3, 29, 31, 32, 33, 34, 37, 39, 40, 50, 51, 52, 53, 54, 55, 56, 57, 58, 59, 60, 61, 62, 63, 65, 67, 68, 70, 71, 72] H0 H126 → lv_has ls 5 [(3, .int v124), (2, .int v125), (0, .ref h0), (1, .ref h1)] → W p l e (rmL 1) s m args below meth c H126 locs126 0 0 Qz (F0 m 46 ls []) := by
        intro n126
        induction n126 with
        | zero => intro H126 locs126 v124 z124 v125 z125 ls hm126 ev124 ev125 iv126_0 iv126_1 iv126_2 iv126_3 iv126_4 iv126_5 iv126_6 iv126_7 iv126_8 iv126_9 hC126 hS126 hKp126 hl; exact absurd hm126 (Nat.not_lt_zero _)
        | succ n126 ih126 =>
          intro H126 locs126 v124 z124 v125 z125 ls hm126 ev124 ev125 iv126_0 iv126_1 iv126_2 iv126_3 iv126_4 iv126_5 iv126_6 iv126_7 iv126_8 iv126_9 hC126 hS126 hKp126 hl
          have htp := iv126_2
          have hsm := iv126_3
          have hwd := iv126_4
          have hdf := iv126_7
          refine lv_iload_n hx hb dX7_comesTo_46 rfl (lv_at hl 0 rfl) ?_
          refine lv_bipush (v := 36) hx hb dX7_comesTo_47 rfl ?_
          refine q_icmp_ge hx hb (a := z124) (b := 36) ev124 (by decide) (tgt := 92) dX7_comesTo_49 rfl (fun c127 => ?_) (fun c127 => ?_)
          · refine lv_iload_n hx hb dX7_comesTo_92 rfl (lv_at hl 1 rfl) ?_
            rcases z01 ev125 (by omega) (by omega) with hz9 | hz9
            · have hz8 : z125 = 0 := by rw [← ev125, hz9]; decide
              exact ret v125 H126 locs126 _ _ dX7_comesTo_93 (Or.inl hz9) ⟨hKp126, Or.inr ⟨hz9, ⟨by omega, by omega, fun z z0 z1 => htp z z0 (by omega), (hwd hz8).1, (hwd hz8).2, hsm hz8⟩⟩⟩ hC126 hS126
            · have hz8 : z125 = 1 := by rw [← ev125, hz9]; decide
              exact ret v125 H126 locs126 _ _ dX7_comesTo_93 (Or.inr hz9) ⟨hKp126, Or.inl ⟨hz9, ⟨by omega, by omega, by omega, Or.resolve_left hdf (by omega), fun z z0 z1 => htp z z0 (by omega)⟩⟩⟩ hC126 hS126
          · refine lv_aload_n hx hb dX7_comesTo_52 rfl (lv_at hl 3 rfl) ?_
            refine lv_iload_n hx hb dX7_comesTo_53 rfl (lv_at hl 0 rfl) ?_
            refine q_goIp (q_runV (As := [.int v124]) (rest := []) E hC126 hS126 (m_X9_topOf l X Γ H126 hC126 h1 g1 v124 (a1 := z124) ev124 sn wl su lw ic kn hd us br ar fi (yn.kp g1 hKp126 rfl) (by omega) (by omega)) cw_X9_topOf cl_RX7_53 g1 ⟨rfl, rfl⟩ rfl hl.1 rfl (Nat.zero_le _) (by decide) dX7_comesTo_54) hS126 (fun v128 locs128 hr128 hS128 => ?_)
            obtain ⟨f128_0, f128_1, f128_2⟩ := hr128
            have ht9 : v128.toInt = aI H0 sn z124 + aI H0 wl z124 := by rw [← aI_kp (z := z124) hKp126 gsn rfl rfl, ← aI_kp (z := z124) hKp126 gwl rfl rfl]; exact f128_0
            refine lv_istore hx hb dX7_comesTo_57 hl (by decide) rfl (fun ls hl => ?_)
            replace hl : lv_has ls 5 [(4, .int v128), (3, .int v124), (2, .int v125), (0, .ref h0), (1, .ref h1)] := hl
            refine lv_iload_n hx hb dX7_comesTo_59 rfl (lv_at hl 2 rfl) ?_
            refine lv_aload_n hx hb dX7_comesTo_60 rfl (lv_at hl 3 rfl) ?_
            refine q_getS E hC126 g0 fa_RX7_15 (wn.kp g0 hKp126 rfl).hh.1 dX7_comesTo_61 (fun _ => ?_)
            refine lv_iload_n hx hb dX7_comesTo_64 rfl (lv_at hl 1 rfl) ?_
            refine q_iald E hC126 ghh rfl rfl (fun _ h => h) (i_in (a := z124) ev124 (by omega) (by omega)) dX7_comesTo_65 (fun v129 ev129 lv129 uv129 => ?_)
            have m130 : aI H126 hh z124 = v129.toInt := aI_of ev124 ev129
            have ho9 : aI H126 hh z124 = v129.toInt := aI_of ev124 ev129
            refine lv_iload hx hb dX7_comesTo_66 (lv_at hl 0 rfl) ?_
            refine q_icmp_eq hx hb (a := v129.toInt) (b := v128.toInt) rfl rfl (tgt := 75) dX7_comesTo_68 rfl (fun c131 => ?_) (fun c131 => ?_)
            · refine lv_iconst (v := 0) hx hb dX7_comesTo_75 rfl ?_
              refine lv_ior hx hb dX7_comesTo_76 (lv_topi (fun v132 ev132 => ?_))
              have bv132 := i_or01 ev132 ev125 (show (0 : Int32).toInt = 0 from by decide) (by omega) (by omega) (by omega) (by omega)
              have ov132 := i_or0 ev132 ev125 (show (0 : Int32).toInt = 0 from by decide) (by omega) (by omega) (by omega) (by omega)
              have wv132 := i_or2 ev132 ev125 (show (0 : Int32).toInt = 0 from by decide) (by omega) (by omega) (by omega) (by omega)
              refine lv_istore_n hx hb dX7_comesTo_77 rfl hl (by decide) rfl (fun ls hl => ?_)
              replace hl : lv_has ls 5 [(2, .int v132), (4, .int v128), (3, .int v124), (0, .ref h0), (1, .ref h1)] := hl
              have hdf2 : v132.toInt = 0 ∨ ¬ ((sI H0 h0 (X.1.2 7 4)).toInt = (sI H0 h1 (X.1.2 8 0)).toInt ∧ (sI H0 h0 (X.1.2 7 5)).toInt = (sI H0 h1 (X.1.2 8 1)).toInt ∧ ∀ z : Int, 0 ≤ z → z < 36 → aI H0 hh z = aI H0 sn z + aI H0 wl z) := by
                rcases hdf with q | q
                · by_cases e : v132.toInt = 0
                  · exact Or.inl e
                  · exact Or.inr (fun q9 => by have k1 := q9.2.2 z124 (by omega) (by omega); have k3 : aI H126 hh z124 = aI H0 hh z124 := hsm q (z124 : Int).toNat; omega)
                · exact Or.inr q
              refine lv_aload_n hx hb dX7_comesTo_78 rfl (lv_at hl 3 rfl) ?_
              refine q_getS E hC126 g0 fa_RX7_15 (wn.kp g0 hKp126 rfl).hh.1 dX7_comesTo_79 (fun _ => ?_)
              refine lv_iload_n hx hb dX7_comesTo_82 rfl (lv_at hl 2 rfl) ?_
              refine lv_iload hx hb dX7_comesTo_83 (lv_at hl 1 rfl) ?_
              refine q_iast E hC126 hS128 ghh (by decide) rfl rfl (i_in (a := z124) ev124 (by omega) (by omega)) (tv_I rfl (by omega) (by omega)) dX7_comesTo_85 (fun H133 locs133 hC133 hS133 U133 => ?_)
              have hKp133 := Kp.upA ghh rfl (by decide) rfl U133 hKp126
              have m134 : aI H133 hh z124 = v128.toInt := aI_up U133 ev124 rfl
              have m135 : (sI H133 h1 (X.1.2 8 0)).toInt = (sI H126 h1 (X.1.2 8 0)).toInt := congrArg Int32.toInt (up_nI U133 (ne_k g1 ghh (by decide)))
              have m136 : (sI H133 h1 (X.1.2 8 1)).toInt = (sI H126 h1 (X.1.2 8 1)).toInt := congrArg Int32.toInt (up_nI U133 (ne_k g1 ghh (by decide)))
              have m137 : (sI H133 h0 (X.1.2 7 4)).toInt = (sI H126 h0 (X.1.2 7 4)).toInt := congrArg Int32.toInt (up_nI U133 (ne_k g0 ghh (by decide)))
              have m138 : (sI H133 h0 (X.1.2 7 5)).toInt = (sI H126 h0 (X.1.2 7 5)).toInt := congrArg Int32.toInt (up_nI U133 (ne_k g0 ghh (by decide)))
              have htp2 : ∀ z : Int, 0 ≤ z → z < z124 + 1 → aI H133 hh z = aI H0 sn z + aI H0 wl z := fun z z0 z1 => by
                by_cases e : z = z124
                · rw [e, aI_up U133 ev124 rfl]; exact ht9
                · exact (aI_un U133 ev124 ⟨by omega, z0, fun q => e q.symm⟩).trans (htp z z0 (by omega))
              have hsm2 : v132.toInt = 0 → ∀ j : Nat, (sI H133 hh j).toInt = (sI H0 hh j).toInt := fun q j => by
                by_cases e : j = (z124 : Int).toNat
                · rw [e]; show aI H133 hh z124 = _; rw [aI_up U133 ev124 rfl, ← hsm (by omega) (z124 : Int).toNat]; show _ = aI H126 hh z124; omega
                · exact (congrArg Int32.toInt (up_nI U133 (fun q2 => e (q2.2.trans (i_ix ev124))))).trans (hsm (by omega) j)
              obtain ⟨v139, ev139⟩ : ∃ z, z = v124 + Int32.ofInt 1 := ⟨_, rfl⟩
              have ev139i : v139.toInt = (z124 + 1) := i_add ev139 ev124 (by decide) (by omega) (by omega)
              refine lv_iinc hx hb dX7_comesTo_86 hl (k := 2) rfl ev139.symm (by decide) rfl (fun ls hl => ?_)
              replace hl : lv_has ls 5 [(3, .int v139), (2, .int v132), (4, .int v128), (0, .ref h0), (1, .ref h1)] := hl
              refine lv_goto (tgt := 46) hx hb dX7_comesTo_89 rfl ?_
              exact ih126 H133 locs133 v139 ((z124 + 1)) v132 (v132.toInt) ls (ms_lt hm126 (by omega) (by omega)) ev139i rfl (by omega) (by omega) (htp2) (hsm2) (fun q => hwd (by omega)) (by omega) (by omega) (hdf2) (by omega) (by omega) hC133 hS133 hKp133 (lv_sub hl [0, 1, 3, 4] rfl)
            · refine lv_iconst (v := 1) hx hb dX7_comesTo_71 rfl ?_
              refine lv_goto (tgt := 76) hx hb dX7_comesTo_72 rfl ?_
              refine lv_ior hx hb dX7_comesTo_76 (lv_topi (fun v140 ev140 => ?_))
              have bv140 := i_or01 ev140 ev125 (show (1 : Int32).toInt = 1 from by decide) (by omega) (by omega) (by omega) (by omega)
              have ov140 := i_or0 ev140 ev125 (show (1 : Int32).toInt = 1 from by decide) (by omega) (by omega) (by omega) (by omega)
              have wv140 := i_or2 ev140 ev125 (show (1 : Int32).toInt = 1 from by decide) (by omega) (by omega) (by omega) (by omega)
              refine lv_istore_n hx hb dX7_comesTo_77 rfl hl (by decide) rfl (fun ls hl => ?_)
              replace hl : lv_has ls 5 [(2, .int v140), (4, .int v128), (3, .int v124), (0, .ref h0), (1, .ref h1)] := hl
              have hdf2 : v140.toInt = 0 ∨ ¬ ((sI H0 h0 (X.1.2 7 4)).toInt = (sI H0 h1 (X.1.2 8 0)).toInt ∧ (sI H0 h0 (X.1.2 7 5)).toInt = (sI H0 h1 (X.1.2 8 1)).toInt ∧ ∀ z : Int, 0 ≤ z → z < 36 → aI H0 hh z = aI H0 sn z + aI H0 wl z) := by
                rcases hdf with q | q
                · by_cases e : v140.toInt = 0
                  · exact Or.inl e
                  · exact Or.inr (fun q9 => by have k1 := q9.2.2 z124 (by omega) (by omega); have k3 : aI H126 hh z124 = aI H0 hh z124 := hsm q (z124 : Int).toNat; omega)
                · exact Or.inr q
              refine lv_aload_n hx hb dX7_comesTo_78 rfl (lv_at hl 3 rfl) ?_
              refine q_getS E hC126 g0 fa_RX7_15 (wn.kp g0 hKp126 rfl).hh.1 dX7_comesTo_79 (fun _ => ?_)
              refine lv_iload_n hx hb dX7_comesTo_82 rfl (lv_at hl 2 rfl) ?_
              refine lv_iload hx hb dX7_comesTo_83 (lv_at hl 1 rfl) ?_
              refine q_iast E hC126 hS128 ghh (by decide) rfl rfl (i_in (a := z124) ev124 (by omega) (by omega)) (tv_I rfl (by omega) (by omega)) dX7_comesTo_85 (fun H141 locs141 hC141 hS141 U141 => ?_)
              have hKp141 := Kp.upA ghh rfl (by decide) rfl U141 hKp126
              have m142 : aI H141 hh z124 = v128.toInt := aI_up U141 ev124 rfl
              have m143 : (sI H141 h1 (X.1.2 8 0)).toInt = (sI H126 h1 (X.1.2 8 0)).toInt := congrArg Int32.toInt (up_nI U141 (ne_k g1 ghh (by decide)))
              have m144 : (sI H141 h1 (X.1.2 8 1)).toInt = (sI H126 h1 (X.1.2 8 1)).toInt := congrArg Int32.toInt (up_nI U141 (ne_k g1 ghh (by decide)))
              have m145 : (sI H141 h0 (X.1.2 7 4)).toInt = (sI H126 h0 (X.1.2 7 4)).toInt := congrArg Int32.toInt (up_nI U141 (ne_k g0 ghh (by decide)))
              have m146 : (sI H141 h0 (X.1.2 7 5)).toInt = (sI H126 h0 (X.1.2 7 5)).toInt := congrArg Int32.toInt (up_nI U141 (ne_k g0 ghh (by decide)))
              have htp2 : ∀ z : Int, 0 ≤ z → z < z124 + 1 → aI H141 hh z = aI H0 sn z + aI H0 wl z := fun z z0 z1 => by
                by_cases e : z = z124
                · rw [e, aI_up U141 ev124 rfl]; exact ht9
                · exact (aI_un U141 ev124 ⟨by omega, z0, fun q => e q.symm⟩).trans (htp z z0 (by omega))
              have hsm2 : v140.toInt = 0 → ∀ j : Nat, (sI H141 hh j).toInt = (sI H0 hh j).toInt := fun q j => by
                by_cases e : j = (z124 : Int).toNat
                · rw [e]; show aI H141 hh z124 = _; rw [aI_up U141 ev124 rfl, ← hsm (by omega) (z124 : Int).toNat]; show _ = aI H126 hh z124; omega
                · exact (congrArg Int32.toInt (up_nI U141 (fun q2 => e (q2.2.trans (i_ix ev124))))).trans (hsm (by omega) j)
              obtain ⟨v147, ev147⟩ : ∃ z, z = v124 + Int32.ofInt 1 := ⟨_, rfl⟩
              have ev147i : v147.toInt = (z124 + 1) := i_add ev147 ev124 (by decide) (by omega) (by omega)
              refine lv_iinc hx hb dX7_comesTo_86 hl (k := 2) rfl ev147.symm (by decide) rfl (fun ls hl => ?_)
              replace hl : lv_has ls 5 [(3, .int v147), (2, .int v140), (4, .int v128), (0, .ref h0), (1, .ref h1)] := hl
              refine lv_goto (tgt := 46) hx hb dX7_comesTo_89 rfl ?_
              exact ih126 H141 locs141 v147 ((z124 + 1)) v140 (v140.toInt) ls (ms_lt hm126 (by omega) (by omega)) ev147i rfl (by omega) (by omega) (htp2) (hsm2) (fun q => hwd (by omega)) (by omega) (by omega) (hdf2) (by omega) (by omega) hC141 hS141 hKp141 (lv_sub hl [0, 1, 3, 4] rfl)
      exact L46 _ H118 locs118 0 0 1 1 ls (Nat.lt_succ_self _) (by decide) (by decide) (by omega) (by omega) (fun z z0 z1 => by omega) (fun q j => by first | rfl | (exact congrArg Int32.toInt ((hq2 j).trans (hq1 j))) | omega) (fun _ => by omega) (by omega) (by omega) (by first | exact Or.inl rfl | exact Or.inr (fun q => by have q1 := q.1; have q2 := q.2.1; omega)) (by omega) (by omega) hC118 hS118 hKp118 hl
set_option maxRecDepth 100000 in
set_option maxHeartbeats 4000000 in
theorem m_X7_costOfStep (l : Launch) (X : xW) (Γ : Nat → Option Nat) (H0 : Heap) (hC0 : Conf X Γ H0) (p0 : Int32) {a0 : Int} (e0 : p0.toInt = a0) (p1 : Int32) {a1 : Int} (e1 : p1.toInt = a1) (r0 : 0 ≤ a0) (r1 : a0 ≤ 198) (r2 : 0 ≤ a1) (r3 : a1 ≤ 198) : Ctr l X Γ yX7_costOfStep cX7_costOfStep 2 (some .int) 0 [.int p0, .int p1] H0 (QI X Γ (fun v H1 => H1 = H0 ∧ ((v.toInt = stp a0 a1) ∧ (0 ≤ v.toInt) ∧ (v.toInt ≤ 198)))) := by
  refine q_enterI (own := "SnowForts$Walk") (by decide) rfl (Nat.le_of_ble_eq_true rfl) ?_
  intro p e s m args below meth c ls Qz E hl ret hS0
  have hx := E.1; have hb := E.2.1
  have hl : lv_has ls 2 [(0, .int p0), (1, .int p1)] := hl
  refine lv_iload_n hx hb dX7_costOfStep_0 rfl (lv_at hl 1 rfl) ?_
  refine lv_iload_n hx hb dX7_costOfStep_1 rfl (lv_at hl 0 rfl) ?_
  refine q_icmp_le hx hb (a := a1) (b := a0) e1 e0 (tgt := 9) dX7_costOfStep_2 rfl (fun c21 => ?_) (fun c21 => ?_)
  · refine lv_iload_n hx hb dX7_costOfStep_9 rfl (lv_at hl 0 rfl) ?_
    refine lv_iload_n hx hb dX7_costOfStep_10 rfl (lv_at hl 1 rfl) ?_
    refine lv_isub hx hb dX7_costOfStep_11 (lv_topi (fun v22 ev22 => ?_))
    have ev22i : v22.toInt = (a0 - a1) := i_sub ev22 e0 e1 (by omega) (by omega)
    refine lv_iconst (v := 3) hx hb dX7_costOfStep_12 rfl ?_
    refine q_icmp_le hx hb (a := (a0 - a1)) (b := 3) ev22i (by decide) (tgt := 20) dX7_costOfStep_13 rfl (fun c23 => ?_) (fun c23 => ?_)
    · refine lv_iconst (v := 0) hx hb dX7_costOfStep_20 rfl ?_
      have c24 : (0 : Int32).toInt = 0 := (by decide)
      exact ret 0 H0 [] _ _ dX7_costOfStep_21 ⟨rfl, ⟨by unfold stp; omega, by omega, by omega⟩⟩ hC0 hS0
    · refine lv_iconst (v := 2) hx hb dX7_costOfStep_16 rfl ?_
      refine lv_goto (tgt := 21) hx hb dX7_costOfStep_17 rfl ?_
      have c25 : (2 : Int32).toInt = 2 := (by decide)
      exact ret 2 H0 [] _ _ dX7_costOfStep_21 ⟨rfl, ⟨by unfold stp; omega, by omega, by omega⟩⟩ hC0 hS0
  · refine lv_iload_n hx hb dX7_costOfStep_5 rfl (lv_at hl 1 rfl) ?_
    refine lv_iload_n hx hb dX7_costOfStep_6 rfl (lv_at hl 0 rfl) ?_
    refine lv_isub hx hb dX7_costOfStep_7 (lv_topi (fun v26 ev26 => ?_))
    have ev26i : v26.toInt = (a1 - a0) := i_sub ev26 e1 e0 (by omega) (by omega)
    have c27 : v26.toInt = (a1 - a0) := ev26i
    exact ret v26 H0 [] _ _ dX7_costOfStep_8 ⟨rfl, ⟨by unfold stp; omega, by omega, by omega⟩⟩ hC0 hS0
set_option maxRecDepth 100000 in
set_option maxHeartbeats 4000000 in
theorem m_X7_weightBy (l : Launch) (X : xW) (Γ : Nat → Option Nat) (H0 : Heap) (hC0 : Conf X Γ H0) (h0 : Nat) (g0 : Γ h0 = some 7) (p1 : Int32) {a1 : Int} (e1 : p1.toInt = a1) (p2 : Int32) {a2 : Int} (e2 : p2.toInt = a2) (pa hh wt : Nat) (wn : WN X Γ H0 h0 pa hh wt) (r0 : 0 ≤ a1) (r1 : a1 ≤ 35) : Ctr l X Γ yX7_weightBy cX7_weightBy 3 (some .int) 1 [.ref h0, .int p1, .int p2] H0 (QI X Γ (fun v H1 => H1 = H0 ∧ ((((a2 < 0 ∨ 36 ≤ a2) ∧ v.toInt = 268435456) ∨ (0 ≤ a2 ∧ a2 < 36 ∧ v.toInt = stp (aI H0 hh a1) (aI H0 hh a2) * 64 + aI H0 wt a2)) ∧ (0 ≤ v.toInt) ∧ (v.toInt ≤ 268448128)))) := by
  refine q_enterI (own := "SnowForts$Walk") (by decide) rfl (Nat.le_of_ble_eq_true rfl) ?_
  intro p e s m args below meth c ls Qz E hl ret hS0
  have hx := E.1; have hb := E.2.1
  have hl : lv_has ls 3 [(0, .ref h0), (1, .int p1), (2, .int p2)] := hl
  have gpa := wn.pa.2; have ghh := wn.hh.2; have gwt := wn.wt.2
  refine lv_iload_n hx hb dX7_weightBy_0 rfl (lv_at hl 1 rfl) ?_
  refine q_if_lt hx hb (a := a1) e1 (tgt := 20) dX7_weightBy_1 rfl (fun c21 => absurd c21 (by omega)) (fun c21 => ?_)
  refine lv_iload_n hx hb dX7_weightBy_4 rfl (lv_at hl 1 rfl) ?_
  refine lv_bipush (v := 36) hx hb dX7_weightBy_5 rfl ?_
  refine q_icmp_ge hx hb (a := a1) (b := 36) e1 (by decide) (tgt := 20) dX7_weightBy_7 rfl (fun c22 => absurd c22 (by omega)) (fun c22 => ?_)
  refine lv_iload_n hx hb dX7_weightBy_10 rfl (lv_at hl 2 rfl) ?_
  refine q_if_lt hx hb (a := a2) e2 (tgt := 20) dX7_weightBy_11 rfl (fun c23 => ?_) (fun c23 => ?_)
  · refine lv_ldc (v := 268435456) hx hb E.2.2.2.1 (E.2.2.2.2.1 _ w_656) dX7_weightBy_20 ?_
    have c24 : (268435456 : Int32).toInt = 268435456 := (by decide)
    exact ret 268435456 H0 [] _ _ dX7_weightBy_22 ⟨rfl, ⟨by omega, by omega, by omega⟩⟩ hC0 hS0
  · refine lv_iload_n hx hb dX7_weightBy_14 rfl (lv_at hl 2 rfl) ?_
    refine lv_bipush (v := 36) hx hb dX7_weightBy_15 rfl ?_
    refine q_icmp_lt hx hb (a := a2) (b := 36) e2 (by decide) (tgt := 23) dX7_weightBy_17 rfl (fun c25 => ?_) (fun c25 => ?_)
    · refine lv_aload_n hx hb dX7_weightBy_23 rfl (lv_at hl 0 rfl) ?_
      refine q_getS E hC0 g0 fa_RX7_15 wn.hh.1 dX7_weightBy_24 (fun _ => ?_)
      refine lv_iload_n hx hb dX7_weightBy_27 rfl (lv_at hl 1 rfl) ?_
      refine q_iald E hC0 ghh rfl rfl (fun _ h => h) (i_in (a := a1) e1 (by omega) (by omega)) dX7_weightBy_28 (fun v26 ev26 lv26 uv26 => ?_)
      have m27 : aI H0 hh a1 = v26.toInt := aI_of e1 ev26
      have ha9 : aI H0 hh a1 = v26.toInt := aI_of e1 ev26
      refine lv_aload_n hx hb dX7_weightBy_29 rfl (lv_at hl 0 rfl) ?_
      refine q_getS E hC0 g0 fa_RX7_15 wn.hh.1 dX7_weightBy_30 (fun _ => ?_)
      refine lv_iload_n hx hb dX7_weightBy_33 rfl (lv_at hl 2 rfl) ?_
      refine q_iald E hC0 ghh rfl rfl (fun _ h => h) (i_in (a := a2) e2 (by omega) (by omega)) dX7_weightBy_34 (fun v28 ev28 lv28 uv28 => ?_)
      have m29 : aI H0 hh a2 = v28.toInt := aI_of e2 ev28
      have hb9 : aI H0 hh a2 = v28.toInt := aI_of e2 ev28
      refine q_goIp (q_runS (As := [.int v26, .int v28]) (rest := []) E hS0 (m_X7_costOfStep l X Γ H0 hC0 v26 (a0 := v26.toInt) rfl v28 (a1 := v28.toInt) rfl (by omega) (by omega) (by omega) (by omega)) cw_X7_costOfStep cl_RX7_57 rfl hl.1 rfl (Nat.zero_le _) (by decide) dX7_weightBy_35) hS0 (fun v30 locs30 hr30 hS30 => ?_)
      obtain ⟨f30_0, f30_1, f30_2⟩ := hr30
      have hst : v30.toInt = stp (aI H0 hh a1) (aI H0 hh a2) := by rw [ha9, hb9]; exact f30_0
      refine lv_bipush (v := 64) hx hb dX7_weightBy_38 rfl ?_
      refine lv_imul hx hb dX7_weightBy_40 (lv_topi (fun v31 ev31 => ?_))
      have ev31i : v31.toInt = (v30.toInt * 64) := i_mul ev31 rfl (by decide) (by omega) (by omega)
      refine lv_aload_n hx hb dX7_weightBy_41 rfl (lv_at hl 0 rfl) ?_
      refine q_getS E hC0 g0 fa_RX7_18 wn.wt.1 dX7_weightBy_42 (fun _ => ?_)
      refine lv_iload_n hx hb dX7_weightBy_45 rfl (lv_at hl 2 rfl) ?_
      refine q_iald E hC0 gwt rfl rfl (fun _ h => h) (i_in (a := a2) e2 (by omega) (by omega)) dX7_weightBy_46 (fun v32 ev32 lv32 uv32 => ?_)
      have m33 : aI H0 wt a2 = v32.toInt := aI_of e2 ev32
      refine lv_iadd hx hb dX7_weightBy_47 (lv_topi (fun v34 ev34 => ?_))
      have ev34i : v34.toInt = ((v30.toInt * 64) + v32.toInt) := i_add ev34 ev31i rfl (by omega) (by omega)
      have c35 : v34.toInt = ((v30.toInt * 64) + v32.toInt) := ev34i
      exact ret v34 H0 locs30 _ _ dX7_weightBy_48 ⟨rfl, ⟨by omega, by omega, by omega⟩⟩ hC0 hS30
    · refine lv_ldc (v := 268435456) hx hb E.2.2.2.1 (E.2.2.2.2.1 _ w_656) dX7_weightBy_20 ?_
      have c36 : (268435456 : Int32).toInt = 268435456 := (by decide)
      exact ret 268435456 H0 [] _ _ dX7_weightBy_22 ⟨rfl, ⟨by omega, by omega, by omega⟩⟩ hC0 hS0
set_option maxRecDepth 100000 in
set_option maxHeartbeats 4000000 in
theorem m_X7_weightFrom (l : Launch) (X : xW) (Γ : Nat → Option Nat) (H0 : Heap) (hC0 : Conf X Γ H0) (h0 : Nat) (g0 : Γ h0 = some 7) (h1 : Nat) (g1 : Γ h1 = some 5) (p2 : Int32) {a2 : Int} (e2 : p2.toInt = a2) (pa hh wt : Nat) (wn : WN X Γ H0 h0 pa hh wt) (r0 : 0 ≤ a2) (r1 : a2 ≤ 35) : Ctr l X Γ yX7_weightFrom cX7_weightFrom 7 (some .int) 2 [.ref h0, .ref h1, .int p2] H0 (QI X Γ (fun v H1 => H1 = H0 ∧ ((((sI H0 h1 (X.1.2 8 0)).toInt ≤ a2 % 6 ∨ (sI H0 h1 (X.1.2 8 1)).toInt ≤ a2 / 6) → v.toInt = 268435456) ∧ (HC (sI H0 h1 (X.1.2 8 0)).toInt (sI H0 h1 (X.1.2 8 1)).toInt a2 → WFR (sI H0 h1 (X.1.2 8 0)).toInt (sI H0 h1 (X.1.2 8 1)).toInt (aI H0 hh) (aI H0 wt) a2 v.toInt) ∧ (0 ≤ v.toInt) ∧ (v.toInt ≤ 268435457)))) := by
  refine q_enterI (own := "SnowForts$Walk") (by decide) rfl (Nat.le_of_ble_eq_true rfl) ?_
  intro p e s m args below meth c ls Qz E hl ret hS0
  have hx := E.1; have hb := E.2.1
  have hl : lv_has ls 7 [(0, .ref h0), (1, .ref h1), (2, .int p2)] := hl
  have gpa := wn.pa.2; have ghh := wn.hh.2; have gwt := wn.wt.2
  have hw6 := f_bd hC0 g1 (ci := 8) (k := 0) rfl rfl
  have hh6 := f_bd hC0 g1 (ci := 8) (k := 1) rfl rfl
  refine lv_iload_n hx hb dX7_weightFrom_0 rfl (lv_at hl 2 rfl) ?_
  refine lv_bipush (v := 6) hx hb dX7_weightFrom_1 rfl ?_
  refine lv_irem hx hb dX7_weightFrom_3 (by decide) (lv_topi (fun v21 ev21 => ?_))
  have ev21i : v21.toInt = (a2 % 6) := i_rem ev21 e2 (by decide) (by omega) (by decide)
  refine lv_istore_n hx hb dX7_weightFrom_4 rfl hl (by decide) rfl (fun ls hl => ?_)
  replace hl : lv_has ls 7 [(3, .int v21), (0, .ref h0), (1, .ref h1), (2, .int p2)] := hl
  refine lv_iload_n hx hb dX7_weightFrom_5 rfl (lv_at hl 3 rfl) ?_
  refine lv_bipush (v := 6) hx hb dX7_weightFrom_6 rfl ?_
  refine lv_idiv hx hb dX7_weightFrom_8 (by decide) (lv_topi (fun v22 ev22 => ?_))
  have ev22i : v22.toInt = (a2 / 6) := i_div ev22 e2 (by decide) (by omega) (by decide)
  refine lv_istore hx hb dX7_weightFrom_9 hl (by decide) rfl (fun ls hl => ?_)
  replace hl : lv_has ls 7 [(4, .int v22), (3, .int v21), (0, .ref h0), (1, .ref h1), (2, .int p2)] := hl
  refine lv_aload_n hx hb dX7_weightFrom_11 rfl (lv_at hl 3 rfl) ?_
  refine lv_iload_n hx hb dX7_weightFrom_12 rfl (lv_at hl 1 rfl) ?_
  refine lv_iload hx hb dX7_weightFrom_13 (lv_at hl 0 rfl) ?_
  refine q_goIp (q_runV (As := [.int v21, .int v22]) (rest := []) E hC0 hS0 (m_X9_isCell l X Γ H0 hC0 h1 g1 v21 (a1 := (a2 % 6)) ev21i v22 (a2 := (a2 / 6)) ev22i) cw_X9_isCell cl_RX7_64 g1 ⟨rfl, rfl⟩ rfl hl.1 rfl (Nat.zero_le _) (by decide) dX7_weightFrom_15) hS0 (fun v23 locs23 hr23 hS23 => ?_)
  rcases hr23 with ⟨rfl, f23a0, f23a1, f23a2, f23a3, f23a4, f23a5⟩ | ⟨rfl, f23b⟩
  · have hcc : HC (sI H0 h1 (X.1.2 8 0)).toInt (sI H0 h1 (X.1.2 8 1)).toInt a2 := ⟨by omega, by omega, by omega, by omega⟩
    refine q_if_ne hx hb (a := 1) (by decide) (tgt := 24) dX7_weightFrom_18 rfl (fun c24 => ?_) (fun c24 => absurd c24 (by omega))
    refine lv_iload_n hx hb dX7_weightFrom_24 rfl (lv_at hl 1 rfl) ?_
    refine lv_aload_n hx hb dX7_weightFrom_25 rfl (lv_at hl 3 rfl) ?_
    refine q_getI E hC0 g1 fa_RX7_46 dX7_weightFrom_26 (fun v25 ev25 lv25 uv25 => ?_)
    have m26 : (sI H0 h1 (X.1.2 8 0)).toInt = v25.toInt := congrArg Int32.toInt ev25
    refine lv_iconst (v := 1) hx hb dX7_weightFrom_29 rfl ?_
    refine lv_isub hx hb dX7_weightFrom_30 (lv_topi (fun v27 ev27 => ?_))
    have ev27i : v27.toInt = (v25.toInt - 1) := i_sub ev27 rfl (by decide) (by omega) (by omega)
    refine q_icmp_ne hx hb (a := (a2 % 6)) (b := (v25.toInt - 1)) ev21i ev27i (tgt := 50) dX7_weightFrom_31 rfl (fun c28 => ?_) (fun c28 => ?_)
    · refine lv_ldc (v := 268435456) hx hb E.2.2.2.1 (E.2.2.2.2.1 _ w_656) dX7_weightFrom_50 ?_
      refine lv_istore hx hb dX7_weightFrom_52 hl (by decide) rfl (fun ls hl => ?_)
      replace hl : lv_has ls 7 [(5, .int 268435456), (4, .int v22), (3, .int v21), (0, .ref h0), (1, .ref h1), (2, .int p2)] := hl
      refine lv_iconst (v := 0) hx hb dX7_weightFrom_54 rfl ?_
      refine lv_istore hx hb dX7_weightFrom_55 hl (by decide) rfl (fun ls hl => ?_)
      replace hl : lv_has ls 7 [(6, .int 0), (5, .int 268435456), (4, .int v22), (3, .int v21), (0, .ref h0), (1, .ref h1), (2, .int p2)] := hl
      have L57 : ∀ (n31 : Nat) (locs31 : List Loc) (v29 : Int32) (z29 : Int) (v30 : Int32) (z30 : Int) (ls : Array Slot), (4 - z29).toNat < n31 → v29.toInt = z29 → v30.toInt = z30 → z29 ≤ 4 → 0 ≤ z29 → WFI (sI H0 h1 (X.1.2 8 0)).toInt (sI H0 h1 (X.1.2 8 1)).toInt (aI H0 hh) (aI H0 wt) a2 z30 z29 → 0 ≤ z30 → z30 ≤ 268435456 → va_S (AΓ Γ) H0 H0 locs31 → lv_has ls 7 [(6, .int v29), (5, .int v30), (4, .int v22), (3, .int v21), (0, .ref h0), (1, .ref h1), (2, .int p2)] → W p l e (rmL 2) s m args below meth c H0 locs31 0 0 Qz (F0 m 57 ls []) := by
        intro n31
        induction n31 with
        | zero => intro locs31 v29 z29 v30 z30 ls hm31 ev29 ev30 iv31_0 iv31_1 iv31_2 iv31_3 iv31_4 hS31 hl; exact absurd hm31 (Nat.not_lt_zero _)
        | succ n31 ih31 =>
          intro locs31 v29 z29 v30 z30 ls hm31 ev29 ev30 iv31_0 iv31_1 iv31_2 iv31_3 iv31_4 hS31 hl
          have wf := iv31_2
          refine lv_iload hx hb dX7_weightFrom_57 (lv_at hl 0 rfl) ?_
          refine lv_iconst (v := 4) hx hb dX7_weightFrom_59 rfl ?_
          refine q_icmp_ge hx hb (a := z29) (b := 4) ev29 (by decide) (tgt := 123) dX7_weightFrom_60 rfl (fun c32 => ?_) (fun c32 => ?_)
          · refine lv_iload hx hb dX7_weightFrom_123 (lv_at hl 1 rfl) ?_
            refine lv_iconst (v := 1) hx hb dX7_weightFrom_125 rfl ?_
            refine lv_iadd hx hb dX7_weightFrom_126 (lv_topi (fun v33 ev33 => ?_))
            have ev33i : v33.toInt = (z30 + 1) := i_add ev33 ev30 (by decide) (by omega) (by omega)
            have wf4 := wf
            rw [show z29 = 4 by omega] at wf4
            have hwf : WFR (sI H0 h1 (X.1.2 8 0)).toInt (sI H0 h1 (X.1.2 8 1)).toInt (aI H0 hh) (aI H0 wt) a2 (v33 : Int32).toInt := WFI.fin wf4 ev33i
            have c34 : v33.toInt = (z30 + 1) := ev33i
            exact ret v33 H0 locs31 _ _ dX7_weightFrom_127 ⟨rfl, ⟨fun q => by omega, fun q => by first | exact hwf | (unfold HC at q; exfalso; omega), by omega, by omega⟩⟩ hC0 hS31
          · refine lv_aload_n hx hb dX7_weightFrom_63 rfl (lv_at hl 5 rfl) ?_
            refine lv_iload_n hx hb dX7_weightFrom_64 rfl (lv_at hl 3 rfl) ?_
            refine q_stRIGHT E hS31 w_666 dX7_weightFrom_65 (fun q35 tq35 => ?_)
            refine lv_iload hx hb dX7_weightFrom_68 (lv_at hl 0 rfl) ?_
            refine q_ldRIGHT E hS31 tq35 (a := z29) ev29 (by omega) (by omega) dX7_weightFrom_70 (fun v36 lv36 uv36 rv36 => ?_)
            refine lv_iadd hx hb dX7_weightFrom_71 (lv_topi (fun v37 ev37 => ?_))
            have ev37i : v37.toInt = ((a2 % 6) + v36.toInt) := i_add ev37 ev21i rfl (by omega) (by omega)
            refine lv_iload hx hb dX7_weightFrom_72 (lv_at hl 2 rfl) ?_
            refine q_stDOWN E hS31 w_668 dX7_weightFrom_74 (fun q38 tq38 => ?_)
            refine lv_iload hx hb dX7_weightFrom_77 (lv_at hl 0 rfl) ?_
            refine q_ldDOWN E hS31 tq38 (a := z29) ev29 (by omega) (by omega) dX7_weightFrom_79 (fun v39 lv39 uv39 rv39 => ?_)
            refine lv_iadd hx hb dX7_weightFrom_80 (lv_topi (fun v40 ev40 => ?_))
            have ev40i : v40.toInt = ((a2 / 6) + v39.toInt) := i_add ev40 ev22i rfl (by omega) (by omega)
            refine q_goIp (q_runV (As := [.int v37, .int v40]) (rest := []) E hC0 hS31 (m_X9_isCell l X Γ H0 hC0 h1 g1 v37 (a1 := ((a2 % 6) + v36.toInt)) ev37i v40 (a2 := ((a2 / 6) + v39.toInt)) ev40i) cw_X9_isCell cl_RX7_64 g1 ⟨rfl, rfl⟩ rfl hl.1 rfl (Nat.zero_le _) (by decide) dX7_weightFrom_81) hS31 (fun v41 locs41 hr41 hS41 => ?_)
            rcases hr41 with ⟨rfl, f41a0, f41a1, f41a2, f41a3, f41a4, f41a5⟩ | ⟨rfl, f41b⟩
            · have hok9 : 0 ≤ a2 % 6 + rR z29 ∧ a2 % 6 + rR z29 < (sI H0 h1 (X.1.2 8 0)).toInt ∧ 0 ≤ a2 / 6 + rD z29 ∧ a2 / 6 + rD z29 < (sI H0 h1 (X.1.2 8 1)).toInt := ⟨by omega, by omega, by omega, by omega⟩
              refine q_if_eq hx hb (a := 1) (by decide) (tgt := 117) dX7_weightFrom_84 rfl (fun c42 => absurd c42 (by omega)) (fun c42 => ?_)
              refine lv_iload hx hb dX7_weightFrom_87 (lv_at hl 1 rfl) ?_
              refine lv_aload_n hx hb dX7_weightFrom_89 rfl (lv_at hl 4 rfl) ?_
              refine lv_iload_n hx hb dX7_weightFrom_90 rfl (lv_at hl 6 rfl) ?_
              refine lv_iload_n hx hb dX7_weightFrom_91 rfl (lv_at hl 6 rfl) ?_
              refine q_stRIGHT E hS41 w_666 dX7_weightFrom_92 (fun q43 tq43 => ?_)
              refine lv_iload hx hb dX7_weightFrom_95 (lv_at hl 0 rfl) ?_
              refine q_ldRIGHT E hS41 tq43 (a := z29) ev29 (by omega) (by omega) dX7_weightFrom_97 (fun v44 lv44 uv44 rv44 => ?_)
              refine lv_iadd hx hb dX7_weightFrom_98 (lv_topi (fun v45 ev45 => ?_))
              have ev45i : v45.toInt = (a2 + v44.toInt) := i_add ev45 e2 rfl (by omega) (by omega)
              refine q_stDOWN E hS41 w_668 dX7_weightFrom_99 (fun q46 tq46 => ?_)
              refine lv_iload hx hb dX7_weightFrom_102 (lv_at hl 0 rfl) ?_
              refine q_ldDOWN E hS41 tq46 (a := z29) ev29 (by omega) (by omega) dX7_weightFrom_104 (fun v47 lv47 uv47 rv47 => ?_)
              refine lv_bipush (v := 6) hx hb dX7_weightFrom_105 rfl ?_
              refine lv_imul hx hb dX7_weightFrom_107 (lv_topi (fun v48 ev48 => ?_))
              have ev48i : v48.toInt = (v47.toInt * 6) := i_mul ev48 rfl (by decide) (by omega) (by omega)
              refine lv_iadd hx hb dX7_weightFrom_108 (lv_topi (fun v49 ev49 => ?_))
              have ev49i : v49.toInt = ((a2 + v44.toInt) + (v47.toInt * 6)) := i_add ev49 ev45i ev48i (by omega) (by omega)
              refine q_goIp (q_runV (As := [.int p2, .int v49]) (rest := [.int v30]) E hC0 hS41 (m_X7_weightBy l X Γ H0 hC0 h0 g0 p2 (a1 := a2) e2 v49 (a2 := ((a2 + v44.toInt) + (v47.toInt * 6))) ev49i pa hh wt wn (by omega) (by omega)) cw_X7_weightBy cl_RX7_74 g0 ⟨rfl, rfl⟩ rfl hl.1 rfl (show _ ≤ _ from by simp [Value.category]) (by decide) dX7_weightFrom_109) hS41 (fun v50 locs50 hr50 hS50 => ?_)
              obtain ⟨f50_0, f50_1, f50_2⟩ := hr50
              have hwb := (Or.resolve_left f50_0 (fun q => by omega)).2.2
              refine q_mmin E hl.1 w_674 mathw_min (a := z30) (b := v50.toInt) ev30 rfl (by decide) (Nat.zero_le _) dX7_weightFrom_112 (fun v51 mv51a mv51b mv51c => ?_)
              refine lv_istore hx hb dX7_weightFrom_115 hl (by decide) rfl (fun ls hl => ?_)
              replace hl : lv_has ls 7 [(5, .int v51), (6, .int v29), (4, .int v22), (3, .int v21), (0, .ref h0), (1, .ref h1), (2, .int p2)] := hl
              have wf2 : WFI (sI H0 h1 (X.1.2 8 0)).toInt (sI H0 h1 (X.1.2 8 1)).toInt (aI H0 hh) (aI H0 wt) a2 v51.toInt (z29 + 1) := by first | exact wf.no hcc hno9 | exact wf.in_ hcc (by omega) (by omega) hok9 ⟨by omega, by omega⟩ (by omega) hwb (by omega) (by omega) (by omega) (by omega)
              obtain ⟨v52, ev52⟩ : ∃ z, z = v29 + Int32.ofInt 1 := ⟨_, rfl⟩
              have ev52i : v52.toInt = (z29 + 1) := i_add ev52 ev29 (by decide) (by omega) (by omega)
              refine lv_iinc hx hb dX7_weightFrom_117 hl (k := 1) rfl ev52.symm (by decide) rfl (fun ls hl => ?_)
              replace hl : lv_has ls 7 [(6, .int v52), (5, .int v51), (4, .int v22), (3, .int v21), (0, .ref h0), (1, .ref h1), (2, .int p2)] := hl
              refine lv_goto (tgt := 57) hx hb dX7_weightFrom_120 rfl ?_
              exact ih31 locs50 v52 ((z29 + 1)) v51 (v51.toInt) ls (ms_lt hm31 (by omega) (by omega)) ev52i rfl (by omega) (by omega) (wf2) (by omega) (by omega) hS50 hl
            · have hno9 : ¬ (0 ≤ a2 % 6 + rR z29 ∧ a2 % 6 + rR z29 < (sI H0 h1 (X.1.2 8 0)).toInt ∧ 0 ≤ a2 / 6 + rD z29 ∧ a2 / 6 + rD z29 < (sI H0 h1 (X.1.2 8 1)).toInt) := by omega
              refine q_if_eq hx hb (a := 0) (by decide) (tgt := 117) dX7_weightFrom_84 rfl (fun c53 => ?_) (fun c53 => absurd c53 (by omega))
              have wf2 : WFI (sI H0 h1 (X.1.2 8 0)).toInt (sI H0 h1 (X.1.2 8 1)).toInt (aI H0 hh) (aI H0 wt) a2 z30 (z29 + 1) := by first | exact wf.no hcc hno9 | exact wf.in_ hcc (by omega) (by omega) hok9 ⟨by omega, by omega⟩ (by omega) hwb (by omega) (by omega) (by omega) (by omega)
              obtain ⟨v54, ev54⟩ : ∃ z, z = v29 + Int32.ofInt 1 := ⟨_, rfl⟩
              have ev54i : v54.toInt = (z29 + 1) := i_add ev54 ev29 (by decide) (by omega) (by omega)
              refine lv_iinc hx hb dX7_weightFrom_117 hl (k := 0) rfl ev54.symm (by decide) rfl (fun ls hl => ?_)
              replace hl : lv_has ls 7 [(6, .int v54), (5, .int v30), (4, .int v22), (3, .int v21), (0, .ref h0), (1, .ref h1), (2, .int p2)] := hl
              refine lv_goto (tgt := 57) hx hb dX7_weightFrom_120 rfl ?_
              exact ih31 locs41 v54 ((z29 + 1)) v30 (z30) ls (ms_lt hm31 (by omega) (by omega)) ev54i ev30 (by omega) (by omega) (wf2) (by omega) (by omega) hS41 hl
      exact L57 _ locs23 0 0 268435456 268435456 ls (Nat.lt_succ_self _) (by decide) (by decide) (by omega) (by omega) (by first | exact WFI.edge (by omega) hst0 (by omega) | exact WFI.far (by omega)) (by omega) (by omega) hS23 hl
    · refine lv_aload_n hx hb dX7_weightFrom_34 rfl (lv_at hl 2 rfl) ?_
      refine q_getS E hC0 g0 fa_RX7_15 wn.hh.1 dX7_weightFrom_35 (fun _ => ?_)
      refine lv_iload_n hx hb dX7_weightFrom_38 rfl (lv_at hl 4 rfl) ?_
      refine q_iald E hC0 ghh rfl rfl (fun _ h => h) (i_in (a := a2) e2 (by omega) (by omega)) dX7_weightFrom_39 (fun v55 ev55 lv55 uv55 => ?_)
      have m56 : aI H0 hh a2 = v55.toInt := aI_of e2 ev55
      have ha9 : aI H0 hh a2 = v55.toInt := aI_of e2 ev55
      refine lv_iconst (v := 0) hx hb dX7_weightFrom_40 rfl ?_
      refine q_goIp (q_runS (As := [.int v55, .int 0]) (rest := []) E hS23 (m_X7_costOfStep l X Γ H0 hC0 v55 (a0 := v55.toInt) rfl 0 (a1 := 0) (by decide) (by omega) (by omega) (by omega) (by omega)) cw_X7_costOfStep cl_RX7_57 rfl hl.1 rfl (Nat.zero_le _) (by decide) dX7_weightFrom_41) hS23 (fun v57 locs57 hr57 hS57 => ?_)
      obtain ⟨f57_0, f57_1, f57_2⟩ := hr57
      have hst0 : v57.toInt * 64 = stp (aI H0 hh a2) 0 * 64 := by rw [ha9, f57_0]
      refine lv_bipush (v := 64) hx hb dX7_weightFrom_44 rfl ?_
      refine lv_imul hx hb dX7_weightFrom_46 (lv_topi (fun v58 ev58 => ?_))
      have ev58i : v58.toInt = (v57.toInt * 64) := i_mul ev58 rfl (by decide) (by omega) (by omega)
      refine lv_goto (tgt := 52) hx hb dX7_weightFrom_47 rfl ?_
      refine lv_istore hx hb dX7_weightFrom_52 hl (by decide) rfl (fun ls hl => ?_)
      replace hl : lv_has ls 7 [(5, .int v58), (4, .int v22), (3, .int v21), (0, .ref h0), (1, .ref h1), (2, .int p2)] := hl
      refine lv_iconst (v := 0) hx hb dX7_weightFrom_54 rfl ?_
      refine lv_istore hx hb dX7_weightFrom_55 hl (by decide) rfl (fun ls hl => ?_)
      replace hl : lv_has ls 7 [(6, .int 0), (5, .int v58), (4, .int v22), (3, .int v21), (0, .ref h0), (1, .ref h1), (2, .int p2)] := hl
      have L57 : ∀ (n61 : Nat) (locs61 : List Loc) (v59 : Int32) (z59 : Int) (v60 : Int32) (z60 : Int) (ls : Array Slot), (4 - z59).toNat < n61 → v59.toInt = z59 → v60.toInt = z60 → z59 ≤ 4 → 0 ≤ z59 → WFI (sI H0 h1 (X.1.2 8 0)).toInt (sI H0 h1 (X.1.2 8 1)).toInt (aI H0 hh) (aI H0 wt) a2 z60 z59 → 0 ≤ z60 → z60 ≤ 268435456 → va_S (AΓ Γ) H0 H0 locs61 → lv_has ls 7 [(6, .int v59), (5, .int v60), (4, .int v22), (3, .int v21), (0, .ref h0), (1, .ref h1), (2, .int p2)] → W p l e (rmL 2) s m args below meth c H0 locs61 0 0 Qz (F0 m 57 ls []) := by
        intro n61
        induction n61 with
        | zero => intro locs61 v59 z59 v60 z60 ls hm61 ev59 ev60 iv61_0 iv61_1 iv61_2 iv61_3 iv61_4 hS61 hl; exact absurd hm61 (Nat.not_lt_zero _)
        | succ n61 ih61 =>
          intro locs61 v59 z59 v60 z60 ls hm61 ev59 ev60 iv61_0 iv61_1 iv61_2 iv61_3 iv61_4 hS61 hl
          have wf := iv61_2
          refine lv_iload hx hb dX7_weightFrom_57 (lv_at hl 0 rfl) ?_
          refine lv_iconst (v := 4) hx hb dX7_weightFrom_59 rfl ?_
          refine q_icmp_ge hx hb (a := z59) (b := 4) ev59 (by decide) (tgt := 123) dX7_weightFrom_60 rfl (fun c62 => ?_) (fun c62 => ?_)
          · refine lv_iload hx hb dX7_weightFrom_123 (lv_at hl 1 rfl) ?_
            refine lv_iconst (v := 1) hx hb dX7_weightFrom_125 rfl ?_
            refine lv_iadd hx hb dX7_weightFrom_126 (lv_topi (fun v63 ev63 => ?_))
            have ev63i : v63.toInt = (z60 + 1) := i_add ev63 ev60 (by decide) (by omega) (by omega)
            have wf4 := wf
            rw [show z59 = 4 by omega] at wf4
            have hwf : WFR (sI H0 h1 (X.1.2 8 0)).toInt (sI H0 h1 (X.1.2 8 1)).toInt (aI H0 hh) (aI H0 wt) a2 (v63 : Int32).toInt := WFI.fin wf4 ev63i
            have c64 : v63.toInt = (z60 + 1) := ev63i
            exact ret v63 H0 locs61 _ _ dX7_weightFrom_127 ⟨rfl, ⟨fun q => by omega, fun q => by first | exact hwf | (unfold HC at q; exfalso; omega), by omega, by omega⟩⟩ hC0 hS61
          · refine lv_aload_n hx hb dX7_weightFrom_63 rfl (lv_at hl 5 rfl) ?_
            refine lv_iload_n hx hb dX7_weightFrom_64 rfl (lv_at hl 3 rfl) ?_
            refine q_stRIGHT E hS61 w_666 dX7_weightFrom_65 (fun q65 tq65 => ?_)
            refine lv_iload hx hb dX7_weightFrom_68 (lv_at hl 0 rfl) ?_
            refine q_ldRIGHT E hS61 tq65 (a := z59) ev59 (by omega) (by omega) dX7_weightFrom_70 (fun v66 lv66 uv66 rv66 => ?_)
            refine lv_iadd hx hb dX7_weightFrom_71 (lv_topi (fun v67 ev67 => ?_))
            have ev67i : v67.toInt = ((a2 % 6) + v66.toInt) := i_add ev67 ev21i rfl (by omega) (by omega)
            refine lv_iload hx hb dX7_weightFrom_72 (lv_at hl 2 rfl) ?_
            refine q_stDOWN E hS61 w_668 dX7_weightFrom_74 (fun q68 tq68 => ?_)
            refine lv_iload hx hb dX7_weightFrom_77 (lv_at hl 0 rfl) ?_
            refine q_ldDOWN E hS61 tq68 (a := z59) ev59 (by omega) (by omega) dX7_weightFrom_79 (fun v69 lv69 uv69 rv69 => ?_)
            refine lv_iadd hx hb dX7_weightFrom_80 (lv_topi (fun v70 ev70 => ?_))
            have ev70i : v70.toInt = ((a2 / 6) + v69.toInt) := i_add ev70 ev22i rfl (by omega) (by omega)
            refine q_goIp (q_runV (As := [.int v67, .int v70]) (rest := []) E hC0 hS61 (m_X9_isCell l X Γ H0 hC0 h1 g1 v67 (a1 := ((a2 % 6) + v66.toInt)) ev67i v70 (a2 := ((a2 / 6) + v69.toInt)) ev70i) cw_X9_isCell cl_RX7_64 g1 ⟨rfl, rfl⟩ rfl hl.1 rfl (Nat.zero_le _) (by decide) dX7_weightFrom_81) hS61 (fun v71 locs71 hr71 hS71 => ?_)
            rcases hr71 with ⟨rfl, f71a0, f71a1, f71a2, f71a3, f71a4, f71a5⟩ | ⟨rfl, f71b⟩
            · have hok9 : 0 ≤ a2 % 6 + rR z59 ∧ a2 % 6 + rR z59 < (sI H0 h1 (X.1.2 8 0)).toInt ∧ 0 ≤ a2 / 6 + rD z59 ∧ a2 / 6 + rD z59 < (sI H0 h1 (X.1.2 8 1)).toInt := ⟨by omega, by omega, by omega, by omega⟩
              refine q_if_eq hx hb (a := 1) (by decide) (tgt := 117) dX7_weightFrom_84 rfl (fun c72 => absurd c72 (by omega)) (fun c72 => ?_)
              refine lv_iload hx hb dX7_weightFrom_87 (lv_at hl 1 rfl) ?_
              refine lv_aload_n hx hb dX7_weightFrom_89 rfl (lv_at hl 4 rfl) ?_
              refine lv_iload_n hx hb dX7_weightFrom_90 rfl (lv_at hl 6 rfl) ?_
              refine lv_iload_n hx hb dX7_weightFrom_91 rfl (lv_at hl 6 rfl) ?_
              refine q_stRIGHT E hS71 w_666 dX7_weightFrom_92 (fun q73 tq73 => ?_)
              refine lv_iload hx hb dX7_weightFrom_95 (lv_at hl 0 rfl) ?_
              refine q_ldRIGHT E hS71 tq73 (a := z59) ev59 (by omega) (by omega) dX7_weightFrom_97 (fun v74 lv74 uv74 rv74 => ?_)
              refine lv_iadd hx hb dX7_weightFrom_98 (lv_topi (fun v75 ev75 => ?_))
              have ev75i : v75.toInt = (a2 + v74.toInt) := i_add ev75 e2 rfl (by omega) (by omega)
              refine q_stDOWN E hS71 w_668 dX7_weightFrom_99 (fun q76 tq76 => ?_)
              refine lv_iload hx hb dX7_weightFrom_102 (lv_at hl 0 rfl) ?_
              refine q_ldDOWN E hS71 tq76 (a := z59) ev59 (by omega) (by omega) dX7_weightFrom_104 (fun v77 lv77 uv77 rv77 => ?_)
              refine lv_bipush (v := 6) hx hb dX7_weightFrom_105 rfl ?_
              refine lv_imul hx hb dX7_weightFrom_107 (lv_topi (fun v78 ev78 => ?_))
              have ev78i : v78.toInt = (v77.toInt * 6) := i_mul ev78 rfl (by decide) (by omega) (by omega)
              refine lv_iadd hx hb dX7_weightFrom_108 (lv_topi (fun v79 ev79 => ?_))
              have ev79i : v79.toInt = ((a2 + v74.toInt) + (v77.toInt * 6)) := i_add ev79 ev75i ev78i (by omega) (by omega)
              refine q_goIp (q_runV (As := [.int p2, .int v79]) (rest := [.int v60]) E hC0 hS71 (m_X7_weightBy l X Γ H0 hC0 h0 g0 p2 (a1 := a2) e2 v79 (a2 := ((a2 + v74.toInt) + (v77.toInt * 6))) ev79i pa hh wt wn (by omega) (by omega)) cw_X7_weightBy cl_RX7_74 g0 ⟨rfl, rfl⟩ rfl hl.1 rfl (show _ ≤ _ from by simp [Value.category]) (by decide) dX7_weightFrom_109) hS71 (fun v80 locs80 hr80 hS80 => ?_)
              obtain ⟨f80_0, f80_1, f80_2⟩ := hr80
              have hwb := (Or.resolve_left f80_0 (fun q => by omega)).2.2
              refine q_mmin E hl.1 w_674 mathw_min (a := z60) (b := v80.toInt) ev60 rfl (by decide) (Nat.zero_le _) dX7_weightFrom_112 (fun v81 mv81a mv81b mv81c => ?_)
              refine lv_istore hx hb dX7_weightFrom_115 hl (by decide) rfl (fun ls hl => ?_)
              replace hl : lv_has ls 7 [(5, .int v81), (6, .int v59), (4, .int v22), (3, .int v21), (0, .ref h0), (1, .ref h1), (2, .int p2)] := hl
              have wf2 : WFI (sI H0 h1 (X.1.2 8 0)).toInt (sI H0 h1 (X.1.2 8 1)).toInt (aI H0 hh) (aI H0 wt) a2 v81.toInt (z59 + 1) := by first | exact wf.no hcc hno9 | exact wf.in_ hcc (by omega) (by omega) hok9 ⟨by omega, by omega⟩ (by omega) hwb (by omega) (by omega) (by omega) (by omega)
              obtain ⟨v82, ev82⟩ : ∃ z, z = v59 + Int32.ofInt 1 := ⟨_, rfl⟩
              have ev82i : v82.toInt = (z59 + 1) := i_add ev82 ev59 (by decide) (by omega) (by omega)
              refine lv_iinc hx hb dX7_weightFrom_117 hl (k := 1) rfl ev82.symm (by decide) rfl (fun ls hl => ?_)
              replace hl : lv_has ls 7 [(6, .int v82), (5, .int v81), (4, .int v22), (3, .int v21), (0, .ref h0), (1, .ref h1), (2, .int p2)] := hl
              refine lv_goto (tgt := 57) hx hb dX7_weightFrom_120 rfl ?_
              exact ih61 locs80 v82 ((z59 + 1)) v81 (v81.toInt) ls (ms_lt hm61 (by omega) (by omega)) ev82i rfl (by omega) (by omega) (wf2) (by omega) (by omega) hS80 hl
            · have hno9 : ¬ (0 ≤ a2 % 6 + rR z59 ∧ a2 % 6 + rR z59 < (sI H0 h1 (X.1.2 8 0)).toInt ∧ 0 ≤ a2 / 6 + rD z59 ∧ a2 / 6 + rD z59 < (sI H0 h1 (X.1.2 8 1)).toInt) := by omega
              refine q_if_eq hx hb (a := 0) (by decide) (tgt := 117) dX7_weightFrom_84 rfl (fun c83 => ?_) (fun c83 => absurd c83 (by omega))
              have wf2 : WFI (sI H0 h1 (X.1.2 8 0)).toInt (sI H0 h1 (X.1.2 8 1)).toInt (aI H0 hh) (aI H0 wt) a2 z60 (z59 + 1) := by first | exact wf.no hcc hno9 | exact wf.in_ hcc (by omega) (by omega) hok9 ⟨by omega, by omega⟩ (by omega) hwb (by omega) (by omega) (by omega) (by omega)
              obtain ⟨v84, ev84⟩ : ∃ z, z = v59 + Int32.ofInt 1 := ⟨_, rfl⟩
              have ev84i : v84.toInt = (z59 + 1) := i_add ev84 ev59 (by decide) (by omega) (by omega)
              refine lv_iinc hx hb dX7_weightFrom_117 hl (k := 0) rfl ev84.symm (by decide) rfl (fun ls hl => ?_)
              replace hl : lv_has ls 7 [(6, .int v84), (5, .int v60), (4, .int v22), (3, .int v21), (0, .ref h0), (1, .ref h1), (2, .int p2)] := hl
              refine lv_goto (tgt := 57) hx hb dX7_weightFrom_120 rfl ?_
              exact ih61 locs71 v84 ((z59 + 1)) v60 (z60) ls (ms_lt hm61 (by omega) (by omega)) ev84i ev60 (by omega) (by omega) (wf2) (by omega) (by omega) hS71 hl
      exact L57 _ locs57 0 0 v58 ((v57.toInt * 64)) ls (Nat.lt_succ_self _) (by decide) ev58i (by omega) (by omega) (by first | exact WFI.edge (by omega) hst0 (by omega) | exact WFI.far (by omega)) (by omega) (by omega) hS57 hl
  · refine q_if_ne hx hb (a := 0) (by decide) (tgt := 24) dX7_weightFrom_18 rfl (fun c85 => absurd c85 (by omega)) (fun c85 => ?_)
    refine lv_ldc (v := 268435456) hx hb E.2.2.2.1 (E.2.2.2.2.1 _ w_656) dX7_weightFrom_21 ?_
    have c86 : (268435456 : Int32).toInt = 268435456 := (by decide)
    exact ret 268435456 H0 locs23 _ _ dX7_weightFrom_23 ⟨rfl, ⟨fun q => by omega, fun q => by first | exact hwf | (unfold HC at q; exfalso; omega), by omega, by omega⟩⟩ hC0 hS23
set_option maxRecDepth 100000 in
set_option maxHeartbeats 4000000 in
theorem m_X7_begin (l : Launch) (X : xW) (Γ : Nat → Option Nat) (H0 : Heap) (hC0 : Conf X Γ H0) (h0 : Nat) (g0 : Γ h0 = some 7) (pa hh wt : Nat) (wn : WN X Γ H0 h0 pa hh wt) (r0 : WS (sI H0 h0 (X.1.2 7 4)).toInt (sI H0 h0 (X.1.2 7 5)).toInt (aI H0 hh) (aI H0 wt)) (r1 : ∀ z, FPW (sI H0 h0 (X.1.2 7 4)).toInt (sI H0 h0 (X.1.2 7 5)).toInt (aI H0 hh) (aI H0 wt) z) (r2 : 1 ≤ (sI H0 h0 (X.1.2 7 4)).toInt) (r3 : 1 ≤ (sI H0 h0 (X.1.2 7 5)).toInt) : Ctr l X Γ yX7_begin cX7_begin 4 none 1 [.ref h0] H0 (QV X Γ (fun H1 => Kp X Γ [3, 29, 31, 32, 33, 34, 37, 39, 40, 50, 51, 52, 53, 54, 55, 56, 57, 58, 59, 60, 61, 62, 63, 65, 68, 69, 70, 71, 72] H0 H1 ∧ ((HC (sI H0 h0 (X.1.2 7 4)).toInt (sI H0 h0 (X.1.2 7 5)).toInt (sI H1 h0 (X.1.2 7 6)).toInt) ∧ ((sI H1 h0 (X.1.2 7 6)).toInt % 6 = 0) ∧ ((sI H1 h0 (X.1.2 7 7)).toInt = (stp 0 (aI H0 hh (sI H1 h0 (X.1.2 7 6)).toInt) * 64 + aI H0 wt (sI H1 h0 (X.1.2 7 6)).toInt) / 64) ∧ (aI H1 hh = aI H0 hh) ∧ (aI H1 wt = aI H0 wt) ∧ ((sI H1 h0 (X.1.2 7 4)).toInt = (sI H0 h0 (X.1.2 7 4)).toInt) ∧ ((sI H1 h0 (X.1.2 7 5)).toInt = (sI H0 h0 (X.1.2 7 5)).toInt)))) := by
  refine q_enterV (own := "SnowForts$Walk") (by decide) rfl (Nat.le_of_ble_eq_true rfl) ?_
  intro p e s m args below meth c ls Qz E hl ret hS0
  have hx := E.1; have hb := E.2.1
  have hKp0 : Kp X Γ [3, 29, 31, 32, 33, 34, 37, 39, 40, 50, 51, 52, 53, 54, 55, 56, 57, 58, 59, 60, 61, 62, 63, 65, 68, 69, 70, 71, 72] H0 H0 := Kp.rf
  have hl : lv_has ls 4 [(0, .ref h0)] := hl
  have gpa := wn.pa.2; have ghh := wn.hh.2; have gwt := wn.wt.2
  have hw6 := f_bd hC0 g0 (ci := 7) (k := 4) rfl rfl
  have hhb : ∀ z : Int, 0 ≤ z → z < 36 → 0 ≤ aI H0 hh z ∧ aI H0 hh z ≤ 198 := fun z z0 z1 => el_bd hC0 ghh rfl rfl (fun _ => rfl) z0 z1
  have hz0 := CR.zero r0 r1 hhb r2 (by omega) r3
  have afh : aI H0 hh = aI H0 hh := rfl
  have afw : aI H0 wt = aI H0 wt := rfl
  refine lv_ldc (v := 268435456) hx hb E.2.2.2.1 (E.2.2.2.2.1 _ w_656) dX7_begin_0 ?_
  refine lv_istore_n hx hb dX7_begin_2 rfl hl (by decide) rfl (fun ls hl => ?_)
  replace hl : lv_has ls 4 [(1, .int 268435456), (0, .ref h0)] := hl
  refine lv_iconst (v := 0) hx hb dX7_begin_3 rfl ?_
  refine lv_istore_n hx hb dX7_begin_4 rfl hl (by decide) rfl (fun ls hl => ?_)
  replace hl : lv_has ls 4 [(2, .int 0), (1, .int 268435456), (0, .ref h0)] := hl
  have L5 : ∀ (n23 : Nat) (H23 : Heap) (locs23 : List Loc) (v21 : Int32) (z21 : Int) (v22 : Int32) (z22 : Int) (ls : Array Slot), (36 - z21).toNat < n23 → v21.toInt = z21 → v22.toInt = z22 → z21 ≤ 41 → 0 ≤ z21 → z21 % 6 = 0 → 0 ≤ z22 → z22 ≤ 268435456 → BGN (sI H0 h0 (X.1.2 7 4)).toInt (sI H0 h0 (X.1.2 7 5)).toInt (aI H0 hh) (aI H0 wt) z22 z21 (sI H23 h0 (X.1.2 7 6)).toInt → (sI H23 h0 (X.1.2 7 4)).toInt = (sI H0 h0 (X.1.2 7 4)).toInt → (sI H23 h0 (X.1.2 7 5)).toInt = (sI H0 h0 (X.1.2 7 5)).toInt → Conf X Γ H23 → va_S (AΓ Γ) H0 H23 locs23 → Kp X Γ [3, 29, 31, 32, 33, 34, 37, 39, 40, 50, 51, 52, 53, 54, 55, 56, 57, 58, 59, 60, 61, 62, 63, 65, 68, 69, 70, 71, 72] H0 H23 → (aI H23 hh = aI H0 hh) → (aI H23 wt = aI H0 wt) → lv_has ls 4 [(2, .int v21), (1, .int v22), (0, .ref h0)] → W p l e (rmL 1) s m args below meth c H23 locs23 0 0 Qz (F0 m 5 ls []) := by
    intro n23
    induction n23 with
    | zero => intro H23 locs23 v21 z21 v22 z22 ls hm23 ev21 ev22 iv23_0 iv23_1 iv23_2 iv23_3 iv23_4 iv23_5 iv23_6 iv23_7 hC23 hS23 hKp23 afh afw hl; exact absurd hm23 (Nat.not_lt_zero _)
    | succ n23 ih23 =>
      intro H23 locs23 v21 z21 v22 z22 ls hm23 ev21 ev22 iv23_0 iv23_1 iv23_2 iv23_3 iv23_4 iv23_5 iv23_6 iv23_7 hC23 hS23 hKp23 afh afw hl
      have bgn := iv23_5
      refine lv_iload_n hx hb dX7_begin_5 rfl (lv_at hl 0 rfl) ?_
      refine lv_bipush (v := 36) hx hb dX7_begin_6 rfl ?_
      refine q_icmp_ge hx hb (a := z21) (b := 36) ev21 (by decide) (tgt := 50) dX7_begin_8 rfl (fun c24 => ?_) (fun c24 => ?_)
      · obtain ⟨bb, hbb⟩ : ∃ z, (sI H23 h0 (X.1.2 7 6)).toInt = z := ⟨_, rfl⟩
        have bgf := bgn.fin (by omega)
        rw [hbb] at bgf
        refine lv_aload_n hx hb dX7_begin_50 rfl (lv_at hl 2 rfl) ?_
        refine lv_iload_n hx hb dX7_begin_51 rfl (lv_at hl 1 rfl) ?_
        refine lv_bipush (v := 64) hx hb dX7_begin_52 rfl ?_
        refine lv_idiv hx hb dX7_begin_54 (by decide) (lv_topi (fun v25 ev25 => ?_))
        have ev25i : v25.toInt = (z22 / 64) := i_div ev25 ev22 (by decide) (by omega) (by decide)
        refine q_put E hC23 hS23 g0 fp_RX7_25 tv_F rfl rfl dX7_begin_55 (fun H26 locs26 hC26 hS26 U26 => ?_)
        have hKp26 := Kp.upO E g0 fp_RX7_25 rfl U26 hKp23
        have e27 := up_I U26
        have m28 : (sI H26 h0 (X.1.2 7 7)).toInt = (z22 / 64) := (congrArg Int32.toInt e27).trans ev25i
        replace afh : aI H26 hh = aI H0 hh := (funext fun _ => aI_ne U26 (nek g0 ghh (by decide))).trans afh
        replace afw : aI H26 wt = aI H0 wt := (funext fun _ => aI_ne U26 (nek g0 gwt (by decide))).trans afw
        have m29 : (sI H26 h0 (X.1.2 7 4)).toInt = (sI H23 h0 (X.1.2 7 4)).toInt := congrArg Int32.toInt (up_nI U26 (ne_f E 7 4 7 rfl (by decide) (by decide) (by decide)))
        have m30 : (sI H26 h0 (X.1.2 7 5)).toInt = (sI H23 h0 (X.1.2 7 5)).toInt := congrArg Int32.toInt (up_nI U26 (ne_f E 7 5 7 rfl (by decide) (by decide) (by decide)))
        have m31 : (sI H26 h0 (X.1.2 7 6)).toInt = (sI H23 h0 (X.1.2 7 6)).toInt := congrArg Int32.toInt (up_nI U26 (ne_f E 7 6 7 rfl (by decide) (by decide) (by decide)))
        have hbe : (sI H26 h0 (X.1.2 7 6)).toInt = bb := by omega
        have hf0 : HC (sI H0 h0 (X.1.2 7 4)).toInt (sI H0 h0 (X.1.2 7 5)).toInt (sI H26 h0 (X.1.2 7 6)).toInt := by rw [hbe]; exact bgf.1
        have hf1 : (sI H26 h0 (X.1.2 7 6)).toInt % 6 = 0 := by rw [hbe]; exact bgf.2.1
        have hf2 : (sI H26 h0 (X.1.2 7 7)).toInt = (stp 0 (aI H0 hh (sI H26 h0 (X.1.2 7 6)).toInt) * 64 + aI H0 wt (sI H26 h0 (X.1.2 7 6)).toInt) / 64 := by rw [hbe, ← bgf.2.2]; omega
        exact ret H26 locs26 _ _ dX7_begin_58 ⟨hKp26, ⟨hf0, hf1, hf2, afh, afw, by omega, by omega⟩⟩ hC26 hS26
      · refine lv_iconst (v := 0) hx hb dX7_begin_11 rfl ?_
        refine lv_aload_n hx hb dX7_begin_12 rfl (lv_at hl 2 rfl) ?_
        refine q_getS E hC23 g0 fa_RX7_15 (wn.kp g0 hKp23 rfl).hh.1 dX7_begin_13 (fun _ => ?_)
        refine lv_iload_n hx hb dX7_begin_16 rfl (lv_at hl 0 rfl) ?_
        refine q_iald E hC23 ghh rfl rfl (fun _ h => h) (i_in (a := z21) ev21 (by omega) (by omega)) dX7_begin_17 (fun v32 ev32 lv32 uv32 => ?_)
        have m33 : aI H23 hh z21 = v32.toInt := aI_of ev21 ev32
        have ha9 : aI H0 hh z21 = v32.toInt := by rw [← afh]; exact aI_of ev21 ev32
        refine q_goIp (q_runS (As := [.int 0, .int v32]) (rest := []) E hS23 (m_X7_costOfStep l X Γ H23 hC23 0 (a0 := 0) (by decide) v32 (a1 := v32.toInt) rfl (by omega) (by omega) (by omega) (by omega)) cw_X7_costOfStep cl_RX7_57 rfl hl.1 rfl (Nat.zero_le _) (by decide) dX7_begin_18) hS23 (fun v34 locs34 hr34 hS34 => ?_)
        obtain ⟨f34_0, f34_1, f34_2⟩ := hr34
        have hst : v34.toInt = stp 0 (aI H0 hh z21) := by rw [ha9]; exact f34_0
        refine lv_bipush (v := 64) hx hb dX7_begin_21 rfl ?_
        refine lv_imul hx hb dX7_begin_23 (lv_topi (fun v35 ev35 => ?_))
        have ev35i : v35.toInt = (v34.toInt * 64) := i_mul ev35 rfl (by decide) (by omega) (by omega)
        refine lv_aload_n hx hb dX7_begin_24 rfl (lv_at hl 2 rfl) ?_
        refine q_getS E hC23 g0 fa_RX7_18 (wn.kp g0 hKp23 rfl).wt.1 dX7_begin_25 (fun _ => ?_)
        refine lv_iload_n hx hb dX7_begin_28 rfl (lv_at hl 0 rfl) ?_
        refine q_iald E hC23 gwt rfl rfl (fun _ h => h) (i_in (a := z21) ev21 (by omega) (by omega)) dX7_begin_29 (fun v36 ev36 lv36 uv36 => ?_)
        have m37 : aI H23 wt z21 = v36.toInt := aI_of ev21 ev36
        have hb9 : aI H0 wt z21 = v36.toInt := by rw [← afw]; exact aI_of ev21 ev36
        refine lv_iadd hx hb dX7_begin_30 (lv_topi (fun v38 ev38 => ?_))
        have ev38i : v38.toInt = ((v34.toInt * 64) + v36.toInt) := i_add ev38 ev35i rfl (by omega) (by omega)
        refine lv_istore_n hx hb dX7_begin_31 rfl hl (by decide) rfl (fun ls hl => ?_)
        replace hl : lv_has ls 4 [(3, .int v38), (2, .int v21), (1, .int v22), (0, .ref h0)] := hl
        have hx9 : ((v34.toInt * 64) + v36.toInt) = stp 0 (aI H0 hh z21) * 64 + aI H0 wt z21 := by omega
        refine lv_iload_n hx hb dX7_begin_32 rfl (lv_at hl 0 rfl) ?_
        refine lv_iload_n hx hb dX7_begin_33 rfl (lv_at hl 2 rfl) ?_
        refine q_icmp_ge hx hb (a := ((v34.toInt * 64) + v36.toInt)) (b := z22) ev38i ev22 (tgt := 44) dX7_begin_34 rfl (fun c39 => ?_) (fun c39 => ?_)
        · have bgn2 : BGN (sI H0 h0 (X.1.2 7 4)).toInt (sI H0 h0 (X.1.2 7 5)).toInt (aI H0 hh) (aI H0 wt) z22 (z21 + 6) (sI H23 h0 (X.1.2 7 6)).toInt := by first | exact bgn.new r0 (by omega) (by omega) (by omega) hx9 (by omega) (by omega) (by omega) | exact bgn.keep hz0 hx9 (by omega) rfl
          obtain ⟨v40, ev40⟩ : ∃ z, z = v21 + Int32.ofInt 6 := ⟨_, rfl⟩
          have ev40i : v40.toInt = (z21 + 6) := i_add ev40 ev21 (by decide) (by omega) (by omega)
          refine lv_iinc hx hb dX7_begin_44 hl (k := 1) rfl ev40.symm (by decide) rfl (fun ls hl => ?_)
          replace hl : lv_has ls 4 [(2, .int v40), (3, .int v38), (1, .int v22), (0, .ref h0)] := hl
          refine lv_goto (tgt := 5) hx hb dX7_begin_47 rfl ?_
          exact ih23 H23 locs34 v40 ((z21 + 6)) v22 (z22) ls (ms_lt hm23 (by omega) (by omega)) ev40i ev22 (by omega) (by omega) (by omega) (by omega) (by omega) (bgn2) (by omega) (by omega) hC23 hS34 hKp23 afh afw (lv_sub hl [0, 2, 3] rfl)
        · refine lv_iload_n hx hb dX7_begin_37 rfl (lv_at hl 0 rfl) ?_
          refine lv_istore_n hx hb dX7_begin_38 rfl hl (by decide) rfl (fun ls hl => ?_)
          replace hl : lv_has ls 4 [(1, .int v38), (3, .int v38), (2, .int v21), (0, .ref h0)] := hl
          refine lv_aload_n hx hb dX7_begin_39 rfl (lv_at hl 3 rfl) ?_
          refine lv_iload_n hx hb dX7_begin_40 rfl (lv_at hl 2 rfl) ?_
          refine q_put E hC23 hS34 g0 fp_RX7_61 (tv_I ev21 (by omega) (by omega)) rfl rfl dX7_begin_41 (fun H41 locs41 hC41 hS41 U41 => ?_)
          have hKp41 := Kp.upO E g0 fp_RX7_61 rfl U41 hKp23
          have e42 := up_I U41
          have m43 : (sI H41 h0 (X.1.2 7 6)).toInt = z21 := (congrArg Int32.toInt e42).trans ev21
          replace afh : aI H41 hh = aI H0 hh := (funext fun _ => aI_ne U41 (nek g0 ghh (by decide))).trans afh
          replace afw : aI H41 wt = aI H0 wt := (funext fun _ => aI_ne U41 (nek g0 gwt (by decide))).trans afw
          have m44 : (sI H41 h0 (X.1.2 7 4)).toInt = (sI H23 h0 (X.1.2 7 4)).toInt := congrArg Int32.toInt (up_nI U41 (ne_f E 7 4 6 rfl (by decide) (by decide) (by decide)))
          have m45 : (sI H41 h0 (X.1.2 7 5)).toInt = (sI H23 h0 (X.1.2 7 5)).toInt := congrArg Int32.toInt (up_nI U41 (ne_f E 7 5 6 rfl (by decide) (by decide) (by decide)))
          have m46 : (sI H41 h0 (X.1.2 7 7)).toInt = (sI H23 h0 (X.1.2 7 7)).toInt := congrArg Int32.toInt (up_nI U41 (ne_f E 7 7 6 rfl (by decide) (by decide) (by decide)))
          have bgn2 : BGN (sI H0 h0 (X.1.2 7 4)).toInt (sI H0 h0 (X.1.2 7 5)).toInt (aI H0 hh) (aI H0 wt) ((v34.toInt * 64) + v36.toInt) (z21 + 6) (sI H41 h0 (X.1.2 7 6)).toInt := by first | exact bgn.new r0 (by omega) (by omega) (by omega) hx9 (by omega) (by omega) (by omega) | exact bgn.keep hz0 hx9 (by omega) rfl
          obtain ⟨v47, ev47⟩ : ∃ z, z = v21 + Int32.ofInt 6 := ⟨_, rfl⟩
          have ev47i : v47.toInt = (z21 + 6) := i_add ev47 ev21 (by decide) (by omega) (by omega)
          refine lv_iinc hx hb dX7_begin_44 hl (k := 2) rfl ev47.symm (by decide) rfl (fun ls hl => ?_)
          replace hl : lv_has ls 4 [(2, .int v47), (1, .int v38), (3, .int v38), (0, .ref h0)] := hl
          refine lv_goto (tgt := 5) hx hb dX7_begin_47 rfl ?_
          exact ih23 H41 locs41 v47 ((z21 + 6)) v38 (((v34.toInt * 64) + v36.toInt)) ls (ms_lt hm23 (by omega) (by omega)) ev47i ev38i (by omega) (by omega) (by omega) (by omega) (by omega) (bgn2) (by omega) (by omega) hC41 hS41 hKp41 afh afw (lv_sub hl [0, 1, 3] rfl)
  exact L5 _ H0 [] 0 0 268435456 268435456 ls (Nat.lt_succ_self _) (by decide) (by decide) (by omega) (by omega) (by omega) (by omega) (by omega) (Or.inl ⟨rfl, rfl⟩) (by omega) (by omega) hC0 hS0 hKp0 afh afw hl
set_option maxRecDepth 100000 in
set_option maxHeartbeats 8000000 in
theorem m_X7_costOver (l : Launch) (X : xW) (Γ : Nat → Option Nat) (H0 : Heap) (hC0 : Conf X Γ H0) (h0 : Nat) (g0 : Γ h0 = some 7) (h1 : Nat) (g1 : Γ h1 = some 5) (sn wl su lw ic kn hd us br ar fi : Nat) (yn : YN X Γ H0 h1 sn wl su lw ic kn hd us br ar fi) (pa hh wt : Nat) (wn : WN X Γ H0 h0 pa hh wt) (r0 : (sI H0 h0 (X.1.2 7 4)).toInt = 0 ∨ WKS X H0 h0 hh wt) (r1 : 2 ≤ (sI H0 h1 (X.1.2 8 0)).toInt) (r2 : 1 ≤ (sI H0 h1 (X.1.2 8 1)).toInt) : Ctr l X Γ yX7_costOver cX7_costOver 6 (some .int) 3 [.ref h0, .ref h1] H0 (QI X Γ (fun v H1 => Kp X Γ [3, 29, 31, 32, 33, 34, 37, 39, 40, 50, 51, 52, 53, 54, 55, 56, 57, 58, 59, 60, 61, 62, 63, 65, 68, 70, 71, 72] H0 H1 ∧ ((WKS X H1 h0 hh wt) ∧ ((sI H1 h0 (X.1.2 7 4)).toInt = (sI H0 h1 (X.1.2 8 0)).toInt) ∧ ((sI H1 h0 (X.1.2 7 5)).toInt = (sI H0 h1 (X.1.2 8 1)).toInt) ∧ (∀ z : Int, 0 ≤ z → z < 36 → aI H1 hh z = aI H0 sn z + aI H0 wl z) ∧ (v.toInt = (sI H1 h0 (X.1.2 7 7)).toInt) ∧ (((sI H0 h0 (X.1.2 7 4)).toInt = (sI H0 h1 (X.1.2 8 0)).toInt ∧ (sI H0 h0 (X.1.2 7 5)).toInt = (sI H0 h1 (X.1.2 8 1)).toInt ∧ ∀ z : Int, 0 ≤ z → z < 36 → aI H0 hh z = aI H0 sn z + aI H0 wl z) → (sI H1 h0 (X.1.2 7 7)).toInt = (sI H0 h0 (X.1.2 7 7)).toInt)))) := by
  refine q_enterI (own := "SnowForts$Walk") (by decide) rfl (Nat.le_of_ble_eq_true rfl) ?_
  intro p e s m args below meth c ls Qz E hl ret hS0
  have hx := E.1; have hb := E.2.1
  have hKp0 : Kp X Γ [3, 29, 31, 32, 33, 34, 37, 39, 40, 50, 51, 52, 53, 54, 55, 56, 57, 58, 59, 60, 61, 62, 63, 65, 68, 70, 71, 72] H0 H0 := Kp.rf
  have hl : lv_has ls 6 [(0, .ref h0), (1, .ref h1)] := hl
  have gsn := yn.sn.2; have gwl := yn.wl.2; have gsu := yn.su.2; have glw := yn.lw.2; have gic := yn.ic.2; have gkn := yn.kn.2; have ghd := yn.hd.2; have gus := yn.us.2; have gbr := yn.br.2; have gar := yn.ar.2; have gfi := yn.fi.2
  have gpa := wn.pa.2; have ghh := wn.hh.2; have gwt := wn.wt.2
  have hw6 := f_bd hC0 g1 (ci := 8) (k := 0) rfl rfl
  have hh6 := f_bd hC0 g1 (ci := 8) (k := 1) rfl rfl
  obtain ⟨w9, hw9⟩ : ∃ z, (sI H0 h1 (X.1.2 8 0)).toInt = z := ⟨_, rfl⟩
  obtain ⟨h9, hh9⟩ : ∃ z, (sI H0 h1 (X.1.2 8 1)).toInt = z := ⟨_, rfl⟩
  refine lv_aload_n hx hb dX7_costOver_0 rfl (lv_at hl 0 rfl) ?_
  refine lv_aload_n hx hb dX7_costOver_1 rfl (lv_at hl 1 rfl) ?_
  refine q_goI (q_runV (As := [.ref h1]) (rest := []) E hC0 hS0 (m_X7_comesTo l X Γ H0 hC0 h0 g0 h1 g1 sn wl su lw ic kn hd us br ar fi yn pa hh wt wn) cw_X7_comesTo cl_RX7_21 g0 ⟨rfl, rfl⟩ rfl hl.1 rfl (Nat.zero_le _) (by decide) dX7_costOver_2) hS0 (fun v21 H21 locs21 hr21 hC21 hS21 => ?_)
  obtain ⟨hp21, hr21⟩ := hr21
  have hKp21 := hKp0.tr (hp21.mono rfl)
  have m22 : (sI H21 h1 (X.1.2 8 0)).toInt = (sI H0 h1 (X.1.2 8 0)).toInt := congrArg Int32.toInt (kp_I hp21 g1 (ci := 8) (k := 0) rfl (by decide) rfl)
  have m23 : (sI H21 h1 (X.1.2 8 1)).toInt = (sI H0 h1 (X.1.2 8 1)).toInt := congrArg Int32.toInt (kp_I hp21 g1 (ci := 8) (k := 1) rfl (by decide) rfl)
  have m24 : (sI H21 h0 (X.1.2 7 6)).toInt = (sI H0 h0 (X.1.2 7 6)).toInt := congrArg Int32.toInt (kp_I hp21 g0 (k := 6) rfl (by decide) rfl)
  have m25 : (sI H21 h0 (X.1.2 7 7)).toInt = (sI H0 h0 (X.1.2 7 7)).toInt := congrArg Int32.toInt (kp_I hp21 g0 (k := 7) rfl (by decide) rfl)
  rcases hr21 with ⟨rfl, c9, c0, c1, c3, c2⟩ | ⟨rfl, c0, c1, c2, c3, c4, c5⟩
  · obtain ⟨ht, hht⟩ : ∃ f, aI H21 hh = f := ⟨_, rfl⟩
    have afh : aI H21 hh = ht := hht
    have htt : ∀ z : Int, 0 ≤ z → z < 36 → ht z = aI H0 sn z + aI H0 wl z := fun z z0 z1 => by rw [← hht]; exact c2 z z0 z1
    have hhb : ∀ z : Int, 0 ≤ z → z < 36 → 0 ≤ ht z ∧ ht z ≤ 198 := fun z z0 z1 => by rw [← hht]; exact el_bd hC21 ghh rfl rfl (fun _ => rfl) z0 z1
    refine q_if_ne hx hb (a := 1) (by decide) (tgt := 13) dX7_costOver_5 rfl (fun c26 => ?_) (fun c26 => absurd c26 (by omega))
    refine lv_aload_n hx hb dX7_costOver_13 rfl (lv_at hl 0 rfl) ?_
    refine q_getS E hC21 g0 fa_RX7_18 (wn.kp g0 hKp21 rfl).wt.1 dX7_costOver_14 (fun _ => ?_)
    refine lv_ldc (v := 268435456) hx hb E.2.2.2.1 (E.2.2.2.2.1 _ w_656) dX7_costOver_17 ?_
    refine q_goV (q_runS (As := [.ref wt, .int 268435456]) (rest := []) E hS21 (m_fillI l X Γ H21 hC21 wt gwt (by decide) rfl rfl (fun _ => rfl) (by decide) 268435456 (by decide)) cw_J7_fill_53178 cl_RX7_30 rfl hl.1 rfl (Nat.zero_le _) (by decide) dX7_costOver_19) hS21 (fun H27 locs27 U27 hC27 hS27 => ?_)
    obtain ⟨U27, F27⟩ := U27
    have hKp27 := Kp.upC gwt rfl (by decide) rfl U27 hKp21
    have m28 : (sI H27 h1 (X.1.2 8 0)).toInt = (sI H21 h1 (X.1.2 8 0)).toInt := congrArg Int32.toInt (cp_I U27 (nek g1 gwt (by decide)))
    have m29 : (sI H27 h1 (X.1.2 8 1)).toInt = (sI H21 h1 (X.1.2 8 1)).toInt := congrArg Int32.toInt (cp_I U27 (nek g1 gwt (by decide)))
    replace afh : aI H27 hh = ht := (funext fun _ => aI_cp U27 (nek ghh gwt (by decide))).trans afh
    have m30 : (sI H27 h0 (X.1.2 7 4)).toInt = (sI H21 h0 (X.1.2 7 4)).toInt := congrArg Int32.toInt (cp_I U27 (nek g0 gwt (by decide)))
    have m31 : (sI H27 h0 (X.1.2 7 5)).toInt = (sI H21 h0 (X.1.2 7 5)).toInt := congrArg Int32.toInt (cp_I U27 (nek g0 gwt (by decide)))
    have m32 : (sI H27 h0 (X.1.2 7 6)).toInt = (sI H21 h0 (X.1.2 7 6)).toInt := congrArg Int32.toInt (cp_I U27 (nek g0 gwt (by decide)))
    have m33 : (sI H27 h0 (X.1.2 7 7)).toInt = (sI H21 h0 (X.1.2 7 7)).toInt := congrArg Int32.toInt (cp_I U27 (nek g0 gwt (by decide)))
    have hfr : ∀ z : Int, 0 ≤ z → z < 36 → aI H27 wt z = 268435456 := fun z z0 z1 => by unfold aI; rw [F27 z.toNat (by omega)]; decide
    refine lv_iconst (v := 1) hx hb dX7_costOver_22 rfl ?_
    refine lv_istore_n hx hb dX7_costOver_23 rfl hl (by decide) rfl (fun ls hl => ?_)
    replace hl : lv_has ls 6 [(2, .int 1), (0, .ref h0), (1, .ref h1)] := hl
    refine lv_iconst (v := 0) hx hb dX7_costOver_24 rfl ?_
    refine lv_istore_n hx hb dX7_costOver_25 rfl hl (by decide) rfl (fun ls hl => ?_)
    replace hl : lv_has ls 6 [(3, .int 0), (2, .int 1), (0, .ref h0), (1, .ref h1)] := hl
    have L26 : ∀ (n36 : Nat) (H36 : Heap) (locs36 : List Loc) (v34 : Int32) (z34 : Int) (v35 : Int32) (z35 : Int) (ls : Array Slot), (37 - z34).toNat < n36 → v34.toInt = z34 → v35.toInt = z35 → z34 ≤ 37 → 0 ≤ z34 → CR w9 h9 ht (aI H36 wt) (z34 : Int).toNat z35 → 0 ≤ z35 → z35 ≤ 1 → (sI H36 h0 (X.1.2 7 4)).toInt = w9 → (sI H36 h0 (X.1.2 7 5)).toInt = h9 → (sI H36 h1 (X.1.2 8 0)).toInt = w9 → (sI H36 h1 (X.1.2 8 1)).toInt = h9 → Conf X Γ H36 → va_S (AΓ Γ) H0 H36 locs36 → Kp X Γ [3, 29, 31, 32, 33, 34, 37, 39, 40, 50, 51, 52, 53, 54, 55, 56, 57, 58, 59, 60, 61, 62, 63, 65, 68, 70, 71, 72] H0 H36 → (aI H36 hh = ht) → lv_has ls 6 [(3, .int v34), (2, .int v35), (0, .ref h0), (1, .ref h1)] → W p l e (rmL 3) s m args below meth c H36 locs36 0 0 Qz (F0 m 26 ls []) := by
      intro n36
      induction n36 with
      | zero => intro H36 locs36 v34 z34 v35 z35 ls hm36 ev34 ev35 iv36_0 iv36_1 iv36_2 iv36_3 iv36_4 iv36_5 iv36_6 iv36_7 iv36_8 hC36 hS36 hKp36 afh hl; exact absurd hm36 (Nat.not_lt_zero _)
      | succ n36 ih36 =>
        intro H36 locs36 v34 z34 v35 z35 ls hm36 ev34 ev35 iv36_0 iv36_1 iv36_2 iv36_3 iv36_4 iv36_5 iv36_6 iv36_7 iv36_8 hC36 hS36 hKp36 afh hl
        have cr := iv36_2
        refine lv_iload_n hx hb dX7_costOver_26 rfl (lv_at hl 0 rfl) ?_
        refine lv_bipush (v := 36) hx hb dX7_costOver_27 rfl ?_
        refine q_icmp_gt hx hb (a := z34) (b := 36) ev34 (by decide) (tgt := 91) dX7_costOver_29 rfl (fun c37 => ?_) (fun c37 => ?_)
        · have hd9 := cr.done (by omega)
          have hb1 : WS (sI H36 h0 (X.1.2 7 4)).toInt (sI H36 h0 (X.1.2 7 5)).toInt (aI H36 hh) (aI H36 wt) := by rw [show (sI H36 h0 (X.1.2 7 4)).toInt = w9 by omega, show (sI H36 h0 (X.1.2 7 5)).toInt = h9 by omega, afh]; exact hd9.1
          have hb2 : ∀ z, FPW (sI H36 h0 (X.1.2 7 4)).toInt (sI H36 h0 (X.1.2 7 5)).toInt (aI H36 hh) (aI H36 wt) z := by rw [show (sI H36 h0 (X.1.2 7 4)).toInt = w9 by omega, show (sI H36 h0 (X.1.2 7 5)).toInt = h9 by omega, afh]; exact hd9.2
          refine lv_aload_n hx hb dX7_costOver_91 rfl (lv_at hl 2 rfl) ?_
          refine q_goV (q_runV (As := []) (rest := []) E hC36 hS36 (m_X7_begin l X Γ H36 hC36 h0 g0 pa hh wt (wn.kp g0 hKp36 rfl) hb1 hb2 (by omega) (by omega)) cw_X7_begin cl_RX7_40 g0 ⟨rfl, rfl⟩ rfl hl.1 rfl (Nat.zero_le _) (by decide) dX7_costOver_92) hS36 (fun H38 locs38 hr38 hC38 hS38 => ?_)
          obtain ⟨hp38, hr38⟩ := hr38
          have hKp38 := hKp36.tr (hp38.mono rfl)
          have m39 : (sI H38 h1 (X.1.2 8 0)).toInt = (sI H36 h1 (X.1.2 8 0)).toInt := congrArg Int32.toInt (kp_I hp38 g1 (ci := 8) (k := 0) rfl (by decide) rfl)
          have m40 : (sI H38 h1 (X.1.2 8 1)).toInt = (sI H36 h1 (X.1.2 8 1)).toInt := congrArg Int32.toInt (kp_I hp38 g1 (ci := 8) (k := 1) rfl (by decide) rfl)
          replace afh : aI H38 hh = ht := (funext fun _ => aI_kp hp38 ghh rfl rfl).trans afh
          have m41 : (sI H38 h0 (X.1.2 7 4)).toInt = (sI H36 h0 (X.1.2 7 4)).toInt := congrArg Int32.toInt (kp_I hp38 g0 (k := 4) rfl (by decide) rfl)
          have m42 : (sI H38 h0 (X.1.2 7 5)).toInt = (sI H36 h0 (X.1.2 7 5)).toInt := congrArg Int32.toInt (kp_I hp38 g0 (k := 5) rfl (by decide) rfl)
          obtain ⟨f38_0, f38_1, f38_2, f38_3, f38_4, f38_5, f38_6⟩ := hr38
          have hwk : WKS X H38 h0 hh wt := by unfold WKS; rw [f38_5, f38_6, f38_3, f38_4]; exact ⟨hb1, hb2, f38_0, f38_1, f38_2⟩
          have htp : ∀ z : Int, 0 ≤ z → z < 36 → aI H38 hh z = aI H0 sn z + aI H0 wl z := fun z z0 z1 => by rw [afh]; exact htt z z0 z1
          refine lv_aload_n hx hb dX7_costOver_95 rfl (lv_at hl 2 rfl) ?_
          refine q_getI E hC38 g0 fa_RX7_25 dX7_costOver_96 (fun v43 ev43 _ _ => ?_)
          have m44 : (sI H38 h0 (X.1.2 7 7)).toInt = v43.toInt := (congrArg Int32.toInt ev43).trans rfl
          have c45 : v43.toInt = v43.toInt := rfl
          exact ret v43 H38 locs38 _ _ dX7_costOver_99 ⟨hKp38, ⟨hwk, by omega, by omega, htp, by omega, fun q => by first | exact absurd q c3 | omega⟩⟩ hC38 hS38
        · refine lv_iload_n hx hb dX7_costOver_32 rfl (lv_at hl 1 rfl) ?_
          refine q_if_eq hx hb (a := z35) ev35 (tgt := 91) dX7_costOver_33 rfl (fun c46 => ?_) (fun c46 => ?_)
          · have hd9 := cr.done (by omega)
            have hb1 : WS (sI H36 h0 (X.1.2 7 4)).toInt (sI H36 h0 (X.1.2 7 5)).toInt (aI H36 hh) (aI H36 wt) := by rw [show (sI H36 h0 (X.1.2 7 4)).toInt = w9 by omega, show (sI H36 h0 (X.1.2 7 5)).toInt = h9 by omega, afh]; exact hd9.1
            have hb2 : ∀ z, FPW (sI H36 h0 (X.1.2 7 4)).toInt (sI H36 h0 (X.1.2 7 5)).toInt (aI H36 hh) (aI H36 wt) z := by rw [show (sI H36 h0 (X.1.2 7 4)).toInt = w9 by omega, show (sI H36 h0 (X.1.2 7 5)).toInt = h9 by omega, afh]; exact hd9.2
            refine lv_aload_n hx hb dX7_costOver_91 rfl (lv_at hl 2 rfl) ?_
            refine q_goV (q_runV (As := []) (rest := []) E hC36 hS36 (m_X7_begin l X Γ H36 hC36 h0 g0 pa hh wt (wn.kp g0 hKp36 rfl) hb1 hb2 (by omega) (by omega)) cw_X7_begin cl_RX7_40 g0 ⟨rfl, rfl⟩ rfl hl.1 rfl (Nat.zero_le _) (by decide) dX7_costOver_92) hS36 (fun H47 locs47 hr47 hC47 hS47 => ?_)
            obtain ⟨hp47, hr47⟩ := hr47
            have hKp47 := hKp36.tr (hp47.mono rfl)
            have m48 : (sI H47 h1 (X.1.2 8 0)).toInt = (sI H36 h1 (X.1.2 8 0)).toInt := congrArg Int32.toInt (kp_I hp47 g1 (ci := 8) (k := 0) rfl (by decide) rfl)
            have m49 : (sI H47 h1 (X.1.2 8 1)).toInt = (sI H36 h1 (X.1.2 8 1)).toInt := congrArg Int32.toInt (kp_I hp47 g1 (ci := 8) (k := 1) rfl (by decide) rfl)
            replace afh : aI H47 hh = ht := (funext fun _ => aI_kp hp47 ghh rfl rfl).trans afh
            have m50 : (sI H47 h0 (X.1.2 7 4)).toInt = (sI H36 h0 (X.1.2 7 4)).toInt := congrArg Int32.toInt (kp_I hp47 g0 (k := 4) rfl (by decide) rfl)
            have m51 : (sI H47 h0 (X.1.2 7 5)).toInt = (sI H36 h0 (X.1.2 7 5)).toInt := congrArg Int32.toInt (kp_I hp47 g0 (k := 5) rfl (by decide) rfl)
            obtain ⟨f47_0, f47_1, f47_2, f47_3, f47_4, f47_5, f47_6⟩ := hr47
            have hwk : WKS X H47 h0 hh wt := by unfold WKS; rw [f47_5, f47_6, f47_3, f47_4]; exact ⟨hb1, hb2, f47_0, f47_1, f47_2⟩
            have htp : ∀ z : Int, 0 ≤ z → z < 36 → aI H47 hh z = aI H0 sn z + aI H0 wl z := fun z z0 z1 => by rw [afh]; exact htt z z0 z1
            refine lv_aload_n hx hb dX7_costOver_95 rfl (lv_at hl 2 rfl) ?_
            refine q_getI E hC47 g0 fa_RX7_25 dX7_costOver_96 (fun v52 ev52 _ _ => ?_)
            have m53 : (sI H47 h0 (X.1.2 7 7)).toInt = v52.toInt := (congrArg Int32.toInt ev52).trans rfl
            have c54 : v52.toInt = v52.toInt := rfl
            exact ret v52 H47 locs47 _ _ dX7_costOver_99 ⟨hKp47, ⟨hwk, by omega, by omega, htp, by omega, fun q => by first | exact absurd q c3 | omega⟩⟩ hC47 hS47
          · refine lv_iconst (v := 0) hx hb dX7_costOver_36 rfl ?_
            refine lv_istore_n hx hb dX7_costOver_37 rfl hl (by decide) rfl (fun ls hl => ?_)
            replace hl : lv_has ls 6 [(2, .int 0), (3, .int v34), (0, .ref h0), (1, .ref h1)] := hl
            refine lv_bipush (v := 35) hx hb dX7_costOver_38 rfl ?_
            refine lv_istore hx hb dX7_costOver_40 hl (by decide) rfl (fun ls hl => ?_)
            replace hl : lv_has ls 6 [(4, .int 35), (2, .int 0), (3, .int v34), (0, .ref h0), (1, .ref h1)] := hl
            have L42 : ∀ (n57 : Nat) (H57 : Heap) (locs57 : List Loc) (v55 : Int32) (z55 : Int) (v56 : Int32) (z56 : Int) (ls : Array Slot), (z55 + 1).toNat < n57 → v55.toInt = z55 → v56.toInt = z56 → -1 ≤ z55 → z55 ≤ 35 → CO w9 h9 ht (aI H57 wt) (z34 : Int).toNat z56 z55 → 0 ≤ z56 → z56 ≤ 1 → (sI H57 h0 (X.1.2 7 4)).toInt = w9 → (sI H57 h0 (X.1.2 7 5)).toInt = h9 → (sI H57 h1 (X.1.2 8 0)).toInt = w9 → (sI H57 h1 (X.1.2 8 1)).toInt = h9 → Conf X Γ H57 → va_S (AΓ Γ) H0 H57 locs57 → Kp X Γ [3, 29, 31, 32, 33, 34, 37, 39, 40, 50, 51, 52, 53, 54, 55, 56, 57, 58, 59, 60, 61, 62, 63, 65, 68, 70, 71, 72] H0 H57 → (aI H57 hh = ht) → lv_has ls 6 [(4, .int v55), (2, .int v56), (3, .int v34), (0, .ref h0), (1, .ref h1)] → W p l e (rmL 3) s m args below meth c H57 locs57 0 0 Qz (F0 m 42 ls []) := by
              intro n57
              induction n57 with
              | zero => intro H57 locs57 v55 z55 v56 z56 ls hm57 ev55 ev56 iv57_0 iv57_1 iv57_2 iv57_3 iv57_4 iv57_5 iv57_6 iv57_7 iv57_8 hC57 hS57 hKp57 afh hl; exact absurd hm57 (Nat.not_lt_zero _)
              | succ n57 ih57 =>
                intro H57 locs57 v55 z55 v56 z56 ls hm57 ev55 ev56 iv57_0 iv57_1 iv57_2 iv57_3 iv57_4 iv57_5 iv57_6 iv57_7 iv57_8 hC57 hS57 hKp57 afh hl
                have co := iv57_2
                refine lv_iload hx hb dX7_costOver_42 (lv_at hl 0 rfl) ?_
                refine q_if_lt hx hb (a := z55) ev55 (tgt := 85) dX7_costOver_44 rfl (fun c58 => ?_) (fun c58 => ?_)
                · have cm1 := co
                  rw [show z55 = (-1 : Int) by omega] at cm1
                  have cr2 := CO.fin cm1
                  have cr3 : (z34 + 1).toNat = (z34 : Int).toNat + 1 := by omega
                  obtain ⟨v59, ev59⟩ : ∃ z, z = v34 + Int32.ofInt 1 := ⟨_, rfl⟩
                  have ev59i : v59.toInt = (z34 + 1) := i_add ev59 ev34 (by decide) (by omega) (by omega)
                  refine lv_iinc hx hb dX7_costOver_85 hl (k := 2) rfl ev59.symm (by decide) rfl (fun ls hl => ?_)
                  replace hl : lv_has ls 6 [(3, .int v59), (4, .int v55), (2, .int v56), (0, .ref h0), (1, .ref h1)] := hl
                  refine lv_goto (tgt := 26) hx hb dX7_costOver_88 rfl ?_
                  exact ih36 H57 locs57 v59 ((z34 + 1)) v56 (z56) ls (ms_lt hm36 (by omega) (by omega)) ev59i ev56 (by omega) (by omega) (by rw [show ((z34 + 1) : Int).toNat = _ from cr3]; exact cr2) (by omega) (by omega) (by omega) (by omega) (by omega) (by omega) hC57 hS57 hKp57 afh (lv_sub hl [0, 2, 3, 4] rfl)
                · refine lv_aload_n hx hb dX7_costOver_47 rfl (lv_at hl 3 rfl) ?_
                  refine lv_aload_n hx hb dX7_costOver_48 rfl (lv_at hl 4 rfl) ?_
                  refine lv_iload hx hb dX7_costOver_49 (lv_at hl 0 rfl) ?_
                  refine q_goIp (q_runV (As := [.ref h1, .int v55]) (rest := []) E hC57 hS57 (m_X7_weightFrom l X Γ H57 hC57 h0 g0 h1 g1 v55 (a2 := z55) ev55 pa hh wt (wn.kp g0 hKp57 rfl) (by omega) (by omega)) cw_X7_weightFrom cl_RX7_36 g0 ⟨rfl, rfl⟩ rfl hl.1 rfl (Nat.zero_le _) (by decide) dX7_costOver_51) hS57 (fun v60 locs60 hr60 hS60 => ?_)
                  obtain ⟨f60_0, f60_1, f60_2, f60_3⟩ := hr60
                  have hwn := f60_0
                  have hww := f60_1
                  have hyw : (sI H57 h1 (X.1.2 8 0)).toInt = w9 := by omega
                  have hyh : (sI H57 h1 (X.1.2 8 1)).toInt = h9 := by omega
                  rw [hyw, hyh, afh] at hww
                  rw [hyw, hyh] at hwn
                  refine lv_istore hx hb dX7_costOver_54 hl (by decide) rfl (fun ls hl => ?_)
                  replace hl : lv_has ls 6 [(5, .int v60), (4, .int v55), (2, .int v56), (3, .int v34), (0, .ref h0), (1, .ref h1)] := hl
                  refine lv_iload hx hb dX7_costOver_56 (lv_at hl 0 rfl) ?_
                  refine lv_aload_n hx hb dX7_costOver_58 rfl (lv_at hl 4 rfl) ?_
                  refine q_getS E hC57 g0 fa_RX7_18 (wn.kp g0 hKp57 rfl).wt.1 dX7_costOver_59 (fun _ => ?_)
                  refine lv_iload hx hb dX7_costOver_62 (lv_at hl 1 rfl) ?_
                  refine q_iald E hC57 gwt rfl rfl (fun _ h => h) (i_in (a := z55) ev55 (by omega) (by omega)) dX7_costOver_64 (fun v61 ev61 lv61 uv61 => ?_)
                  have m62 : aI H57 wt z55 = v61.toInt := aI_of ev55 ev61
                  refine q_icmp_ge hx hb (a := v60.toInt) (b := v61.toInt) rfl rfl (tgt := 79) dX7_costOver_65 rfl (fun c63 => ?_) (fun c63 => ?_)
                  · have co2 : CO w9 h9 ht (aI H57 wt) (z34 : Int).toNat z56 (z55 + -1) := by first | exact co.low (fun q => hwn (by unfold HC at q; omega)) hww (by omega) (by omega) he1 he2 | exact co.skip hww (by omega)
                    obtain ⟨v64, ev64⟩ : ∃ z, z = v55 + Int32.ofInt (-1) := ⟨_, rfl⟩
                    have ev64i : v64.toInt = (z55 + (-1)) := i_add ev64 ev55 (by decide) (by omega) (by omega)
                    refine lv_iinc hx hb dX7_costOver_79 hl (k := 1) rfl ev64.symm (by decide) rfl (fun ls hl => ?_)
                    replace hl : lv_has ls 6 [(4, .int v64), (5, .int v60), (2, .int v56), (3, .int v34), (0, .ref h0), (1, .ref h1)] := hl
                    refine lv_goto (tgt := 42) hx hb dX7_costOver_82 rfl ?_
                    exact ih57 H57 locs60 v64 ((z55 + (-1))) v56 (z56) ls (ms_lt hm57 (by omega) (by omega)) ev64i ev56 (by omega) (by omega) (co2) (by omega) (by omega) (by omega) (by omega) (by omega) (by omega) hC57 hS60 hKp57 afh (lv_sub hl [0, 2, 3, 4, 5] rfl)
                  · refine lv_aload_n hx hb dX7_costOver_68 rfl (lv_at hl 4 rfl) ?_
                    refine q_getS E hC57 g0 fa_RX7_18 (wn.kp g0 hKp57 rfl).wt.1 dX7_costOver_69 (fun _ => ?_)
                    refine lv_iload hx hb dX7_costOver_72 (lv_at hl 1 rfl) ?_
                    refine lv_iload hx hb dX7_costOver_74 (lv_at hl 0 rfl) ?_
                    refine q_iast E hC57 hS60 gwt (by decide) rfl rfl (i_in (a := z55) ev55 (by omega) (by omega)) (tv_I rfl (by omega) (by omega)) dX7_costOver_76 (fun H65 locs65 hC65 hS65 U65 => ?_)
                    have hKp65 := Kp.upA gwt rfl (by decide) rfl U65 hKp57
                    have m66 : aI H65 wt z55 = v60.toInt := aI_up U65 ev55 rfl
                    have m67 : (sI H65 h1 (X.1.2 8 0)).toInt = (sI H57 h1 (X.1.2 8 0)).toInt := congrArg Int32.toInt (up_nI U65 (ne_k g1 gwt (by decide)))
                    have m68 : (sI H65 h1 (X.1.2 8 1)).toInt = (sI H57 h1 (X.1.2 8 1)).toInt := congrArg Int32.toInt (up_nI U65 (ne_k g1 gwt (by decide)))
                    replace afh : aI H65 hh = ht := (funext fun _ => aI_ne U65 (nek gwt ghh (by decide))).trans afh
                    have m69 : (sI H65 h0 (X.1.2 7 4)).toInt = (sI H57 h0 (X.1.2 7 4)).toInt := congrArg Int32.toInt (up_nI U65 (ne_k g0 gwt (by decide)))
                    have m70 : (sI H65 h0 (X.1.2 7 5)).toInt = (sI H57 h0 (X.1.2 7 5)).toInt := congrArg Int32.toInt (up_nI U65 (ne_k g0 gwt (by decide)))
                    have m71 : (sI H65 h0 (X.1.2 7 6)).toInt = (sI H57 h0 (X.1.2 7 6)).toInt := congrArg Int32.toInt (up_nI U65 (ne_k g0 gwt (by decide)))
                    have m72 : (sI H65 h0 (X.1.2 7 7)).toInt = (sI H57 h0 (X.1.2 7 7)).toInt := congrArg Int32.toInt (up_nI U65 (ne_k g0 gwt (by decide)))
                    have he1 := aI_up U65 ev55 rfl
                    have he2 : ∀ z : Int, 0 ≤ z → z ≠ z55 → aI H65 wt z = aI H57 wt z := fun z z0 zn => aI_un U65 ev55 ⟨by omega, z0, fun q => zn q.symm⟩
                    refine lv_iconst (v := 1) hx hb dX7_costOver_77 rfl ?_
                    refine lv_istore_n hx hb dX7_costOver_78 rfl hl (by decide) rfl (fun ls hl => ?_)
                    replace hl : lv_has ls 6 [(2, .int 1), (5, .int v60), (4, .int v55), (3, .int v34), (0, .ref h0), (1, .ref h1)] := hl
                    have co2 : CO w9 h9 ht (aI H65 wt) (z34 : Int).toNat 1 (z55 + -1) := by first | exact co.low (fun q => hwn (by unfold HC at q; omega)) hww (by omega) (by omega) he1 he2 | exact co.skip hww (by omega)
                    obtain ⟨v73, ev73⟩ : ∃ z, z = v55 + Int32.ofInt (-1) := ⟨_, rfl⟩
                    have ev73i : v73.toInt = (z55 + (-1)) := i_add ev73 ev55 (by decide) (by omega) (by omega)
                    refine lv_iinc hx hb dX7_costOver_79 hl (k := 2) rfl ev73.symm (by decide) rfl (fun ls hl => ?_)
                    replace hl : lv_has ls 6 [(4, .int v73), (2, .int 1), (5, .int v60), (3, .int v34), (0, .ref h0), (1, .ref h1)] := hl
                    refine lv_goto (tgt := 42) hx hb dX7_costOver_82 rfl ?_
                    exact ih57 H65 locs65 v73 ((z55 + (-1))) 1 (1) ls (ms_lt hm57 (by omega) (by omega)) ev73i (by decide) (by omega) (by omega) (co2) (by omega) (by omega) (by omega) (by omega) (by omega) (by omega) hC65 hS65 hKp65 afh (lv_sub hl [0, 1, 3, 4, 5] rfl)
            exact L42 _ H36 locs36 35 35 0 0 ls (Nat.lt_succ_self _) (by decide) (by decide) (by omega) (by omega) (CO.start cr) (by omega) (by omega) (by omega) (by omega) (by omega) (by omega) hC36 hS36 hKp36 afh hl
    exact L26 _ H27 locs27 0 0 1 1 ls (Nat.lt_succ_self _) (by decide) (by decide) (by omega) (by omega) (CR.start hfr) (by omega) (by omega) (by omega) (by omega) (by omega) (by omega) hC27 hS27 hKp27 afh hl
  · have htp := c2
    have hwk : WKS X H21 h0 hh wt := by
      have hq := Or.resolve_left r0 (by omega)
      unfold WKS at hq ⊢
      rw [show (sI H21 h0 (X.1.2 7 4)).toInt = (sI H0 h0 (X.1.2 7 4)).toInt by omega, show (sI H21 h0 (X.1.2 7 5)).toInt = (sI H0 h0 (X.1.2 7 5)).toInt by omega, show (sI H21 h0 (X.1.2 7 6)).toInt = (sI H0 h0 (X.1.2 7 6)).toInt by omega, show (sI H21 h0 (X.1.2 7 7)).toInt = (sI H0 h0 (X.1.2 7 7)).toInt by omega, show aI H21 hh = aI H0 hh from funext fun z => c5 z.toNat, show aI H21 wt = aI H0 wt from funext fun z => aI_kp hp21 gwt rfl rfl]
      exact hq
    refine q_if_ne hx hb (a := 0) (by decide) (tgt := 13) dX7_costOver_5 rfl (fun c74 => absurd c74 (by omega)) (fun c74 => ?_)
    refine lv_aload_n hx hb dX7_costOver_8 rfl (lv_at hl 0 rfl) ?_
    refine q_getI E hC21 g0 fa_RX7_25 dX7_costOver_9 (fun v75 ev75 _ _ => ?_)
    have m76 : (sI H21 h0 (X.1.2 7 7)).toInt = v75.toInt := (congrArg Int32.toInt ev75).trans rfl
    have c77 : v75.toInt = v75.toInt := rfl
    exact ret v75 H21 locs21 _ _ dX7_costOver_12 ⟨hKp21, ⟨hwk, by omega, by omega, htp, by omega, fun q => by first | exact absurd q c3 | omega⟩⟩ hC21 hS21
set_option maxRecDepth 100000 in
set_option maxHeartbeats 4000000 in
theorem m_X7_cellBehind (l : Launch) (X : xW) (Γ : Nat → Option Nat) (H0 : Heap) (hC0 : Conf X Γ H0) (h0 : Nat) (g0 : Γ h0 = some 7) (h1 : Nat) (g1 : Γ h1 = some 5) (p2 : Int32) {a2 : Int} (e2 : p2.toInt = a2) (pa hh wt : Nat) (wn : WN X Γ H0 h0 pa hh wt) (r0 : 0 ≤ a2) (r1 : a2 ≤ 35) (r2 : HC (sI H0 h1 (X.1.2 8 0)).toInt (sI H0 h1 (X.1.2 8 1)).toInt a2) : Ctr l X Γ yX7_cellBehind cX7_cellBehind 6 (some .int) 2 [.ref h0, .ref h1, .int p2] H0 (QI X Γ (fun v H1 => H1 = H0 ∧ ((CBR (sI H0 h1 (X.1.2 8 0)).toInt (sI H0 h1 (X.1.2 8 1)).toInt (aI H0 hh) (aI H0 wt) a2 v.toInt) ∧ (-1 ≤ v.toInt) ∧ (v.toInt ≤ 35)))) := by
  refine q_enterI (own := "SnowForts$Walk") (by decide) rfl (Nat.le_of_ble_eq_true rfl) ?_
  intro p e s m args below meth c ls Qz E hl ret hS0
  have hx := E.1; have hb := E.2.1
  have hl : lv_has ls 6 [(0, .ref h0), (1, .ref h1), (2, .int p2)] := hl
  have gpa := wn.pa.2; have ghh := wn.hh.2; have gwt := wn.wt.2
  have hw6 := f_bd hC0 g1 (ci := 8) (k := 0) rfl rfl
  have hh6 := f_bd hC0 g1 (ci := 8) (k := 1) rfl rfl
  have hcc := r2
  refine lv_aload_n hx hb dX7_cellBehind_0 rfl (lv_at hl 0 rfl) ?_
  refine q_getS E hC0 g0 fa_RX7_18 wn.wt.1 dX7_cellBehind_1 (fun _ => ?_)
  refine lv_iload_n hx hb dX7_cellBehind_4 rfl (lv_at hl 2 rfl) ?_
  refine q_iald E hC0 gwt rfl rfl (fun _ h => h) (i_in (a := a2) e2 (by omega) (by omega)) dX7_cellBehind_5 (fun v21 ev21 lv21 uv21 => ?_)
  have m22 : aI H0 wt a2 = v21.toInt := aI_of e2 ev21
  have hw9 : aI H0 wt a2 = v21.toInt := aI_of e2 ev21
  refine lv_bipush (v := 64) hx hb dX7_cellBehind_6 rfl ?_
  refine lv_irem hx hb dX7_cellBehind_8 (by decide) (lv_topi (fun v23 ev23 => ?_))
  have ev23i : v23.toInt = (v21.toInt % 64) := i_rem ev23 rfl (by decide) (by omega) (by decide)
  refine lv_iconst (v := 1) hx hb dX7_cellBehind_9 rfl ?_
  refine q_icmp_ne hx hb (a := (v21.toInt % 64)) (b := 1) ev23i (by decide) (tgt := 15) dX7_cellBehind_10 rfl (fun c24 => ?_) (fun c24 => ?_)
  · refine lv_iconst (v := 0) hx hb dX7_cellBehind_15 rfl ?_
    refine lv_istore_n hx hb dX7_cellBehind_16 rfl hl (by decide) rfl (fun ls hl => ?_)
    replace hl : lv_has ls 6 [(3, .int 0), (0, .ref h0), (1, .ref h1), (2, .int p2)] := hl
    have L17 : ∀ (n26 : Nat) (locs26 : List Loc) (v25 : Int32) (z25 : Int) (ls : Array Slot), (4 - z25).toNat < n26 → v25.toInt = z25 → z25 ≤ 4 → 0 ≤ z25 → CBI (sI H0 h1 (X.1.2 8 0)).toInt (sI H0 h1 (X.1.2 8 1)).toInt (aI H0 hh) (aI H0 wt) a2 z25 → va_S (AΓ Γ) H0 H0 locs26 → lv_has ls 6 [(3, .int v25), (0, .ref h0), (1, .ref h1), (2, .int p2)] → W p l e (rmL 2) s m args below meth c H0 locs26 0 0 Qz (F0 m 17 ls []) := by
      intro n26
      induction n26 with
      | zero => intro locs26 v25 z25 ls hm26 ev25 iv26_0 iv26_1 iv26_2 hS26 hl; exact absurd hm26 (Nat.not_lt_zero _)
      | succ n26 ih26 =>
        intro locs26 v25 z25 ls hm26 ev25 iv26_0 iv26_1 iv26_2 hS26 hl
        have cb := iv26_2
        refine lv_iload_n hx hb dX7_cellBehind_17 rfl (lv_at hl 0 rfl) ?_
        refine lv_iconst (v := 4) hx hb dX7_cellBehind_18 rfl ?_
        refine q_icmp_ge hx hb (a := z25) (b := 4) ev25 (by decide) (tgt := 98) dX7_cellBehind_19 rfl (fun c27 => ?_) (fun c27 => ?_)
        · refine lv_iconst (v := (-1)) hx hb dX7_cellBehind_98 rfl ?_
          have hcb : CBR (sI H0 h1 (X.1.2 8 0)).toInt (sI H0 h1 (X.1.2 8 1)).toInt (aI H0 hh) (aI H0 wt) a2 ((-1) : Int32).toInt := cb.fin (by omega) (by decide)
          have c28 : ((-1) : Int32).toInt = (-1) := (by decide)
          exact ret (-1) H0 locs26 _ _ dX7_cellBehind_99 ⟨rfl, ⟨hcb, by omega, by omega⟩⟩ hC0 hS26
        · refine lv_iload_n hx hb dX7_cellBehind_22 rfl (lv_at hl 3 rfl) ?_
          refine q_stRIGHT E hS26 w_666 dX7_cellBehind_23 (fun q29 tq29 => ?_)
          refine lv_iload_n hx hb dX7_cellBehind_26 rfl (lv_at hl 0 rfl) ?_
          refine q_ldRIGHT E hS26 tq29 (a := z25) ev25 (by omega) (by omega) dX7_cellBehind_27 (fun v30 lv30 uv30 rv30 => ?_)
          refine lv_iadd hx hb dX7_cellBehind_28 (lv_topi (fun v31 ev31 => ?_))
          have ev31i : v31.toInt = (a2 + v30.toInt) := i_add ev31 e2 rfl (by omega) (by omega)
          refine q_stDOWN E hS26 w_668 dX7_cellBehind_29 (fun q32 tq32 => ?_)
          refine lv_iload_n hx hb dX7_cellBehind_32 rfl (lv_at hl 0 rfl) ?_
          refine q_ldDOWN E hS26 tq32 (a := z25) ev25 (by omega) (by omega) dX7_cellBehind_33 (fun v33 lv33 uv33 rv33 => ?_)
          refine lv_bipush (v := 6) hx hb dX7_cellBehind_34 rfl ?_
          refine lv_imul hx hb dX7_cellBehind_36 (lv_topi (fun v34 ev34 => ?_))
          have ev34i : v34.toInt = (v33.toInt * 6) := i_mul ev34 rfl (by decide) (by omega) (by omega)
          refine lv_iadd hx hb dX7_cellBehind_37 (lv_topi (fun v35 ev35 => ?_))
          have ev35i : v35.toInt = ((a2 + v30.toInt) + (v33.toInt * 6)) := i_add ev35 ev31i ev34i (by omega) (by omega)
          refine lv_istore hx hb dX7_cellBehind_38 hl (by decide) rfl (fun ls hl => ?_)
          replace hl : lv_has ls 6 [(4, .int v35), (3, .int v25), (0, .ref h0), (1, .ref h1), (2, .int p2)] := hl
          refine lv_aload_n hx hb dX7_cellBehind_40 rfl (lv_at hl 3 rfl) ?_
          refine lv_iload_n hx hb dX7_cellBehind_41 rfl (lv_at hl 4 rfl) ?_
          refine lv_bipush (v := 6) hx hb dX7_cellBehind_42 rfl ?_
          refine lv_irem hx hb dX7_cellBehind_44 (by decide) (lv_topi (fun v36 ev36 => ?_))
          have ev36i : v36.toInt = (a2 % 6) := i_rem ev36 e2 (by decide) (by omega) (by decide)
          refine q_stRIGHT E hS26 w_666 dX7_cellBehind_45 (fun q37 tq37 => ?_)
          refine lv_iload_n hx hb dX7_cellBehind_48 rfl (lv_at hl 1 rfl) ?_
          refine q_ldRIGHT E hS26 tq37 (a := z25) ev25 (by omega) (by omega) dX7_cellBehind_49 (fun v38 lv38 uv38 rv38 => ?_)
          refine lv_iadd hx hb dX7_cellBehind_50 (lv_topi (fun v39 ev39 => ?_))
          have ev39i : v39.toInt = ((a2 % 6) + v38.toInt) := i_add ev39 ev36i rfl (by omega) (by omega)
          refine lv_iload_n hx hb dX7_cellBehind_51 rfl (lv_at hl 4 rfl) ?_
          refine lv_bipush (v := 6) hx hb dX7_cellBehind_52 rfl ?_
          refine lv_idiv hx hb dX7_cellBehind_54 (by decide) (lv_topi (fun v40 ev40 => ?_))
          have ev40i : v40.toInt = (a2 / 6) := i_div ev40 e2 (by decide) (by omega) (by decide)
          refine q_stDOWN E hS26 w_668 dX7_cellBehind_55 (fun q41 tq41 => ?_)
          refine lv_iload_n hx hb dX7_cellBehind_58 rfl (lv_at hl 1 rfl) ?_
          refine q_ldDOWN E hS26 tq41 (a := z25) ev25 (by omega) (by omega) dX7_cellBehind_59 (fun v42 lv42 uv42 rv42 => ?_)
          refine lv_iadd hx hb dX7_cellBehind_60 (lv_topi (fun v43 ev43 => ?_))
          have ev43i : v43.toInt = ((a2 / 6) + v42.toInt) := i_add ev43 ev40i rfl (by omega) (by omega)
          refine q_goIp (q_runV (As := [.int v39, .int v43]) (rest := []) E hC0 hS26 (m_X9_isCell l X Γ H0 hC0 h1 g1 v39 (a1 := ((a2 % 6) + v38.toInt)) ev39i v43 (a2 := ((a2 / 6) + v42.toInt)) ev43i) cw_X9_isCell cl_RX7_64 g1 ⟨rfl, rfl⟩ rfl hl.1 rfl (Nat.zero_le _) (by decide) dX7_cellBehind_61) hS26 (fun v44 locs44 hr44 hS44 => ?_)
          rcases hr44 with ⟨rfl, f44a0, f44a1, f44a2, f44a3, f44a4, f44a5⟩ | ⟨rfl, f44b⟩
          · have hok9 : 0 ≤ a2 % 6 + rR z25 ∧ a2 % 6 + rR z25 < (sI H0 h1 (X.1.2 8 0)).toInt ∧ 0 ≤ a2 / 6 + rD z25 ∧ a2 / 6 + rD z25 < (sI H0 h1 (X.1.2 8 1)).toInt := ⟨by omega, by omega, by omega, by omega⟩
            have hnb := nb_ok (d := ((a2 + v30.toInt) + (v33.toInt * 6))) hcc (by omega) (by omega) hok9 ⟨by omega, by omega⟩ (by omega)
            refine lv_istore hx hb dX7_cellBehind_64 hl (by decide) rfl (fun ls hl => ?_)
            replace hl : lv_has ls 6 [(5, .int 1), (4, .int v35), (3, .int v25), (0, .ref h0), (1, .ref h1), (2, .int p2)] := hl
            refine lv_iload hx hb dX7_cellBehind_66 (lv_at hl 0 rfl) ?_
            refine q_if_eq hx hb (a := 1) (by decide) (tgt := 92) dX7_cellBehind_68 rfl (fun c45 => absurd c45 (by omega)) (fun c45 => ?_)
            refine lv_aload_n hx hb dX7_cellBehind_71 rfl (lv_at hl 3 rfl) ?_
            refine lv_iload_n hx hb dX7_cellBehind_72 rfl (lv_at hl 5 rfl) ?_
            refine lv_iload hx hb dX7_cellBehind_73 (lv_at hl 1 rfl) ?_
            refine q_goIp (q_runV (As := [.int p2, .int v35]) (rest := []) E hC0 hS44 (m_X7_weightBy l X Γ H0 hC0 h0 g0 p2 (a1 := a2) e2 v35 (a2 := ((a2 + v30.toInt) + (v33.toInt * 6))) ev35i pa hh wt wn (by omega) (by omega)) cw_X7_weightBy cl_RX7_74 g0 ⟨rfl, rfl⟩ rfl hl.1 rfl (Nat.zero_le _) (by decide) dX7_cellBehind_75) hS44 (fun v46 locs46 hr46 hS46 => ?_)
            obtain ⟨f46_0, f46_1, f46_2⟩ := hr46
            have hwb := (Or.resolve_left f46_0 (fun q => by omega)).2.2
            refine lv_iconst (v := 1) hx hb dX7_cellBehind_78 rfl ?_
            refine lv_iadd hx hb dX7_cellBehind_79 (lv_topi (fun v47 ev47 => ?_))
            have ev47i : v47.toInt = (v46.toInt + 1) := i_add ev47 rfl (by decide) (by omega) (by omega)
            refine lv_aload_n hx hb dX7_cellBehind_80 rfl (lv_at hl 3 rfl) ?_
            refine q_getS E hC0 g0 fa_RX7_18 wn.wt.1 dX7_cellBehind_81 (fun _ => ?_)
            refine lv_iload_n hx hb dX7_cellBehind_84 rfl (lv_at hl 5 rfl) ?_
            refine q_iald E hC0 gwt rfl rfl (fun _ h => h) (i_in (a := a2) e2 (by omega) (by omega)) dX7_cellBehind_85 (fun v48 ev48 lv48 uv48 => ?_)
            have m49 : aI H0 wt a2 = v48.toInt := aI_of e2 ev48
            have hw8 : aI H0 wt a2 = v48.toInt := aI_of e2 ev48
            refine q_icmp_ne hx hb (a := (v46.toInt + 1)) (b := v48.toInt) ev47i rfl (tgt := 92) dX7_cellBehind_86 rfl (fun c50 => ?_) (fun c50 => ?_)
            · have cb2 : CBI (sI H0 h1 (X.1.2 8 0)).toInt (sI H0 h1 (X.1.2 8 1)).toInt (aI H0 hh) (aI H0 wt) a2 (z25 + 1) := by first | exact cb.no hcc hno9 | exact cb.ne (d := ((a2 + v30.toInt) + (v33.toInt * 6))) hcc (by omega) (by omega)
              obtain ⟨v51, ev51⟩ : ∃ z, z = v25 + Int32.ofInt 1 := ⟨_, rfl⟩
              have ev51i : v51.toInt = (z25 + 1) := i_add ev51 ev25 (by decide) (by omega) (by omega)
              refine lv_iinc hx hb dX7_cellBehind_92 hl (k := 2) rfl ev51.symm (by decide) rfl (fun ls hl => ?_)
              replace hl : lv_has ls 6 [(3, .int v51), (5, .int 1), (4, .int v35), (0, .ref h0), (1, .ref h1), (2, .int p2)] := hl
              refine lv_goto (tgt := 17) hx hb dX7_cellBehind_95 rfl ?_
              exact ih26 locs46 v51 ((z25 + 1)) ls (ms_lt hm26 (by omega) (by omega)) ev51i (by omega) (by omega) (cb2) hS46 (lv_sub hl [0, 3, 4, 5] rfl)
            · refine lv_iload hx hb dX7_cellBehind_89 (lv_at hl 1 rfl) ?_
              have hcb : CBR (sI H0 h1 (X.1.2 8 0)).toInt (sI H0 h1 (X.1.2 8 1)).toInt (aI H0 hh) (aI H0 wt) a2 (v35 : Int32).toInt := by rw [show (v35 : Int32).toInt = _ from ev35i]; exact Or.inr ⟨hnb.1, hnb.2, by omega, by omega⟩
              have c52 : v35.toInt = ((a2 + v30.toInt) + (v33.toInt * 6)) := ev35i
              exact ret v35 H0 locs46 _ _ dX7_cellBehind_91 ⟨rfl, ⟨hcb, by omega, by omega⟩⟩ hC0 hS46
          · have hno9 : ¬ (0 ≤ a2 % 6 + rR z25 ∧ a2 % 6 + rR z25 < (sI H0 h1 (X.1.2 8 0)).toInt ∧ 0 ≤ a2 / 6 + rD z25 ∧ a2 / 6 + rD z25 < (sI H0 h1 (X.1.2 8 1)).toInt) := by omega
            refine lv_istore hx hb dX7_cellBehind_64 hl (by decide) rfl (fun ls hl => ?_)
            replace hl : lv_has ls 6 [(5, .int 0), (4, .int v35), (3, .int v25), (0, .ref h0), (1, .ref h1), (2, .int p2)] := hl
            refine lv_iload hx hb dX7_cellBehind_66 (lv_at hl 0 rfl) ?_
            refine q_if_eq hx hb (a := 0) (by decide) (tgt := 92) dX7_cellBehind_68 rfl (fun c53 => ?_) (fun c53 => absurd c53 (by omega))
            have cb2 : CBI (sI H0 h1 (X.1.2 8 0)).toInt (sI H0 h1 (X.1.2 8 1)).toInt (aI H0 hh) (aI H0 wt) a2 (z25 + 1) := by first | exact cb.no hcc hno9 | exact cb.ne (d := ((a2 + v30.toInt) + (v33.toInt * 6))) hcc (by omega) (by omega)
            obtain ⟨v54, ev54⟩ : ∃ z, z = v25 + Int32.ofInt 1 := ⟨_, rfl⟩
            have ev54i : v54.toInt = (z25 + 1) := i_add ev54 ev25 (by decide) (by omega) (by omega)
            refine lv_iinc hx hb dX7_cellBehind_92 hl (k := 2) rfl ev54.symm (by decide) rfl (fun ls hl => ?_)
            replace hl : lv_has ls 6 [(3, .int v54), (5, .int 0), (4, .int v35), (0, .ref h0), (1, .ref h1), (2, .int p2)] := hl
            refine lv_goto (tgt := 17) hx hb dX7_cellBehind_95 rfl ?_
            exact ih26 locs44 v54 ((z25 + 1)) ls (ms_lt hm26 (by omega) (by omega)) ev54i (by omega) (by omega) (cb2) hS44 (lv_sub hl [0, 3, 4, 5] rfl)
    exact L17 _ [] 0 0 ls (Nat.lt_succ_self _) (by decide) (by omega) (by omega) (CBI.nil) hS0 hl
  · refine lv_iconst (v := (-1)) hx hb dX7_cellBehind_13 rfl ?_
    have hcb : CBR (sI H0 h1 (X.1.2 8 0)).toInt (sI H0 h1 (X.1.2 8 1)).toInt (aI H0 hh) (aI H0 wt) a2 ((-1) : Int32).toInt := Or.inl ⟨by decide, Or.inl (by omega)⟩
    have c55 : ((-1) : Int32).toInt = (-1) := (by decide)
    exact ret (-1) H0 [] _ _ dX7_cellBehind_14 ⟨rfl, ⟨hcb, by omega, by omega⟩⟩ hC0 hS0
set_option maxRecDepth 100000 in
set_option maxHeartbeats 8000000 in
theorem m_X7_trace (l : Launch) (X : xW) (Γ : Nat → Option Nat) (H0 : Heap) (hC0 : Conf X Γ H0) (h0 : Nat) (g0 : Γ h0 = some 7) (h1 : Nat) (g1 : Γ h1 = some 5) (pa hh wt : Nat) (wn : WN X Γ H0 h0 pa hh wt) (r0 : WKS X H0 h0 hh wt) (r1 : (sI H0 h0 (X.1.2 7 4)).toInt = (sI H0 h1 (X.1.2 8 0)).toInt) (r2 : (sI H0 h0 (X.1.2 7 5)).toInt = (sI H0 h1 (X.1.2 8 1)).toInt) : Ctr l X Γ yX7_trace cX7_trace 4 none 3 [.ref h0, .ref h1] H0 (QV X Γ (fun H1 => Kp X Γ [3, 29, 31, 32, 33, 34, 37, 39, 40, 50, 51, 52, 53, 54, 55, 56, 57, 58, 59, 60, 61, 62, 63, 65, 67, 69, 70, 71, 72] H0 H1 ∧ ((PTH (sI H0 h0 (X.1.2 7 4)).toInt (sI H0 h0 (X.1.2 7 5)).toInt (aI H0 hh) (aI H1 pa) (sI H1 h0 (X.1.2 7 1)).toInt (sI H0 h0 (X.1.2 7 7)).toInt)))) := by
  refine q_enterV (own := "SnowForts$Walk") (by decide) rfl (Nat.le_of_ble_eq_true rfl) ?_
  intro p e s m args below meth c ls Qz E hl ret hS0
  have hx := E.1; have hb := E.2.1
  have hKp0 : Kp X Γ [3, 29, 31, 32, 33, 34, 37, 39, 40, 50, 51, 52, 53, 54, 55, 56, 57, 58, 59, 60, 61, 62, 63, 65, 67, 69, 70, 71, 72] H0 H0 := Kp.rf
  have hl : lv_has ls 4 [(0, .ref h0), (1, .ref h1)] := hl
  have gpa := wn.pa.2; have ghh := wn.hh.2; have gwt := wn.wt.2
  have r9 := r0
  unfold WKS at r9
  rw [r1, r2] at r9
  have hw6 := f_bd hC0 g1 (ci := 8) (k := 0) rfl rfl
  have hh6 := f_bd hC0 g1 (ci := 8) (k := 1) rfl rfl
  obtain ⟨w9, hw9⟩ : ∃ z, (sI H0 h1 (X.1.2 8 0)).toInt = z := ⟨_, rfl⟩
  obtain ⟨h9, hh9⟩ : ∃ z, (sI H0 h1 (X.1.2 8 1)).toInt = z := ⟨_, rfl⟩
  obtain ⟨b9, hb9⟩ : ∃ z, (sI H0 h0 (X.1.2 7 6)).toInt = z := ⟨_, rfl⟩
  rw [hw9, hh9, hb9] at r9
  rw [hw9] at hw6
  rw [hh9] at hh6
  obtain ⟨ws9, fp9, hc9, hm9, hct9⟩ := r9
  have hhb : ∀ z : Int, 0 ≤ z → z < 36 → 0 ≤ aI H0 hh z ∧ aI H0 hh z ≤ 198 := fun z z0 z1 => el_bd hC0 ghh rfl rfl (fun _ => rfl) z0 z1
  have hwi := CR.wit ws9 fp9 hhb hw6.2
  have afh : aI H0 hh = aI H0 hh := rfl
  have afw : aI H0 wt = aI H0 wt := rfl
  refine lv_aload_n hx hb dX7_trace_0 rfl (lv_at hl 0 rfl) ?_
  refine lv_iconst (v := 0) hx hb dX7_trace_1 rfl ?_
  refine q_put E hC0 hS0 g0 fp_RX7_82 (tv_I (show (0 : Int32).toInt = 0 from by decide) (by omega) (by omega)) rfl rfl dX7_trace_2 (fun H21 locs21 hC21 hS21 U21 => ?_)
  have hKp21 := Kp.upO E g0 fp_RX7_82 rfl U21 hKp0
  have e22 := up_I U21
  have m23 : (sI H21 h0 (X.1.2 7 1)).toInt = 0 := (congrArg Int32.toInt e22).trans (show (0 : Int32).toInt = 0 from by decide)
  have m24 : (sI H21 h1 (X.1.2 8 0)).toInt = (sI H0 h1 (X.1.2 8 0)).toInt := congrArg Int32.toInt (up_nI U21 (ne_k g1 g0 (by decide)))
  have m25 : (sI H21 h1 (X.1.2 8 1)).toInt = (sI H0 h1 (X.1.2 8 1)).toInt := congrArg Int32.toInt (up_nI U21 (ne_k g1 g0 (by decide)))
  replace afh : aI H21 hh = aI H0 hh := (funext fun _ => aI_ne U21 (nek g0 ghh (by decide))).trans afh
  replace afw : aI H21 wt = aI H0 wt := (funext fun _ => aI_ne U21 (nek g0 gwt (by decide))).trans afw
  have m26 : (sI H21 h0 (X.1.2 7 4)).toInt = (sI H0 h0 (X.1.2 7 4)).toInt := congrArg Int32.toInt (up_nI U21 (ne_f E 7 4 1 rfl (by decide) (by decide) (by decide)))
  have m27 : (sI H21 h0 (X.1.2 7 5)).toInt = (sI H0 h0 (X.1.2 7 5)).toInt := congrArg Int32.toInt (up_nI U21 (ne_f E 7 5 1 rfl (by decide) (by decide) (by decide)))
  have m28 : (sI H21 h0 (X.1.2 7 6)).toInt = (sI H0 h0 (X.1.2 7 6)).toInt := congrArg Int32.toInt (up_nI U21 (ne_f E 7 6 1 rfl (by decide) (by decide) (by decide)))
  have m29 : (sI H21 h0 (X.1.2 7 7)).toInt = (sI H0 h0 (X.1.2 7 7)).toInt := congrArg Int32.toInt (up_nI U21 (ne_f E 7 7 1 rfl (by decide) (by decide) (by decide)))
  refine lv_aload_n hx hb dX7_trace_5 rfl (lv_at hl 0 rfl) ?_
  refine q_getI E hC21 g0 fa_RX7_61 dX7_trace_6 (fun v30 ev30 lv30 uv30 => ?_)
  have m31 : (sI H21 h0 (X.1.2 7 6)).toInt = v30.toInt := (congrArg Int32.toInt ev30).trans rfl
  refine lv_istore_n hx hb dX7_trace_9 rfl hl (by decide) rfl (fun ls hl => ?_)
  replace hl : lv_has ls 4 [(2, .int v30), (0, .ref h0), (1, .ref h1)] := hl
  refine lv_iconst (v := 0) hx hb dX7_trace_10 rfl ?_
  refine lv_istore_n hx hb dX7_trace_11 rfl hl (by decide) rfl (fun ls hl => ?_)
  replace hl : lv_has ls 4 [(3, .int 0), (2, .int v30), (0, .ref h0), (1, .ref h1)] := hl
  have L12 : ∀ (n34 : Nat) (H34 : Heap) (locs34 : List Loc) (v32 : Int32) (z32 : Int) (v33 : Int32) (z33 : Int) (ls : Array Slot), (36 - z32).toNat < n34 → v32.toInt = z32 → v33.toInt = z33 → z32 ≤ 36 → 0 ≤ z32 → TRC w9 h9 (aI H0 hh) (aI H0 wt) (aI H34 pa) b9 z33 z32 → -1 ≤ z33 → z33 ≤ 35 → (sI H34 h0 (X.1.2 7 1)).toInt = z32 → (sI H34 h1 (X.1.2 8 0)).toInt = w9 → (sI H34 h1 (X.1.2 8 1)).toInt = h9 → Conf X Γ H34 → va_S (AΓ Γ) H0 H34 locs34 → Kp X Γ [3, 29, 31, 32, 33, 34, 37, 39, 40, 50, 51, 52, 53, 54, 55, 56, 57, 58, 59, 60, 61, 62, 63, 65, 67, 69, 70, 71, 72] H0 H34 → (aI H34 hh = aI H0 hh) → (aI H34 wt = aI H0 wt) → lv_has ls 4 [(3, .int v32), (2, .int v33), (0, .ref h0), (1, .ref h1)] → W p l e (rmL 3) s m args below meth c H34 locs34 0 0 Qz (F0 m 12 ls []) := by
    intro n34
    induction n34 with
    | zero => intro H34 locs34 v32 z32 v33 z33 ls hm34 ev32 ev33 iv34_0 iv34_1 iv34_2 iv34_3 iv34_4 iv34_5 iv34_6 iv34_7 hC34 hS34 hKp34 afh afw hl; exact absurd hm34 (Nat.not_lt_zero _)
    | succ n34 ih34 =>
      intro H34 locs34 v32 z32 v33 z33 ls hm34 ev32 ev33 iv34_0 iv34_1 iv34_2 iv34_3 iv34_4 iv34_5 iv34_6 iv34_7 hC34 hS34 hKp34 afh afw hl
      have tr := iv34_2
      refine lv_iload_n hx hb dX7_trace_12 rfl (lv_at hl 0 rfl) ?_
      refine lv_bipush (v := 36) hx hb dX7_trace_13 rfl ?_
      refine q_icmp_ge hx hb (a := z32) (b := 36) ev32 (by decide) (tgt := 59) dX7_trace_15 rfl (fun c35 => ?_) (fun c35 => ?_)
      · have hpt := tr.fin hwi hc9 (by omega) hct9
        have hpf : PTH (sI H0 h0 (X.1.2 7 4)).toInt (sI H0 h0 (X.1.2 7 5)).toInt (aI H0 hh) (aI H34 pa) (sI H34 h0 (X.1.2 7 1)).toInt (sI H0 h0 (X.1.2 7 7)).toInt := by rw [show (sI H34 h0 (X.1.2 7 1)).toInt = z32 by omega, show (sI H0 h0 (X.1.2 7 4)).toInt = w9 by omega, show (sI H0 h0 (X.1.2 7 5)).toInt = h9 by omega]; exact hpt
        exact ret H34 locs34 _ _ dX7_trace_59 ⟨hKp34, hpf⟩ hC34 hS34
      · refine lv_iload_n hx hb dX7_trace_18 rfl (lv_at hl 1 rfl) ?_
        refine lv_i2l (v := v33.toInt64) hx hb dX7_trace_19 rfl (lv_topl (fun v36 ev36 => ?_))
        have ev36i : v36.toInt = z33 := l_ofi ev36.symm ev33
        refine lv_iconst (v := 0) hx hb dX7_trace_20 rfl ?_
        refine lv_bipush (v := 35) hx hb dX7_trace_21 rfl ?_
        refine q_goIp (q_runSN (As := [.long v36, .int 0, .int 35]) (rest := []) E hS34 (m_X11_isWithin l X Γ H34 hC34 v36 (a0 := z33) ev36i 0 (a1 := 0) (by decide) 35 (a2 := 35) (by decide)) cw_X11_isWithin cl_RX7_85 rfl hl.1 rfl (Nat.zero_le _) (by decide) dX7_trace_23) hS34 (fun v37 locs37 hr37 hS37 => ?_)
        rcases hr37 with ⟨rfl, f37a0, f37a1⟩ | ⟨rfl, f37b⟩
        · refine q_if_eq hx hb (a := 1) (by decide) (tgt := 59) dX7_trace_26 rfl (fun c38 => absurd c38 (by omega)) (fun c38 => ?_)
          refine lv_aload_n hx hb dX7_trace_29 rfl (lv_at hl 2 rfl) ?_
          refine q_getS E hC34 g0 fa_RX7_9 (wn.kp g0 hKp34 rfl).pa.1 dX7_trace_30 (fun _ => ?_)
          refine lv_iload_n hx hb dX7_trace_33 rfl (lv_at hl 0 rfl) ?_
          refine lv_iload_n hx hb dX7_trace_34 rfl (lv_at hl 1 rfl) ?_
          refine q_iast E hC34 hS37 gpa (by decide) rfl rfl (i_in (a := z32) ev32 (by omega) (by omega)) (tv_I ev33 (by omega) (by omega)) dX7_trace_35 (fun H39 locs39 hC39 hS39 U39 => ?_)
          have hKp39 := Kp.upA gpa rfl (by decide) rfl U39 hKp34
          have m40 : aI H39 pa z32 = z33 := aI_up U39 ev32 ev33
          have m41 : (sI H39 h1 (X.1.2 8 0)).toInt = (sI H34 h1 (X.1.2 8 0)).toInt := congrArg Int32.toInt (up_nI U39 (ne_k g1 gpa (by decide)))
          have m42 : (sI H39 h1 (X.1.2 8 1)).toInt = (sI H34 h1 (X.1.2 8 1)).toInt := congrArg Int32.toInt (up_nI U39 (ne_k g1 gpa (by decide)))
          replace afh : aI H39 hh = aI H0 hh := (funext fun _ => aI_ne U39 (nek gpa ghh (by decide))).trans afh
          replace afw : aI H39 wt = aI H0 wt := (funext fun _ => aI_ne U39 (nek gpa gwt (by decide))).trans afw
          have m43 : (sI H39 h0 (X.1.2 7 4)).toInt = (sI H34 h0 (X.1.2 7 4)).toInt := congrArg Int32.toInt (up_nI U39 (ne_k g0 gpa (by decide)))
          have m44 : (sI H39 h0 (X.1.2 7 5)).toInt = (sI H34 h0 (X.1.2 7 5)).toInt := congrArg Int32.toInt (up_nI U39 (ne_k g0 gpa (by decide)))
          have m45 : (sI H39 h0 (X.1.2 7 6)).toInt = (sI H34 h0 (X.1.2 7 6)).toInt := congrArg Int32.toInt (up_nI U39 (ne_k g0 gpa (by decide)))
          have m46 : (sI H39 h0 (X.1.2 7 7)).toInt = (sI H34 h0 (X.1.2 7 7)).toInt := congrArg Int32.toInt (up_nI U39 (ne_k g0 gpa (by decide)))
          have m47 : (sI H39 h0 (X.1.2 7 1)).toInt = (sI H34 h0 (X.1.2 7 1)).toInt := congrArg Int32.toInt (up_nI U39 (ne_k g0 gpa (by decide)))
          have he1 := aI_up U39 ev32 ev33
          have he2 : ∀ j : Int, 0 ≤ j → j ≠ z32 → aI H39 pa j = aI H34 pa j := fun j j0 jn => aI_un U39 ev32 ⟨by omega, j0, fun q => jn q.symm⟩
          obtain ⟨p9, hp9⟩ : ∃ f, aI H39 pa = f := ⟨_, rfl⟩
          rw [hp9] at he1
          simp only [hp9] at he2
          have afp : aI H39 pa = p9 := hp9
          refine lv_aload_n hx hb dX7_trace_36 rfl (lv_at hl 2 rfl) ?_
          refine lv_dup hx hb dX7_trace_37 rfl ?_
          refine q_getI E hC39 g0 fa_RX7_82 dX7_trace_38 (fun v48 ev48 lv48 uv48 => ?_)
          have m49 : (sI H39 h0 (X.1.2 7 1)).toInt = v48.toInt := (congrArg Int32.toInt ev48).trans rfl
          refine lv_iconst (v := 1) hx hb dX7_trace_41 rfl ?_
          refine lv_iadd hx hb dX7_trace_42 (lv_topi (fun v50 ev50 => ?_))
          have ev50i : v50.toInt = (v48.toInt + 1) := i_add ev50 rfl (by decide) (by omega) (by omega)
          refine q_put E hC39 hS39 g0 fp_RX7_82 (tv_I ev50i (by omega) (by omega)) rfl rfl dX7_trace_43 (fun H51 locs51 hC51 hS51 U51 => ?_)
          have hKp51 := Kp.upO E g0 fp_RX7_82 rfl U51 hKp39
          have e52 := up_I U51
          have m53 : (sI H51 h0 (X.1.2 7 1)).toInt = (v48.toInt + 1) := (congrArg Int32.toInt e52).trans ev50i
          have m54 : (sI H51 h1 (X.1.2 8 0)).toInt = (sI H39 h1 (X.1.2 8 0)).toInt := congrArg Int32.toInt (up_nI U51 (ne_k g1 g0 (by decide)))
          have m55 : (sI H51 h1 (X.1.2 8 1)).toInt = (sI H39 h1 (X.1.2 8 1)).toInt := congrArg Int32.toInt (up_nI U51 (ne_k g1 g0 (by decide)))
          replace afh : aI H51 hh = aI H0 hh := (funext fun _ => aI_ne U51 (nek g0 ghh (by decide))).trans afh
          replace afw : aI H51 wt = aI H0 wt := (funext fun _ => aI_ne U51 (nek g0 gwt (by decide))).trans afw
          replace afp : aI H51 pa = p9 := (funext fun _ => aI_ne U51 (nek g0 gpa (by decide))).trans afp
          have m56 : (sI H51 h0 (X.1.2 7 4)).toInt = (sI H39 h0 (X.1.2 7 4)).toInt := congrArg Int32.toInt (up_nI U51 (ne_f E 7 4 1 rfl (by decide) (by decide) (by decide)))
          have m57 : (sI H51 h0 (X.1.2 7 5)).toInt = (sI H39 h0 (X.1.2 7 5)).toInt := congrArg Int32.toInt (up_nI U51 (ne_f E 7 5 1 rfl (by decide) (by decide) (by decide)))
          have m58 : (sI H51 h0 (X.1.2 7 6)).toInt = (sI H39 h0 (X.1.2 7 6)).toInt := congrArg Int32.toInt (up_nI U51 (ne_f E 7 6 1 rfl (by decide) (by decide) (by decide)))
          have m59 : (sI H51 h0 (X.1.2 7 7)).toInt = (sI H39 h0 (X.1.2 7 7)).toInt := congrArg Int32.toInt (up_nI U51 (ne_f E 7 7 1 rfl (by decide) (by decide) (by decide)))
          have hcb1 : HC (sI H51 h1 (X.1.2 8 0)).toInt (sI H51 h1 (X.1.2 8 1)).toInt z33 := by rw [show (sI H51 h1 (X.1.2 8 0)).toInt = w9 by omega, show (sI H51 h1 (X.1.2 8 1)).toInt = h9 by omega]; exact tr.hc (by omega)
          refine lv_aload_n hx hb dX7_trace_46 rfl (lv_at hl 2 rfl) ?_
          refine lv_aload_n hx hb dX7_trace_47 rfl (lv_at hl 3 rfl) ?_
          refine lv_iload_n hx hb dX7_trace_48 rfl (lv_at hl 1 rfl) ?_
          refine q_goIp (q_runV (As := [.ref h1, .int v33]) (rest := []) E hC51 hS51 (m_X7_cellBehind l X Γ H51 hC51 h0 g0 h1 g1 v33 (a2 := z33) ev33 pa hh wt (wn.kp g0 hKp51 rfl) (by omega) (by omega) hcb1) cw_X7_cellBehind cl_RX7_89 g0 ⟨rfl, rfl⟩ rfl hl.1 rfl (Nat.zero_le _) (by decide) dX7_trace_49) hS51 (fun v60 locs60 hr60 hS60 => ?_)
          obtain ⟨f60_0, f60_1, f60_2⟩ := hr60
          have hcv := f60_0
          rw [show (sI H51 h1 (X.1.2 8 0)).toInt = w9 by omega, show (sI H51 h1 (X.1.2 8 1)).toInt = h9 by omega, afh, afw] at hcv
          have tr2 := tr.step (by omega) hwi fp9 (by omega) he1 he2 hcv
          refine lv_istore_n hx hb dX7_trace_52 rfl hl (by decide) rfl (fun ls hl => ?_)
          replace hl : lv_has ls 4 [(2, .int v60), (3, .int v32), (0, .ref h0), (1, .ref h1)] := hl
          obtain ⟨v61, ev61⟩ : ∃ z, z = v32 + Int32.ofInt 1 := ⟨_, rfl⟩
          have ev61i : v61.toInt = (z32 + 1) := i_add ev61 ev32 (by decide) (by omega) (by omega)
          refine lv_iinc hx hb dX7_trace_53 hl (k := 1) rfl ev61.symm (by decide) rfl (fun ls hl => ?_)
          replace hl : lv_has ls 4 [(3, .int v61), (2, .int v60), (0, .ref h0), (1, .ref h1)] := hl
          refine lv_goto (tgt := 12) hx hb dX7_trace_56 rfl ?_
          exact ih34 H51 locs60 v61 ((z32 + 1)) v60 (v60.toInt) ls (ms_lt hm34 (by omega) (by omega)) ev61i rfl (by omega) (by omega) (by rw [afp]; exact tr2) (by omega) (by omega) (by omega) (by omega) (by omega) hC51 hS60 hKp51 afh afw hl
        · refine q_if_eq hx hb (a := 0) (by decide) (tgt := 59) dX7_trace_26 rfl (fun c62 => ?_) (fun c62 => absurd c62 (by omega))
          have hpt := tr.fin hwi hc9 (by omega) hct9
          have hpf : PTH (sI H0 h0 (X.1.2 7 4)).toInt (sI H0 h0 (X.1.2 7 5)).toInt (aI H0 hh) (aI H34 pa) (sI H34 h0 (X.1.2 7 1)).toInt (sI H0 h0 (X.1.2 7 7)).toInt := by rw [show (sI H34 h0 (X.1.2 7 1)).toInt = z32 by omega, show (sI H0 h0 (X.1.2 7 4)).toInt = w9 by omega, show (sI H0 h0 (X.1.2 7 5)).toInt = h9 by omega]; exact hpt
          exact ret H34 locs37 _ _ dX7_trace_59 ⟨hKp34, hpf⟩ hC34 hS37
  exact L12 _ H21 locs21 0 0 v30 v30.toInt ls (Nat.lt_succ_self _) (by decide) rfl (by omega) (by omega) (by rw [show v30.toInt = b9 by omega]; exact TRC.start hc9 hm9) (by omega) (by omega) (by omega) (by omega) (by omega) hC21 hS21 hKp21 afh afw hl
set_option maxRecDepth 100000 in
set_option maxHeartbeats 4000000 in
theorem m_X11_way (l : Launch) (X : xW) (Γ : Nat → Option Nat) (H0 : Heap) (hC0 : Conf X Γ H0) (h0 : Nat) (g0 : Γ h0 = some 0) (yd : Nat) (hyd : sR H0 h0 (X.1.2 10 5) = some yd) (gyd : Γ yd = some 5) (sn wl su lw ic kn hd us br ar fi : Nat) (yn : YN X Γ H0 yd sn wl su lw ic kn hd us br ar fi) (wk : Nat) (hwk : sR H0 h0 (X.1.2 10 12) = some wk) (gwk : Γ wk = some 7) (pa hh wt : Nat) (wn : WN X Γ H0 wk pa hh wt) (r0 : (sI H0 wk (X.1.2 7 4)).toInt = 0 ∨ WKS X H0 wk hh wt) (r1 : 2 ≤ (sI H0 yd (X.1.2 8 0)).toInt) (r2 : 1 ≤ (sI H0 yd (X.1.2 8 1)).toInt) : Ctr l X Γ yX11_way cX11_way 2 (some .int) 4 [.ref h0] H0 (QI X Γ (fun v H1 => Kp X Γ [3, 29, 31, 32, 33, 34, 37, 39, 40, 50, 51, 52, 53, 54, 55, 56, 57, 58, 59, 60, 61, 62, 63, 65, 70, 71] H0 H1 ∧ ((WKS X H1 wk hh wt) ∧ ((sI H1 wk (X.1.2 7 4)).toInt = (sI H0 yd (X.1.2 8 0)).toInt) ∧ ((sI H1 wk (X.1.2 7 5)).toInt = (sI H0 yd (X.1.2 8 1)).toInt) ∧ (PTH (sI H0 yd (X.1.2 8 0)).toInt (sI H0 yd (X.1.2 8 1)).toInt (aI H1 hh) (aI H1 pa) (sI H1 wk (X.1.2 7 1)).toInt v.toInt) ∧ (∀ z : Int, 0 ≤ z → z < 36 → aI H1 hh z = aI H0 sn z + aI H0 wl z) ∧ ((sI H1 wk (X.1.2 7 7)).toInt = v.toInt)))) := by
  refine q_enterI (own := "SnowForts") (by decide) rfl (Nat.le_of_ble_eq_true rfl) ?_
  intro p e s m args below meth c ls Qz E hl ret hS0
  have hx := E.1; have hb := E.2.1
  have hKp0 : Kp X Γ [3, 29, 31, 32, 33, 34, 37, 39, 40, 50, 51, 52, 53, 54, 55, 56, 57, 58, 59, 60, 61, 62, 63, 65, 70, 71] H0 H0 := Kp.rf
  have hl : lv_has ls 2 [(0, .ref h0)] := hl
  have gsn := yn.sn.2; have gwl := yn.wl.2; have gsu := yn.su.2; have glw := yn.lw.2; have gic := yn.ic.2; have gkn := yn.kn.2; have ghd := yn.hd.2; have gus := yn.us.2; have gbr := yn.br.2; have gar := yn.ar.2; have gfi := yn.fi.2
  have gpa := wn.pa.2; have ghh := wn.hh.2; have gwt := wn.wt.2
  refine lv_aload_n hx hb dX11_way_0 rfl (lv_at hl 0 rfl) ?_
  refine q_getS E hC0 g0 fa_RX11_70 hwk dX11_way_1 (fun _ => ?_)
  refine lv_aload_n hx hb dX11_way_4 rfl (lv_at hl 0 rfl) ?_
  refine q_getS E hC0 g0 fa_RX11_42 hyd dX11_way_5 (fun _ => ?_)
  have hwp := r0
  refine q_goI (q_runV (As := [.ref yd]) (rest := []) E hC0 hS0 (m_X7_costOver l X Γ H0 hC0 wk gwk yd gyd sn wl su lw ic kn hd us br ar fi yn pa hh wt wn hwp (by omega) (by omega)) cw_X7_costOver cl_RX11_284 gwk ⟨rfl, rfl⟩ rfl hl.1 rfl (Nat.zero_le _) (by decide) dX11_way_8) hS0 (fun v21 H21 locs21 hr21 hC21 hS21 => ?_)
  obtain ⟨hp21, hr21⟩ := hr21
  have hKp21 := hKp0.tr (hp21.mono rfl)
  have m22 : (sI H21 yd (X.1.2 8 0)).toInt = (sI H0 yd (X.1.2 8 0)).toInt := congrArg Int32.toInt (kp_I hp21 gyd (ci := 8) (k := 0) rfl (by decide) rfl)
  have m23 : (sI H21 yd (X.1.2 8 1)).toInt = (sI H0 yd (X.1.2 8 1)).toInt := congrArg Int32.toInt (kp_I hp21 gyd (ci := 8) (k := 1) rfl (by decide) rfl)
  have m24 : (sI H21 yd (X.1.2 8 2)).toInt = (sI H0 yd (X.1.2 8 2)).toInt := congrArg Int32.toInt (kp_I hp21 gyd (ci := 8) (k := 2) rfl (by decide) rfl)
  have m27 : (sI H21 wk (X.1.2 7 1)).toInt = (sI H0 wk (X.1.2 7 1)).toInt := congrArg Int32.toInt (kp_I hp21 gwk (ci := 7) (k := 1) rfl (by decide) rfl)
  obtain ⟨f21_0, f21_1, f21_2, f21_3, f21_4, f21_5⟩ := hr21
  have hwq := f21_0
  have htp := f21_3
  refine lv_istore_n hx hb dX11_way_11 rfl hl (by decide) rfl (fun ls hl => ?_)
  replace hl : lv_has ls 2 [(1, .int v21), (0, .ref h0)] := hl
  refine lv_aload_n hx hb dX11_way_12 rfl (lv_at hl 1 rfl) ?_
  refine q_getS E hC21 g0 fa_RX11_70 ((kp_R hKp21 g0 (ci := 10) (k := 12) rfl (by decide) rfl).trans hwk) dX11_way_13 (fun _ => ?_)
  refine lv_aload_n hx hb dX11_way_16 rfl (lv_at hl 1 rfl) ?_
  refine q_getS E hC21 g0 fa_RX11_42 ((kp_R hKp21 g0 (ci := 10) (k := 5) rfl (by decide) rfl).trans hyd) dX11_way_17 (fun _ => ?_)
  refine q_goV (q_runV (As := [.ref yd]) (rest := []) E hC21 hS21 (m_X7_trace l X Γ H21 hC21 wk gwk yd gyd pa hh wt (wn.kp gwk hKp21 rfl) hwq (by omega) (by omega)) cw_X7_trace cl_RX11_288 gwk ⟨rfl, rfl⟩ rfl hl.1 rfl (Nat.zero_le _) (by decide) dX11_way_20) hS21 (fun H29 locs29 hr29 hC29 hS29 => ?_)
  obtain ⟨hp29, hr29⟩ := hr29
  have hKp29 := hKp21.tr (hp29.mono rfl)
  have m30 : (sI H29 yd (X.1.2 8 0)).toInt = (sI H21 yd (X.1.2 8 0)).toInt := congrArg Int32.toInt (kp_I hp29 gyd (ci := 8) (k := 0) rfl (by decide) rfl)
  have m31 : (sI H29 yd (X.1.2 8 1)).toInt = (sI H21 yd (X.1.2 8 1)).toInt := congrArg Int32.toInt (kp_I hp29 gyd (ci := 8) (k := 1) rfl (by decide) rfl)
  have m32 : (sI H29 yd (X.1.2 8 2)).toInt = (sI H21 yd (X.1.2 8 2)).toInt := congrArg Int32.toInt (kp_I hp29 gyd (ci := 8) (k := 2) rfl (by decide) rfl)
  have m33 : (sI H29 wk (X.1.2 7 4)).toInt = (sI H21 wk (X.1.2 7 4)).toInt := congrArg Int32.toInt (kp_I hp29 gwk (ci := 7) (k := 4) rfl (by decide) rfl)
  have m34 : (sI H29 wk (X.1.2 7 5)).toInt = (sI H21 wk (X.1.2 7 5)).toInt := congrArg Int32.toInt (kp_I hp29 gwk (ci := 7) (k := 5) rfl (by decide) rfl)
  have m36 : (sI H29 wk (X.1.2 7 7)).toInt = (sI H21 wk (X.1.2 7 7)).toInt := congrArg Int32.toInt (kp_I hp29 gwk (ci := 7) (k := 7) rfl (by decide) rfl)
  have f29_0 := hr29
  have hwq := hwq.kp gwk ghh gwt hp29 rfl rfl
  have hth : aI H29 hh = aI H21 hh := funext fun _ => aI_kp hp29 ghh rfl rfl
  have hpt := f29_0
  rw [← hth, show (sI H21 wk (X.1.2 7 4)).toInt = (sI H0 yd (X.1.2 8 0)).toInt by omega, show (sI H21 wk (X.1.2 7 5)).toInt = (sI H0 yd (X.1.2 8 1)).toInt by omega] at hpt
  obtain ⟨k9, hk9⟩ : ∃ z, (sI H21 wk (X.1.2 7 7)).toInt = z := ⟨_, rfl⟩
  obtain ⟨n9, hn9⟩ : ∃ z, (sI H29 wk (X.1.2 7 1)).toInt = z := ⟨_, rfl⟩
  rw [hk9, hn9] at hpt
  refine lv_aload_n hx hb dX11_way_23 rfl (lv_at hl 1 rfl) ?_
  refine lv_iload_n hx hb dX11_way_24 rfl (lv_at hl 0 rfl) ?_
  refine q_goI (q_runV (As := [.int v21]) (rest := []) E hC29 hS29 (m_X11_answer l X Γ H29 hC29 h0 g0 v21 (a1 := v21.toInt) rfl) cw_X11_answer cl_RX11_191 g0 ⟨rfl, rfl⟩ rfl hl.1 rfl (Nat.zero_le _) (by decide) dX11_way_25) hS29 (fun v37 H37 locs37 hr37 hC37 hS37 => ?_)
  obtain ⟨hp37, hr37⟩ := hr37
  have hKp37 := hKp29.tr (hp37.mono rfl)
  have m38 : (sI H37 yd (X.1.2 8 0)).toInt = (sI H29 yd (X.1.2 8 0)).toInt := congrArg Int32.toInt (kp_I hp37 gyd (ci := 8) (k := 0) rfl (by decide) rfl)
  have m39 : (sI H37 yd (X.1.2 8 1)).toInt = (sI H29 yd (X.1.2 8 1)).toInt := congrArg Int32.toInt (kp_I hp37 gyd (ci := 8) (k := 1) rfl (by decide) rfl)
  have m40 : (sI H37 yd (X.1.2 8 2)).toInt = (sI H29 yd (X.1.2 8 2)).toInt := congrArg Int32.toInt (kp_I hp37 gyd (ci := 8) (k := 2) rfl (by decide) rfl)
  have m41 : (sI H37 wk (X.1.2 7 4)).toInt = (sI H29 wk (X.1.2 7 4)).toInt := congrArg Int32.toInt (kp_I hp37 gwk (ci := 7) (k := 4) rfl (by decide) rfl)
  have m42 : (sI H37 wk (X.1.2 7 5)).toInt = (sI H29 wk (X.1.2 7 5)).toInt := congrArg Int32.toInt (kp_I hp37 gwk (ci := 7) (k := 5) rfl (by decide) rfl)
  have m43 : (sI H37 wk (X.1.2 7 1)).toInt = (sI H29 wk (X.1.2 7 1)).toInt := congrArg Int32.toInt (kp_I hp37 gwk (ci := 7) (k := 1) rfl (by decide) rfl)
  have m44 : (sI H37 wk (X.1.2 7 7)).toInt = (sI H29 wk (X.1.2 7 7)).toInt := congrArg Int32.toInt (kp_I hp37 gwk (ci := 7) (k := 7) rfl (by decide) rfl)
  obtain ⟨f37_0, f37_1⟩ := hr37
  have hwq := hwq.kp gwk ghh gwt hp37 rfl rfl
  have hth2 : aI H37 hh = aI H29 hh := funext fun _ => aI_kp hp37 ghh rfl rfl
  have hpa2 : aI H37 pa = aI H29 pa := funext fun _ => aI_kp hp37 gpa rfl rfl
  rw [← hth2, ← hpa2] at hpt
  have hpf : PTH (sI H0 yd (X.1.2 8 0)).toInt (sI H0 yd (X.1.2 8 1)).toInt (aI H37 hh) (aI H37 pa) (sI H37 wk (X.1.2 7 1)).toInt (v37 : Int32).toInt := by rw [show (sI H37 wk (X.1.2 7 1)).toInt = n9 by omega, show (v37 : Int32).toInt = k9 by omega]; exact hpt
  have c45 : v37.toInt = v37.toInt := rfl
  exact ret v37 H37 locs37 _ _ dX11_way_28 ⟨hKp37, ⟨hwq, by omega, by omega, hpf, fun z z0 z1 => by rw [hth2, hth]; exact htp z z0 z1, by omega⟩⟩ hC37 hS37
set_option maxRecDepth 100000 in
set_option maxHeartbeats 4000000 in
theorem m_X11_wayAt (l : Launch) (X : xW) (Γ : Nat → Option Nat) (H0 : Heap) (hC0 : Conf X Γ H0) (h0 : Nat) (g0 : Γ h0 = some 0) (p1 : Int32) {a1 : Int} (e1 : p1.toInt = a1) (p2 : Int32) {a2 : Int} (e2 : p2.toInt = a2) (wk : Nat) (hwk : sR H0 h0 (X.1.2 10 12) = some wk) (gwk : Γ wk = some 7) (pa hh wt : Nat) (wn : WN X Γ H0 wk pa hh wt) (r0 : 0 ≤ a2) (r1 : a2 ≤ 1) : Ctr l X Γ yX11_wayAt cX11_wayAt 4 (some .int) 1 [.ref h0, .int p1, .int p2] H0 (QI X Γ (fun v H1 => Kp X Γ [3, 29, 31, 32, 33, 34, 37, 39, 40, 50, 51, 52, 53, 54, 55, 56, 57, 58, 59, 60, 61, 62, 63, 65, 67, 68, 69, 70, 71] H0 H1 ∧ (((0 ≤ a1 ∧ a1 < (sI H0 wk (X.1.2 7 1)).toInt ∧ ((a2 = 0 ∧ v.toInt = aI H0 pa a1 % 6) ∨ (a2 = 1 ∧ v.toInt = aI H0 pa a1 / 6))) ∨ ((a1 < 0 ∨ (sI H0 wk (X.1.2 7 1)).toInt ≤ a1 ∨ 36 ≤ a1) ∧ v.toInt = -1)) ∧ (-1 ≤ v.toInt) ∧ (v.toInt ≤ 5)))) := by
  refine q_enterI (own := "SnowForts") (by decide) rfl (Nat.le_of_ble_eq_true rfl) ?_
  intro p e s m args below meth c ls Qz E hl ret hS0
  have hx := E.1; have hb := E.2.1
  have hKp0 : Kp X Γ [3, 29, 31, 32, 33, 34, 37, 39, 40, 50, 51, 52, 53, 54, 55, 56, 57, 58, 59, 60, 61, 62, 63, 65, 67, 68, 69, 70, 71] H0 H0 := Kp.rf
  have hl : lv_has ls 4 [(0, .ref h0), (1, .int p1), (2, .int p2)] := hl
  have gpa := wn.pa.2; have ghh := wn.hh.2; have gwt := wn.wt.2
  refine lv_iload_n hx hb dX11_wayAt_0 rfl (lv_at hl 2 rfl) ?_
  refine lv_i2l (v := p2.toInt64) hx hb dX11_wayAt_1 rfl (lv_topl (fun v21 ev21 => ?_))
  have ev21i : v21.toInt = a2 := l_ofi ev21.symm e2
  refine lv_iconst (v := 0) hx hb dX11_wayAt_2 rfl ?_
  refine lv_iconst (v := 1) hx hb dX11_wayAt_3 rfl ?_
  refine q_goIp (q_runS (As := [.long v21, .int 0, .int 1]) (rest := []) E hS0 (m_X11_isWithin l X Γ H0 hC0 v21 (a0 := a2) ev21i 0 (a1 := 0) (by decide) 1 (a2 := 1) (by decide)) cw_X11_isWithin cl_RX11_113 rfl hl.1 rfl (Nat.zero_le _) (by decide) dX11_wayAt_4) hS0 (fun v22 locs22 hr22 hS22 => ?_)
  rcases hr22 with ⟨rfl, f22a0, f22a1⟩ | ⟨rfl, f22b⟩
  · refine q_if_ne hx hb (a := 1) (by decide) (tgt := 16) dX11_wayAt_7 rfl (fun c23 => ?_) (fun c23 => absurd c23 (by omega))
    refine lv_iload_n hx hb dX11_wayAt_16 rfl (lv_at hl 1 rfl) ?_
    refine lv_i2l (v := p1.toInt64) hx hb dX11_wayAt_17 rfl (lv_topl (fun v24 ev24 => ?_))
    have ev24i : v24.toInt = a1 := l_ofi ev24.symm e1
    refine lv_iconst (v := 0) hx hb dX11_wayAt_18 rfl ?_
    refine lv_aload_n hx hb dX11_wayAt_19 rfl (lv_at hl 0 rfl) ?_
    refine q_getS E hC0 g0 fa_RX11_70 hwk dX11_wayAt_20 (fun _ => ?_)
    refine q_getI E hC0 gwk fa_RX11_292 dX11_wayAt_23 (fun v25 ev25 lv25 uv25 => ?_)
    have m26 : (sI H0 wk (X.1.2 7 1)).toInt = v25.toInt := congrArg Int32.toInt ev25
    refine lv_iconst (v := 1) hx hb dX11_wayAt_26 rfl ?_
    refine lv_isub hx hb dX11_wayAt_27 (lv_topi (fun v27 ev27 => ?_))
    have ev27i : v27.toInt = (v25.toInt - 1) := i_sub ev27 rfl (by decide) (by omega) (by omega)
    refine q_goIp (q_runS (As := [.long v24, .int 0, .int v27]) (rest := []) E hS22 (m_X11_isWithin l X Γ H0 hC0 v24 (a0 := a1) ev24i 0 (a1 := 0) (by decide) v27 (a2 := (v25.toInt - 1)) ev27i) cw_X11_isWithin cl_RX11_113 rfl hl.1 rfl (Nat.zero_le _) (by decide) dX11_wayAt_28) hS22 (fun v28 locs28 hr28 hS28 => ?_)
    rcases hr28 with ⟨rfl, f28a0, f28a1⟩ | ⟨rfl, f28b⟩
    · refine q_if_eq hx hb (a := 1) (by decide) (tgt := 40) dX11_wayAt_31 rfl (fun c29 => absurd c29 (by omega)) (fun c29 => ?_)
      refine lv_iload_n hx hb dX11_wayAt_34 rfl (lv_at hl 1 rfl) ?_
      refine lv_bipush (v := 36) hx hb dX11_wayAt_35 rfl ?_
      refine q_icmp_lt hx hb (a := a1) (b := 36) e1 (by decide) (tgt := 47) dX11_wayAt_37 rfl (fun c30 => ?_) (fun c30 => absurd c30 (by omega))
      refine lv_aload_n hx hb dX11_wayAt_47 rfl (lv_at hl 0 rfl) ?_
      refine q_getS E hC0 g0 fa_RX11_70 hwk dX11_wayAt_48 (fun _ => ?_)
      refine q_getS E hC0 gwk fa_RX11_295 wn.pa.1 dX11_wayAt_51 (fun _ => ?_)
      refine lv_iload_n hx hb dX11_wayAt_54 rfl (lv_at hl 1 rfl) ?_
      refine q_iald E hC0 gpa rfl rfl (fun _ h => h) (i_in (a := a1) e1 (by omega) (by omega)) dX11_wayAt_55 (fun v31 ev31 lv31 uv31 => ?_)
      have m32 : aI H0 pa a1 = v31.toInt := aI_of e1 ev31
      refine lv_istore_n hx hb dX11_wayAt_56 rfl hl (by decide) rfl (fun ls hl => ?_)
      replace hl : lv_has ls 4 [(3, .int v31), (0, .ref h0), (1, .int p1), (2, .int p2)] := hl
      refine lv_aload_n hx hb dX11_wayAt_57 rfl (lv_at hl 1 rfl) ?_
      refine lv_iload_n hx hb dX11_wayAt_58 rfl (lv_at hl 3 rfl) ?_
      refine q_if_ne hx hb (a := a2) e2 (tgt := 69) dX11_wayAt_59 rfl (fun c33 => ?_) (fun c33 => ?_)
      · refine lv_iload_n hx hb dX11_wayAt_69 rfl (lv_at hl 0 rfl) ?_
        refine lv_bipush (v := 6) hx hb dX11_wayAt_70 rfl ?_
        refine lv_idiv hx hb dX11_wayAt_72 (by decide) (lv_topi (fun v34 ev34 => ?_))
        have ev34i : v34.toInt = (v31.toInt / 6) := i_div ev34 rfl (by decide) (by omega) (by decide)
        refine q_goI (q_runV (As := [.int v34]) (rest := []) E hC0 hS28 (m_X11_answer l X Γ H0 hC0 h0 g0 v34 (a1 := (v31.toInt / 6)) ev34i) cw_X11_answer cl_RX11_191 g0 ⟨rfl, rfl⟩ rfl hl.1 rfl (Nat.zero_le _) (by decide) dX11_wayAt_73) hS28 (fun v35 H35 locs35 hr35 hC35 hS35 => ?_)
        obtain ⟨hp35, hr35⟩ := hr35
        have hKp35 := hKp0.tr (hp35.mono rfl)
        have m36 : (sI H35 wk (X.1.2 7 4)).toInt = (sI H0 wk (X.1.2 7 4)).toInt := congrArg Int32.toInt (kp_I hp35 gwk (ci := 7) (k := 4) rfl (by decide) rfl)
        have m37 : (sI H35 wk (X.1.2 7 5)).toInt = (sI H0 wk (X.1.2 7 5)).toInt := congrArg Int32.toInt (kp_I hp35 gwk (ci := 7) (k := 5) rfl (by decide) rfl)
        have m38 : (sI H35 wk (X.1.2 7 1)).toInt = (sI H0 wk (X.1.2 7 1)).toInt := congrArg Int32.toInt (kp_I hp35 gwk (ci := 7) (k := 1) rfl (by decide) rfl)
        have m39 : (sI H35 wk (X.1.2 7 7)).toInt = (sI H0 wk (X.1.2 7 7)).toInt := congrArg Int32.toInt (kp_I hp35 gwk (ci := 7) (k := 7) rfl (by decide) rfl)
        obtain ⟨f35_0, f35_1⟩ := hr35
        have c40 : v35.toInt = v35.toInt := rfl
        exact ret v35 H35 locs35 _ _ dX11_wayAt_76 ⟨hKp35, ⟨by omega, by omega, by omega⟩⟩ hC35 hS35
      · refine lv_iload_n hx hb dX11_wayAt_62 rfl (lv_at hl 0 rfl) ?_
        refine lv_bipush (v := 6) hx hb dX11_wayAt_63 rfl ?_
        refine lv_irem hx hb dX11_wayAt_65 (by decide) (lv_topi (fun v41 ev41 => ?_))
        have ev41i : v41.toInt = (v31.toInt % 6) := i_rem ev41 rfl (by decide) (by omega) (by decide)
        refine lv_goto (tgt := 73) hx hb dX11_wayAt_66 rfl ?_
        refine q_goI (q_runV (As := [.int v41]) (rest := []) E hC0 hS28 (m_X11_answer l X Γ H0 hC0 h0 g0 v41 (a1 := (v31.toInt % 6)) ev41i) cw_X11_answer cl_RX11_191 g0 ⟨rfl, rfl⟩ rfl hl.1 rfl (Nat.zero_le _) (by decide) dX11_wayAt_73) hS28 (fun v42 H42 locs42 hr42 hC42 hS42 => ?_)
        obtain ⟨hp42, hr42⟩ := hr42
        have hKp42 := hKp0.tr (hp42.mono rfl)
        have m43 : (sI H42 wk (X.1.2 7 4)).toInt = (sI H0 wk (X.1.2 7 4)).toInt := congrArg Int32.toInt (kp_I hp42 gwk (ci := 7) (k := 4) rfl (by decide) rfl)
        have m44 : (sI H42 wk (X.1.2 7 5)).toInt = (sI H0 wk (X.1.2 7 5)).toInt := congrArg Int32.toInt (kp_I hp42 gwk (ci := 7) (k := 5) rfl (by decide) rfl)
        have m45 : (sI H42 wk (X.1.2 7 1)).toInt = (sI H0 wk (X.1.2 7 1)).toInt := congrArg Int32.toInt (kp_I hp42 gwk (ci := 7) (k := 1) rfl (by decide) rfl)
        have m46 : (sI H42 wk (X.1.2 7 7)).toInt = (sI H0 wk (X.1.2 7 7)).toInt := congrArg Int32.toInt (kp_I hp42 gwk (ci := 7) (k := 7) rfl (by decide) rfl)
        obtain ⟨f42_0, f42_1⟩ := hr42
        have c47 : v42.toInt = v42.toInt := rfl
        exact ret v42 H42 locs42 _ _ dX11_wayAt_76 ⟨hKp42, ⟨by omega, by omega, by omega⟩⟩ hC42 hS42
    · refine q_if_eq hx hb (a := 0) (by decide) (tgt := 40) dX11_wayAt_31 rfl (fun c48 => ?_) (fun c48 => absurd c48 (by omega))
      refine lv_aload_n hx hb dX11_wayAt_40 rfl (lv_at hl 0 rfl) ?_
      refine lv_bipush (v := 8) hx hb dX11_wayAt_41 rfl ?_
      refine q_goI (q_runV (As := [.int 8]) (rest := []) E hC0 hS28 (m_X11_refuse l X Γ H0 hC0 h0 g0 8 (a1 := 8) (by decide)) cw_X11_refuse cl_RX11_146 g0 ⟨rfl, rfl⟩ rfl hl.1 rfl (Nat.zero_le _) (by decide) dX11_wayAt_43) hS28 (fun v49 H49 locs49 hr49 hC49 hS49 => ?_)
      obtain ⟨hp49, hr49⟩ := hr49
      have hKp49 := hKp0.tr (hp49.mono rfl)
      have m50 : (sI H49 wk (X.1.2 7 4)).toInt = (sI H0 wk (X.1.2 7 4)).toInt := congrArg Int32.toInt (kp_I hp49 gwk (ci := 7) (k := 4) rfl (by decide) rfl)
      have m51 : (sI H49 wk (X.1.2 7 5)).toInt = (sI H0 wk (X.1.2 7 5)).toInt := congrArg Int32.toInt (kp_I hp49 gwk (ci := 7) (k := 5) rfl (by decide) rfl)
      have m52 : (sI H49 wk (X.1.2 7 1)).toInt = (sI H0 wk (X.1.2 7 1)).toInt := congrArg Int32.toInt (kp_I hp49 gwk (ci := 7) (k := 1) rfl (by decide) rfl)
      have m53 : (sI H49 wk (X.1.2 7 7)).toInt = (sI H0 wk (X.1.2 7 7)).toInt := congrArg Int32.toInt (kp_I hp49 gwk (ci := 7) (k := 7) rfl (by decide) rfl)
      have f49_0 := hr49
      have c54 : v49.toInt = v49.toInt := rfl
      exact ret v49 H49 locs49 _ _ dX11_wayAt_46 ⟨hKp49, ⟨by omega, by omega, by omega⟩⟩ hC49 hS49
  · refine q_if_ne hx hb (a := 0) (by decide) (tgt := 16) dX11_wayAt_7 rfl (fun c55 => absurd c55 (by omega)) (fun c55 => ?_)
    (exfalso; omega)
set_option maxRecDepth 100000 in
set_option maxHeartbeats 4000000 in
theorem m_X11_isPeace (l : Launch) (X : xW) (Γ : Nat → Option Nat) (H0 : Heap) (hC0 : Conf X Γ H0) (h0 : Nat) (g0 : Γ h0 = some 0) (yd : Nat) (hyd : sR H0 h0 (X.1.2 10 5) = some yd) (gyd : Γ yd = some 5) (sn wl su lw ic kn hd us br ar fi : Nat) (yn : YN X Γ H0 yd sn wl su lw ic kn hd us br ar fi) (wk : Nat) (hwk : sR H0 h0 (X.1.2 10 12) = some wk) (gwk : Γ wk = some 7) (pa hh wt : Nat) (wn : WN X Γ H0 wk pa hh wt) (r0 : (sI H0 wk (X.1.2 7 4)).toInt = 0 ∨ WKS X H0 wk hh wt) (r1 : 2 ≤ (sI H0 yd (X.1.2 8 0)).toInt) (r2 : 1 ≤ (sI H0 yd (X.1.2 8 1)).toInt) : Ctr l X Γ yX11_isPeace cX11_isPeace 1 (some .boolean) 4 [.ref h0] H0 (QI X Γ (fun v H1 => Kp X Γ [3, 29, 31, 32, 33, 34, 37, 39, 40, 50, 51, 52, 53, 54, 55, 56, 57, 58, 59, 60, 61, 62, 63, 65, 68, 70, 71, 72] H0 H1 ∧ ((v = 1 ∧ ((sI H1 wk (X.1.2 7 7)).toInt ≤ 4 ∧ WKS X H1 wk hh wt ∧ (sI H1 wk (X.1.2 7 4)).toInt = (sI H0 yd (X.1.2 8 0)).toInt ∧ (sI H1 wk (X.1.2 7 5)).toInt = (sI H0 yd (X.1.2 8 1)).toInt ∧ (((sI H0 wk (X.1.2 7 4)).toInt = (sI H0 yd (X.1.2 8 0)).toInt ∧ (sI H0 wk (X.1.2 7 5)).toInt = (sI H0 yd (X.1.2 8 1)).toInt ∧ ∀ z : Int, 0 ≤ z → z < 36 → aI H0 hh z = aI H0 sn z + aI H0 wl z) → (sI H1 wk (X.1.2 7 7)).toInt = (sI H0 wk (X.1.2 7 7)).toInt))) ∨ (v = 0 ∧ (4 < (sI H1 wk (X.1.2 7 7)).toInt ∧ WKS X H1 wk hh wt ∧ (sI H1 wk (X.1.2 7 4)).toInt = (sI H0 yd (X.1.2 8 0)).toInt ∧ (sI H1 wk (X.1.2 7 5)).toInt = (sI H0 yd (X.1.2 8 1)).toInt ∧ (((sI H0 wk (X.1.2 7 4)).toInt = (sI H0 yd (X.1.2 8 0)).toInt ∧ (sI H0 wk (X.1.2 7 5)).toInt = (sI H0 yd (X.1.2 8 1)).toInt ∧ ∀ z : Int, 0 ≤ z → z < 36 → aI H0 hh z = aI H0 sn z + aI H0 wl z) → (sI H1 wk (X.1.2 7 7)).toInt = (sI H0 wk (X.1.2 7 7)).toInt)))))) := by
  refine q_enterZ (own := "SnowForts") (by decide) rfl (Nat.le_of_ble_eq_true rfl) ?_
  intro p e s m args below meth c ls Qz E hl ret hS0
  have hx := E.1; have hb := E.2.1
  have hKp0 : Kp X Γ [3, 29, 31, 32, 33, 34, 37, 39, 40, 50, 51, 52, 53, 54, 55, 56, 57, 58, 59, 60, 61, 62, 63, 65, 68, 70, 71, 72] H0 H0 := Kp.rf
  have hl : lv_has ls 1 [(0, .ref h0)] := hl
  have gsn := yn.sn.2; have gwl := yn.wl.2; have gsu := yn.su.2; have glw := yn.lw.2; have gic := yn.ic.2; have gkn := yn.kn.2; have ghd := yn.hd.2; have gus := yn.us.2; have gbr := yn.br.2; have gar := yn.ar.2; have gfi := yn.fi.2
  have gpa := wn.pa.2; have ghh := wn.hh.2; have gwt := wn.wt.2
  refine lv_aload_n hx hb dX11_isPeace_0 rfl (lv_at hl 0 rfl) ?_
  refine q_getS E hC0 g0 fa_RX11_70 hwk dX11_isPeace_1 (fun _ => ?_)
  refine lv_aload_n hx hb dX11_isPeace_4 rfl (lv_at hl 0 rfl) ?_
  refine q_getS E hC0 g0 fa_RX11_42 hyd dX11_isPeace_5 (fun _ => ?_)
  have hwp := r0
  refine q_goI (q_runV (As := [.ref yd]) (rest := []) E hC0 hS0 (m_X7_costOver l X Γ H0 hC0 wk gwk yd gyd sn wl su lw ic kn hd us br ar fi yn pa hh wt wn hwp (by omega) (by omega)) cw_X7_costOver cl_RX11_284 gwk ⟨rfl, rfl⟩ rfl hl.1 rfl (Nat.zero_le _) (by decide) dX11_isPeace_8) hS0 (fun v21 H21 locs21 hr21 hC21 hS21 => ?_)
  obtain ⟨hp21, hr21⟩ := hr21
  have hKp21 := hKp0.tr (hp21.mono rfl)
  have m22 : (sI H21 yd (X.1.2 8 0)).toInt = (sI H0 yd (X.1.2 8 0)).toInt := congrArg Int32.toInt (kp_I hp21 gyd (ci := 8) (k := 0) rfl (by decide) rfl)
  have m23 : (sI H21 yd (X.1.2 8 1)).toInt = (sI H0 yd (X.1.2 8 1)).toInt := congrArg Int32.toInt (kp_I hp21 gyd (ci := 8) (k := 1) rfl (by decide) rfl)
  have m24 : (sI H21 yd (X.1.2 8 2)).toInt = (sI H0 yd (X.1.2 8 2)).toInt := congrArg Int32.toInt (kp_I hp21 gyd (ci := 8) (k := 2) rfl (by decide) rfl)
  have m27 : (sI H21 wk (X.1.2 7 1)).toInt = (sI H0 wk (X.1.2 7 1)).toInt := congrArg Int32.toInt (kp_I hp21 gwk (ci := 7) (k := 1) rfl (by decide) rfl)
  obtain ⟨f21_0, f21_1, f21_2, f21_3, f21_4, f21_5⟩ := hr21
  have hwq := f21_0
  have hsm := f21_5
  refine lv_iconst (v := 4) hx hb dX11_isPeace_11 rfl ?_
  refine q_icmp_gt hx hb (a := v21.toInt) (b := 4) rfl (by decide) (tgt := 19) dX11_isPeace_12 rfl (fun c29 => ?_) (fun c29 => ?_)
  · refine lv_iconst (v := 0) hx hb dX11_isPeace_19 rfl ?_
    exact ret 0 H21 locs21 _ _ dX11_isPeace_20 (Or.inl rfl) ⟨hKp21, Or.inr ⟨rfl, ⟨by omega, hwq, by omega, by omega, hsm⟩⟩⟩ hC21 hS21
  · refine lv_iconst (v := 1) hx hb dX11_isPeace_15 rfl ?_
    refine lv_goto (tgt := 20) hx hb dX11_isPeace_16 rfl ?_
    exact ret 1 H21 locs21 _ _ dX11_isPeace_20 (Or.inr rfl) ⟨hKp21, Or.inl ⟨rfl, ⟨by omega, hwq, by omega, by omega, hsm⟩⟩⟩ hC21 hS21
set_option maxRecDepth 100000 in
set_option maxHeartbeats 4000000 in
theorem m_X11_peace (l : Launch) (X : xW) (Γ : Nat → Option Nat) (H0 : Heap) (hC0 : Conf X Γ H0) (h0 : Nat) (g0 : Γ h0 = some 0) (yd : Nat) (hyd : sR H0 h0 (X.1.2 10 5) = some yd) (gyd : Γ yd = some 5) (sn wl su lw ic kn hd us br ar fi : Nat) (yn : YN X Γ H0 yd sn wl su lw ic kn hd us br ar fi) (wk : Nat) (hwk : sR H0 h0 (X.1.2 10 12) = some wk) (gwk : Γ wk = some 7) (pa hh wt : Nat) (wn : WN X Γ H0 wk pa hh wt) (r0 : (sI H0 wk (X.1.2 7 4)).toInt = 0 ∨ WKS X H0 wk hh wt) (r1 : 2 ≤ (sI H0 yd (X.1.2 8 0)).toInt) (r2 : 1 ≤ (sI H0 yd (X.1.2 8 1)).toInt) : Ctr l X Γ yX11_peace cX11_peace 1 (some .int) 5 [.ref h0] H0 (QI X Γ (fun v H1 => Kp X Γ [3, 29, 31, 32, 33, 34, 37, 39, 40, 50, 51, 52, 53, 54, 55, 56, 57, 58, 59, 60, 61, 62, 63, 65, 68, 70, 71] H0 H1 ∧ (((v.toInt = 1 ∧ (sI H1 wk (X.1.2 7 7)).toInt ≤ 4) ∨ (v.toInt = 0 ∧ 4 < (sI H1 wk (X.1.2 7 7)).toInt)) ∧ (WKS X H1 wk hh wt) ∧ ((sI H1 wk (X.1.2 7 4)).toInt = (sI H0 yd (X.1.2 8 0)).toInt) ∧ ((sI H1 wk (X.1.2 7 5)).toInt = (sI H0 yd (X.1.2 8 1)).toInt) ∧ (((sI H0 wk (X.1.2 7 4)).toInt = (sI H0 yd (X.1.2 8 0)).toInt ∧ (sI H0 wk (X.1.2 7 5)).toInt = (sI H0 yd (X.1.2 8 1)).toInt ∧ ∀ z : Int, 0 ≤ z → z < 36 → aI H0 hh z = aI H0 sn z + aI H0 wl z) → (sI H1 wk (X.1.2 7 7)).toInt = (sI H0 wk (X.1.2 7 7)).toInt)))) := by
  refine q_enterI (own := "SnowForts") (by decide) rfl (Nat.le_of_ble_eq_true rfl) ?_
  intro p e s m args below meth c ls Qz E hl ret hS0
  have hx := E.1; have hb := E.2.1
  have hKp0 : Kp X Γ [3, 29, 31, 32, 33, 34, 37, 39, 40, 50, 51, 52, 53, 54, 55, 56, 57, 58, 59, 60, 61, 62, 63, 65, 68, 70, 71] H0 H0 := Kp.rf
  have hl : lv_has ls 1 [(0, .ref h0)] := hl
  have gsn := yn.sn.2; have gwl := yn.wl.2; have gsu := yn.su.2; have glw := yn.lw.2; have gic := yn.ic.2; have gkn := yn.kn.2; have ghd := yn.hd.2; have gus := yn.us.2; have gbr := yn.br.2; have gar := yn.ar.2; have gfi := yn.fi.2
  have gpa := wn.pa.2; have ghh := wn.hh.2; have gwt := wn.wt.2
  refine lv_aload_n hx hb dX11_peace_0 rfl (lv_at hl 0 rfl) ?_
  refine lv_aload_n hx hb dX11_peace_1 rfl (lv_at hl 0 rfl) ?_
  refine q_goI (q_runV (As := []) (rest := [.ref h0]) E hC0 hS0 (m_X11_isPeace l X Γ H0 hC0 h0 g0 yd hyd gyd sn wl su lw ic kn hd us br ar fi yn wk hwk gwk pa hh wt wn (by exact r0) (by omega) (by omega)) cw_X11_isPeace cl_RX11_298 g0 ⟨rfl, rfl⟩ rfl hl.1 rfl (show _ ≤ _ from by simp [Value.category]) (by decide) dX11_peace_2) hS0 (fun v21 H21 locs21 hr21 hC21 hS21 => ?_)
  obtain ⟨hp21, hr21⟩ := hr21
  have hKp21 := hKp0.tr (hp21.mono rfl)
  have m22 : (sI H21 yd (X.1.2 8 0)).toInt = (sI H0 yd (X.1.2 8 0)).toInt := congrArg Int32.toInt (kp_I hp21 gyd (ci := 8) (k := 0) rfl (by decide) rfl)
  have m23 : (sI H21 yd (X.1.2 8 1)).toInt = (sI H0 yd (X.1.2 8 1)).toInt := congrArg Int32.toInt (kp_I hp21 gyd (ci := 8) (k := 1) rfl (by decide) rfl)
  have m24 : (sI H21 yd (X.1.2 8 2)).toInt = (sI H0 yd (X.1.2 8 2)).toInt := congrArg Int32.toInt (kp_I hp21 gyd (ci := 8) (k := 2) rfl (by decide) rfl)
  have m27 : (sI H21 wk (X.1.2 7 1)).toInt = (sI H0 wk (X.1.2 7 1)).toInt := congrArg Int32.toInt (kp_I hp21 gwk (ci := 7) (k := 1) rfl (by decide) rfl)
  rcases hr21 with ⟨rfl, d0, hwq, d2, d3, hsm⟩ | ⟨rfl, d0, hwq, d2, d3, hsm⟩
  · refine q_if_eq hx hb (a := 1) (by decide) (tgt := 12) dX11_peace_5 rfl (fun c29 => absurd c29 (by omega)) (fun c29 => ?_)
    refine lv_iconst (v := 1) hx hb dX11_peace_8 rfl ?_
    refine lv_goto (tgt := 13) hx hb dX11_peace_9 rfl ?_
    refine q_goI (q_runV (As := [.int 1]) (rest := []) E hC21 hS21 (m_X11_answer l X Γ H21 hC21 h0 g0 1 (a1 := 1) (by decide)) cw_X11_answer cl_RX11_191 g0 ⟨rfl, rfl⟩ rfl hl.1 rfl (Nat.zero_le _) (by decide) dX11_peace_13) hS21 (fun v30 H30 locs30 hr30 hC30 hS30 => ?_)
    obtain ⟨hp30, hr30⟩ := hr30
    have hKp30 := hKp21.tr (hp30.mono rfl)
    have m31 : (sI H30 yd (X.1.2 8 0)).toInt = (sI H21 yd (X.1.2 8 0)).toInt := congrArg Int32.toInt (kp_I hp30 gyd (ci := 8) (k := 0) rfl (by decide) rfl)
    have m32 : (sI H30 yd (X.1.2 8 1)).toInt = (sI H21 yd (X.1.2 8 1)).toInt := congrArg Int32.toInt (kp_I hp30 gyd (ci := 8) (k := 1) rfl (by decide) rfl)
    have m33 : (sI H30 yd (X.1.2 8 2)).toInt = (sI H21 yd (X.1.2 8 2)).toInt := congrArg Int32.toInt (kp_I hp30 gyd (ci := 8) (k := 2) rfl (by decide) rfl)
    have m34 : (sI H30 wk (X.1.2 7 4)).toInt = (sI H21 wk (X.1.2 7 4)).toInt := congrArg Int32.toInt (kp_I hp30 gwk (ci := 7) (k := 4) rfl (by decide) rfl)
    have m35 : (sI H30 wk (X.1.2 7 5)).toInt = (sI H21 wk (X.1.2 7 5)).toInt := congrArg Int32.toInt (kp_I hp30 gwk (ci := 7) (k := 5) rfl (by decide) rfl)
    have m36 : (sI H30 wk (X.1.2 7 1)).toInt = (sI H21 wk (X.1.2 7 1)).toInt := congrArg Int32.toInt (kp_I hp30 gwk (ci := 7) (k := 1) rfl (by decide) rfl)
    have m37 : (sI H30 wk (X.1.2 7 7)).toInt = (sI H21 wk (X.1.2 7 7)).toInt := congrArg Int32.toInt (kp_I hp30 gwk (ci := 7) (k := 7) rfl (by decide) rfl)
    obtain ⟨f30_0, f30_1⟩ := hr30
    have hwq := hwq.kp gwk ghh gwt hp30 rfl rfl
    have c38 : v30.toInt = v30.toInt := rfl
    exact ret v30 H30 locs30 _ _ dX11_peace_16 ⟨hKp30, ⟨by omega, hwq, by omega, by omega, fun q => by have q2 := hsm q; omega⟩⟩ hC30 hS30
  · refine q_if_eq hx hb (a := 0) (by decide) (tgt := 12) dX11_peace_5 rfl (fun c39 => ?_) (fun c39 => absurd c39 (by omega))
    refine lv_iconst (v := 0) hx hb dX11_peace_12 rfl ?_
    refine q_goI (q_runV (As := [.int 0]) (rest := []) E hC21 hS21 (m_X11_answer l X Γ H21 hC21 h0 g0 0 (a1 := 0) (by decide)) cw_X11_answer cl_RX11_191 g0 ⟨rfl, rfl⟩ rfl hl.1 rfl (Nat.zero_le _) (by decide) dX11_peace_13) hS21 (fun v40 H40 locs40 hr40 hC40 hS40 => ?_)
    obtain ⟨hp40, hr40⟩ := hr40
    have hKp40 := hKp21.tr (hp40.mono rfl)
    have m41 : (sI H40 yd (X.1.2 8 0)).toInt = (sI H21 yd (X.1.2 8 0)).toInt := congrArg Int32.toInt (kp_I hp40 gyd (ci := 8) (k := 0) rfl (by decide) rfl)
    have m42 : (sI H40 yd (X.1.2 8 1)).toInt = (sI H21 yd (X.1.2 8 1)).toInt := congrArg Int32.toInt (kp_I hp40 gyd (ci := 8) (k := 1) rfl (by decide) rfl)
    have m43 : (sI H40 yd (X.1.2 8 2)).toInt = (sI H21 yd (X.1.2 8 2)).toInt := congrArg Int32.toInt (kp_I hp40 gyd (ci := 8) (k := 2) rfl (by decide) rfl)
    have m44 : (sI H40 wk (X.1.2 7 4)).toInt = (sI H21 wk (X.1.2 7 4)).toInt := congrArg Int32.toInt (kp_I hp40 gwk (ci := 7) (k := 4) rfl (by decide) rfl)
    have m45 : (sI H40 wk (X.1.2 7 5)).toInt = (sI H21 wk (X.1.2 7 5)).toInt := congrArg Int32.toInt (kp_I hp40 gwk (ci := 7) (k := 5) rfl (by decide) rfl)
    have m46 : (sI H40 wk (X.1.2 7 1)).toInt = (sI H21 wk (X.1.2 7 1)).toInt := congrArg Int32.toInt (kp_I hp40 gwk (ci := 7) (k := 1) rfl (by decide) rfl)
    have m47 : (sI H40 wk (X.1.2 7 7)).toInt = (sI H21 wk (X.1.2 7 7)).toInt := congrArg Int32.toInt (kp_I hp40 gwk (ci := 7) (k := 7) rfl (by decide) rfl)
    obtain ⟨f40_0, f40_1⟩ := hr40
    have hwq := hwq.kp gwk ghh gwt hp40 rfl rfl
    have c48 : v40.toInt = v40.toInt := rfl
    exact ret v40 H40 locs40 _ _ dX11_peace_16 ⟨hKp40, ⟨by omega, hwq, by omega, by omega, fun q => by have q2 := hsm q; omega⟩⟩ hC40 hS40
set_option maxRecDepth 100000 in
set_option maxHeartbeats 4000000 in
theorem m_X4_append (l : Launch) (X : xW) (Γ : Nat → Option Nat) (H0 : Heap) (hC0 : Conf X Γ H0) (h0 : Nat) (g0 : Γ h0 = some 2) (p1 : Int32) {a1 : Int} (e1 : p1.toInt = a1) (tp : Nat) (htp : sR H0 h0 (X.1.2 4 0) = some tp) (gtp : Γ tp = some 25) (r0 : (sI H0 h0 (X.1.2 4 1)).toInt ≤ 896) : Ctr l X Γ yX4_append cX4_append 3 none 0 [.ref h0, .int p1] H0 (QV X Γ (fun H1 => Kp X Γ [31, 32, 33, 34, 37, 39, 40, 50, 51, 52, 53, 54, 55, 56, 57, 58, 59, 60, 61, 62, 63, 65, 67, 68, 69, 70, 71, 72] H0 H1 ∧ (((sI H1 h0 (X.1.2 4 1)).toInt = (sI H0 h0 (X.1.2 4 1)).toInt + 4) ∧ (APP H0 H1 tp (sI H0 h0 (X.1.2 4 1)).toInt (sI H1 h0 (X.1.2 4 1)).toInt p1)))) := by
  refine q_enterV (own := "SnowForts$Reader") (by decide) rfl (Nat.le_of_ble_eq_true rfl) ?_
  intro p e s m args below meth c ls Qz E hl ret hS0
  have hx := E.1; have hb := E.2.1
  have hKp0 : Kp X Γ [31, 32, 33, 34, 37, 39, 40, 50, 51, 52, 53, 54, 55, 56, 57, 58, 59, 60, 61, 62, 63, 65, 67, 68, 69, 70, 71, 72] H0 H0 := Kp.rf
  have hl : lv_has ls 3 [(0, .ref h0), (1, .int p1)] := hl
  have hz1 := f_bd hC0 g0 (ci := 4) (k := 1) rfl rfl
  refine lv_bipush (v := 24) hx hb dX4_append_0 rfl ?_
  refine lv_istore_n hx hb dX4_append_2 rfl hl (by decide) rfl (fun ls hl => ?_)
  replace hl : lv_has ls 3 [(2, .int 24), (0, .ref h0), (1, .int p1)] := hl
  have L3 : ∀ (n22 : Nat) (H22 : Heap) (locs22 : List Loc) (v21 : Int32) (z21 : Int) (ls : Array Slot), (z21 + 1).toNat < n22 → v21.toInt = z21 → -8 ≤ z21 → z21 ≤ 24 → 8 * ((sI H22 h0 (X.1.2 4 1)).toInt - (sI H0 h0 (X.1.2 4 1)).toInt) = 24 - z21 → APP H0 H22 tp (sI H0 h0 (X.1.2 4 1)).toInt (sI H22 h0 (X.1.2 4 1)).toInt p1 → Conf X Γ H22 → va_S (AΓ Γ) H0 H22 locs22 → Kp X Γ [31, 32, 33, 34, 37, 39, 40, 50, 51, 52, 53, 54, 55, 56, 57, 58, 59, 60, 61, 62, 63, 65, 67, 68, 69, 70, 71, 72] H0 H22 → lv_has ls 3 [(2, .int v21), (0, .ref h0), (1, .int p1)] → W p l e (rmL 0) s m args below meth c H22 locs22 0 0 Qz (F0 m 3 ls []) := by
    intro n22
    induction n22 with
    | zero => intro H22 locs22 v21 z21 ls hm22 ev21 iv22_0 iv22_1 iv22_2 iv22_3 hC22 hS22 hKp22 hl; exact absurd hm22 (Nat.not_lt_zero _)
    | succ n22 ih22 =>
      intro H22 locs22 v21 z21 ls hm22 ev21 iv22_0 iv22_1 iv22_2 iv22_3 hC22 hS22 hKp22 hl
      have hz2 := f_bd hC22 g0 (ci := 4) (k := 1) rfl rfl
      have hap := iv22_3
      refine lv_iload_n hx hb dX4_append_3 rfl (lv_at hl 0 rfl) ?_
      refine q_if_lt hx hb (a := z21) ev21 (tgt := 53) dX4_append_4 rfl (fun c23 => ?_) (fun c23 => ?_)
      · have hapf : APP H0 H22 tp (sI H0 h0 (X.1.2 4 1)).toInt (sI H22 h0 (X.1.2 4 1)).toInt p1 := hap
        exact ret H22 locs22 _ _ dX4_append_53 ⟨hKp22, ⟨by omega, hapf⟩⟩ hC22 hS22
      · refine lv_aload_n hx hb dX4_append_7 rfl (lv_at hl 1 rfl) ?_
        refine q_getI E hC22 g0 fa_RX4_39 dX4_append_8 (fun v24 ev24 lv24 uv24 => ?_)
        have m25 : (sI H22 h0 (X.1.2 4 1)).toInt = v24.toInt := (congrArg Int32.toInt ev24).trans rfl
        refine q_if_lt hx hb (a := v24.toInt) rfl (tgt := 47) dX4_append_11 rfl (fun c26 => absurd c26 (by omega)) (fun c26 => ?_)
        refine lv_aload_n hx hb dX4_append_14 rfl (lv_at hl 1 rfl) ?_
        refine q_getI E hC22 g0 fa_RX4_39 dX4_append_15 (fun v27 ev27 lv27 uv27 => ?_)
        have qv27 := ev24.symm.trans ev27; subst qv27
        refine lv_sipush (v := 900) hx hb dX4_append_18 rfl ?_
        refine q_icmp_ge hx hb (a := v24.toInt) (b := 900) rfl (by decide) (tgt := 47) dX4_append_21 rfl (fun c28 => ?_) (fun c28 => ?_)
        · obtain ⟨v29, ev29⟩ : ∃ z, z = v21 + Int32.ofInt (-8) := ⟨_, rfl⟩
          have ev29i : v29.toInt = (z21 + (-8)) := i_add ev29 ev21 (by decide) (by omega) (by omega)
          refine lv_iinc hx hb dX4_append_47 hl (k := 0) rfl ev29.symm (by decide) rfl (fun ls hl => ?_)
          replace hl : lv_has ls 3 [(2, .int v29), (0, .ref h0), (1, .int p1)] := hl
          refine lv_goto (tgt := 3) hx hb dX4_append_50 rfl ?_
          exact ih22 H22 locs22 v29 ((z21 + (-8))) ls (ms_lt hm22 (by omega) (by omega)) ev29i (by omega) (by omega) (by omega) (by first | exact hap | exact hap3.cast rfl (by omega)) hC22 hS22 hKp22 hl
        · refine lv_aload_n hx hb dX4_append_24 rfl (lv_at hl 1 rfl) ?_
          refine q_getS E hC22 g0 fa_RX4_9 ((kp_R hKp22 g0 (ci := 4) (k := 0) rfl (by decide) rfl).trans htp) dX4_append_25 (fun _ => ?_)
          refine lv_aload_n hx hb dX4_append_28 rfl (lv_at hl 1 rfl) ?_
          refine q_getI E hC22 g0 fa_RX4_39 dX4_append_29 (fun v30 ev30 lv30 uv30 => ?_)
          have qv30 := ev24.symm.trans ev30; subst qv30
          refine lv_iload_n hx hb dX4_append_32 rfl (lv_at hl 2 rfl) ?_
          refine lv_iload_n hx hb dX4_append_33 rfl (lv_at hl 0 rfl) ?_
          refine lv_ishr hx hb dX4_append_34 (lv_topi (fun v31 ev31 => ?_))
          have qs := ev31; have qs2 := ev21
          refine lv_i2b hx hb dX4_append_35 rfl (lv_topi (fun v32 ev32 => ?_))
          have qb := ev32
          refine q_bast E hC22 hS22 gtp (by decide) rfl rfl (fun _ => rfl) (i_in (a := v24.toInt) rfl (by omega) (by omega)) dX4_append_36 (fun H33 locs33 hC33 hS33 U33 => ?_)
          have hKp33 := Kp.upA gtp rfl (by decide) rfl U33 hKp22
          have m34 : (sI H33 h0 (X.1.2 4 1)).toInt = (sI H22 h0 (X.1.2 4 1)).toInt := congrArg Int32.toInt (up_nI U33 (ne_k g0 gtp (by decide)))
          have hap2 := APP.step hap U33 (by rw [i_ix rfl]; omega) (by omega) (s := _) (by rw [qb, qs]; rfl) (qs2.trans (by omega))
          refine lv_aload_n hx hb dX4_append_37 rfl (lv_at hl 1 rfl) ?_
          refine lv_dup hx hb dX4_append_38 rfl ?_
          have e36 := (up_nI U33 (ne_k g0 gtp (by decide))).trans ev24
          refine q_getI E hC33 g0 fa_RX4_39 dX4_append_39 (fun v35 ev35 lv35 uv35 => ?_)
          have qv35 := e36.symm.trans ev35; subst qv35
          have m37 : (sI H33 h0 (X.1.2 4 1)).toInt = v24.toInt := (congrArg Int32.toInt ev35).trans rfl
          refine lv_iconst (v := 1) hx hb dX4_append_42 rfl ?_
          refine lv_iadd hx hb dX4_append_43 (lv_topi (fun v38 ev38 => ?_))
          have ev38i : v38.toInt = (v24.toInt + 1) := i_add ev38 rfl (by decide) (by omega) (by omega)
          refine q_put E hC33 hS33 g0 fp_RX4_39 (tv_I ev38i (by omega) (by omega)) rfl rfl dX4_append_44 (fun H39 locs39 hC39 hS39 U39 => ?_)
          have hKp39 := Kp.upO E g0 fp_RX4_39 rfl U39 hKp33
          have e40 := up_I U39
          have m41 : (sI H39 h0 (X.1.2 4 1)).toInt = (v24.toInt + 1) := (congrArg Int32.toInt e40).trans ev38i
          have hap3 := hap2.ne U39 (nek g0 gtp (by decide))
          obtain ⟨v42, ev42⟩ : ∃ z, z = v21 + Int32.ofInt (-8) := ⟨_, rfl⟩
          have ev42i : v42.toInt = (z21 + (-8)) := i_add ev42 ev21 (by decide) (by omega) (by omega)
          refine lv_iinc hx hb dX4_append_47 hl (k := 0) rfl ev42.symm (by decide) rfl (fun ls hl => ?_)
          replace hl : lv_has ls 3 [(2, .int v42), (0, .ref h0), (1, .int p1)] := hl
          refine lv_goto (tgt := 3) hx hb dX4_append_50 rfl ?_
          exact ih22 H39 locs39 v42 ((z21 + (-8))) ls (ms_lt hm22 (by omega) (by omega)) ev42i (by omega) (by omega) (by omega) (by first | exact hap | exact hap3.cast rfl (by omega)) hC39 hS39 hKp39 hl
  exact L3 _ H0 [] 24 24 ls (Nat.lt_succ_self _) (by decide) (by omega) (by omega) (by omega) (APP.nil) hC0 hS0 hKp0 hl
set_option maxRecDepth 100000 in
set_option maxHeartbeats 4000000 in
theorem m_X11_feed (l : Launch) (X : xW) (Γ : Nat → Option Nat) (H0 : Heap) (hC0 : Conf X Γ H0) (h0 : Nat) (g0 : Γ h0 = some 0) (p1 : Int32) {a1 : Int} (e1 : p1.toInt = a1) (p2 : Int32) {a2 : Int} (e2 : p2.toInt = a2) (p3 : Int32) {a3 : Int} (e3 : p3.toInt = a3) (p4 : Int32) {a4 : Int} (e4 : p4.toInt = a4) (p5 : Int32) {a5 : Int} (e5 : p5.toInt = a5) (ra : Nat) (gra : Γ ra = some 2) (ur : ∀ a, Γ a = some 2 → a = ra) (tp : Nat) (htp : sR H0 ra (X.1.2 4 0) = some tp) (gtp : Γ tp = some 25) : Ctr l X Γ yX11_feed cX11_feed 6 (some .int) 1 [.ref h0, .int p1, .int p2, .int p3, .int p4, .int p5] H0 (QI X Γ (fun v H1 => Kp X Γ [31, 32, 33, 34, 37, 39, 40, 50, 51, 52, 53, 54, 55, 56, 57, 58, 59, 60, 61, 62, 63, 65, 67, 68, 69, 70, 71, 72] H0 H1 ∧ (((880 < (sI H0 ra (X.1.2 4 1)).toInt ∧ v.toInt = -1 ∧ (sI H1 ra (X.1.2 4 1)).toInt = (sI H0 ra (X.1.2 4 1)).toInt) ∨ ((sI H0 ra (X.1.2 4 1)).toInt ≤ 880 ∧ v.toInt = (sI H0 ra (X.1.2 4 1)).toInt + 20 ∧ (sI H1 ra (X.1.2 4 1)).toInt = (sI H0 ra (X.1.2 4 1)).toInt + 20)) ∧ (FDR H0 H1 tp (sI H0 ra (X.1.2 4 1)).toInt p1 p2 p3 p4 p5)))) := by
  refine q_enterI (own := "SnowForts") (by decide) rfl (Nat.le_of_ble_eq_true rfl) ?_
  intro p e s m args below meth c ls Qz E hl ret hS0
  have hx := E.1; have hb := E.2.1
  have hKp0 : Kp X Γ [31, 32, 33, 34, 37, 39, 40, 50, 51, 52, 53, 54, 55, 56, 57, 58, 59, 60, 61, 62, 63, 65, 67, 68, 69, 70, 71, 72] H0 H0 := Kp.rf
  have hl : lv_has ls 6 [(0, .ref h0), (1, .int p1), (2, .int p2), (3, .int p3), (4, .int p4), (5, .int p5)] := hl
  refine lv_aload_n hx hb dX11_feed_0 rfl (lv_at hl 0 rfl) ?_
  refine q_getU E hC0 g0 fa_RX11_19 ur dX11_feed_1 ?_
  refine q_getI E hC0 gra fa_RX11_171 dX11_feed_4 (fun v21 ev21 lv21 uv21 => ?_)
  have m22 : (sI H0 ra (X.1.2 4 1)).toInt = v21.toInt := congrArg Int32.toInt ev21
  refine lv_sipush (v := 880) hx hb dX11_feed_7 rfl ?_
  refine q_icmp_le hx hb (a := v21.toInt) (b := 880) rfl (by decide) (tgt := 15) dX11_feed_10 rfl (fun c23 => ?_) (fun c23 => ?_)
  · refine lv_aload_n hx hb dX11_feed_15 rfl (lv_at hl 0 rfl) ?_
    refine q_getU E hC0 g0 fa_RX11_19 ur dX11_feed_16 ?_
    refine lv_iload_n hx hb dX11_feed_19 rfl (lv_at hl 1 rfl) ?_
    refine q_goV (q_runV (As := [.int p1]) (rest := []) E hC0 hS0 (m_X4_append l X Γ H0 hC0 ra gra p1 (a1 := a1) e1 tp htp gtp (by omega)) cw_X4_append cl_RX11_174 gra ⟨rfl, rfl⟩ rfl hl.1 rfl (Nat.zero_le _) (by decide) dX11_feed_20) hS0 (fun H24 locs24 hr24 hC24 hS24 => ?_)
    obtain ⟨hp24, hr24⟩ := hr24
    have hKp24 := hKp0.tr (hp24.mono rfl)
    obtain ⟨f24_0, f24_1⟩ := hr24
    have a1 := f24_1
    refine lv_aload_n hx hb dX11_feed_23 rfl (lv_at hl 0 rfl) ?_
    refine q_getU E hC24 g0 fa_RX11_19 ur dX11_feed_24 ?_
    refine lv_iload_n hx hb dX11_feed_27 rfl (lv_at hl 2 rfl) ?_
    refine q_goV (q_runV (As := [.int p2]) (rest := []) E hC24 hS24 (m_X4_append l X Γ H24 hC24 ra gra p2 (a1 := a2) e2 tp ((kp_R hKp24 gra (ci := 4) (k := 0) rfl (by decide) rfl).trans htp) gtp (by omega)) cw_X4_append cl_RX11_174 gra ⟨rfl, rfl⟩ rfl hl.1 rfl (Nat.zero_le _) (by decide) dX11_feed_28) hS24 (fun H25 locs25 hr25 hC25 hS25 => ?_)
    obtain ⟨hp25, hr25⟩ := hr25
    have hKp25 := hKp24.tr (hp25.mono rfl)
    obtain ⟨f25_0, f25_1⟩ := hr25
    have a2 := f25_1
    refine lv_aload_n hx hb dX11_feed_31 rfl (lv_at hl 0 rfl) ?_
    refine q_getU E hC25 g0 fa_RX11_19 ur dX11_feed_32 ?_
    refine lv_iload_n hx hb dX11_feed_35 rfl (lv_at hl 3 rfl) ?_
    refine q_goV (q_runV (As := [.int p3]) (rest := []) E hC25 hS25 (m_X4_append l X Γ H25 hC25 ra gra p3 (a1 := a3) e3 tp ((kp_R hKp25 gra (ci := 4) (k := 0) rfl (by decide) rfl).trans htp) gtp (by omega)) cw_X4_append cl_RX11_174 gra ⟨rfl, rfl⟩ rfl hl.1 rfl (Nat.zero_le _) (by decide) dX11_feed_36) hS25 (fun H26 locs26 hr26 hC26 hS26 => ?_)
    obtain ⟨hp26, hr26⟩ := hr26
    have hKp26 := hKp25.tr (hp26.mono rfl)
    obtain ⟨f26_0, f26_1⟩ := hr26
    have a3 := f26_1
    refine lv_aload_n hx hb dX11_feed_39 rfl (lv_at hl 0 rfl) ?_
    refine q_getU E hC26 g0 fa_RX11_19 ur dX11_feed_40 ?_
    refine lv_iload hx hb dX11_feed_43 (lv_at hl 4 rfl) ?_
    refine q_goV (q_runV (As := [.int p4]) (rest := []) E hC26 hS26 (m_X4_append l X Γ H26 hC26 ra gra p4 (a1 := a4) e4 tp ((kp_R hKp26 gra (ci := 4) (k := 0) rfl (by decide) rfl).trans htp) gtp (by omega)) cw_X4_append cl_RX11_174 gra ⟨rfl, rfl⟩ rfl hl.1 rfl (Nat.zero_le _) (by decide) dX11_feed_45) hS26 (fun H27 locs27 hr27 hC27 hS27 => ?_)
    obtain ⟨hp27, hr27⟩ := hr27
    have hKp27 := hKp26.tr (hp27.mono rfl)
    obtain ⟨f27_0, f27_1⟩ := hr27
    have a4 := f27_1
    refine lv_aload_n hx hb dX11_feed_48 rfl (lv_at hl 0 rfl) ?_
    refine q_getU E hC27 g0 fa_RX11_19 ur dX11_feed_49 ?_
    refine lv_iload hx hb dX11_feed_52 (lv_at hl 5 rfl) ?_
    refine q_goV (q_runV (As := [.int p5]) (rest := []) E hC27 hS27 (m_X4_append l X Γ H27 hC27 ra gra p5 (a1 := a5) e5 tp ((kp_R hKp27 gra (ci := 4) (k := 0) rfl (by decide) rfl).trans htp) gtp (by omega)) cw_X4_append cl_RX11_174 gra ⟨rfl, rfl⟩ rfl hl.1 rfl (Nat.zero_le _) (by decide) dX11_feed_54) hS27 (fun H28 locs28 hr28 hC28 hS28 => ?_)
    obtain ⟨hp28, hr28⟩ := hr28
    have hKp28 := hKp27.tr (hp28.mono rfl)
    obtain ⟨f28_0, f28_1⟩ := hr28
    have a5 := f28_1
    refine lv_aload_n hx hb dX11_feed_57 rfl (lv_at hl 0 rfl) ?_
    refine q_getU E hC28 g0 fa_RX11_19 ur dX11_feed_58 ?_
    refine q_getI E hC28 gra fa_RX11_171 dX11_feed_61 (fun v29 ev29 lv29 uv29 => ?_)
    have m30 : (sI H28 ra (X.1.2 4 1)).toInt = v29.toInt := congrArg Int32.toInt ev29
    have hfd : FDR H0 H28 tp (sI H0 ra (X.1.2 4 1)).toInt p1 p2 p3 p4 p5 := Or.inr ⟨by omega, _, _, _, _, a1.cast (by omega) (by omega), a2.cast (by omega) (by omega), a3.cast (by omega) (by omega), a4.cast (by omega) (by omega), a5.cast (by omega) (by omega)⟩
    have c31 : v29.toInt = v29.toInt := rfl
    exact ret v29 H28 locs28 _ _ dX11_feed_64 ⟨hKp28, ⟨by omega, hfd⟩⟩ hC28 hS28
  · refine lv_iconst (v := (-1)) hx hb dX11_feed_13 rfl ?_
    have hfd : FDR H0 H0 tp (sI H0 ra (X.1.2 4 1)).toInt p1 p2 p3 p4 p5 := Or.inl ⟨by omega, fun _ => rfl⟩
    have c32 : ((-1) : Int32).toInt = (-1) := (by decide)
    exact ret (-1) H0 [] _ _ dX11_feed_14 ⟨hKp0, ⟨by omega, hfd⟩⟩ hC0 hS0
set_option maxRecDepth 100000 in
set_option maxHeartbeats 4000000 in
theorem m_X9_clear (l : Launch) (X : xW) (Γ : Nat → Option Nat) (H0 : Heap) (hC0 : Conf X Γ H0) (h0 : Nat) (g0 : Γ h0 = some 5) (sn wl su lw ic kn hd us br ar fi : Nat) (yn : YN X Γ H0 h0 sn wl su lw ic kn hd us br ar fi) : Ctr l X Γ yX9_clear cX9_clear 1 none 1 [.ref h0] H0 (QV X Γ (fun H1 => Kp X Γ [3, 29, 31, 32, 34, 37, 39, 67, 68, 69, 70, 71, 72] H0 H1 ∧ ((YCL X Γ H1 h0) ∧ ((sI H1 h0 (X.1.2 8 3)).toInt = 0) ∧ ((sI H1 h0 (X.1.2 8 4)).toInt = 0) ∧ ((sI H1 h0 (X.1.2 8 5)).toInt = 0) ∧ ((sI H1 h0 (X.1.2 8 6)).toInt = 0) ∧ (aI H1 us 0 = 0) ∧ (aI H1 us 1 = 0) ∧ (aI H1 br 0 = 0) ∧ (aI H1 br 1 = 0)))) := by
  refine q_enterV (own := "SnowForts$Yard") (by decide) rfl (Nat.le_of_ble_eq_true rfl) ?_
  intro p e s m args below meth c ls Qz E hl ret hS0
  have hx := E.1; have hb := E.2.1
  have hKp0 : Kp X Γ [3, 29, 31, 32, 34, 37, 39, 67, 68, 69, 70, 71, 72] H0 H0 := Kp.rf
  have hl : lv_has ls 1 [(0, .ref h0)] := hl
  have gsn := yn.sn.2; have gwl := yn.wl.2; have gsu := yn.su.2; have glw := yn.lw.2; have gic := yn.ic.2; have gkn := yn.kn.2; have ghd := yn.hd.2; have gus := yn.us.2; have gbr := yn.br.2; have gar := yn.ar.2; have gfi := yn.fi.2
  have har := yn.ar.1
  refine lv_aload_n hx hb dX9_clear_0 rfl (lv_at hl 0 rfl) ?_
  refine lv_iconst (v := 2) hx hb dX9_clear_1 rfl ?_
  refine q_put E hC0 hS0 g0 fp_RX9_9 (tv_I (show (2 : Int32).toInt = 2 from by decide) (by omega) (by omega)) rfl rfl dX9_clear_2 (fun H21 locs21 hC21 hS21 U21 => ?_)
  have hKp21 := Kp.upO E g0 fp_RX9_9 rfl U21 hKp0
  have e22 := up_I U21
  have m23 : (sI H21 h0 (X.1.2 8 0)).toInt = 2 := (congrArg Int32.toInt e22).trans (show (2 : Int32).toInt = 2 from by decide)
  have m24 : aI H21 us (0) = aI H0 us (0) := aI_ne U21 (nek g0 gus (by decide))
  have m25 : aI H21 us (1) = aI H0 us (1) := aI_ne U21 (nek g0 gus (by decide))
  have m26 : aI H21 br (0) = aI H0 br (0) := aI_ne U21 (nek g0 gbr (by decide))
  have m27 : aI H21 br (1) = aI H0 br (1) := aI_ne U21 (nek g0 gbr (by decide))
  have m28 : (sI H21 h0 (X.1.2 8 1)).toInt = (sI H0 h0 (X.1.2 8 1)).toInt := congrArg Int32.toInt (up_nI U21 (ne_f E 8 1 0 rfl (by decide) (by decide) (by decide)))
  have m29 : (sI H21 h0 (X.1.2 8 2)).toInt = (sI H0 h0 (X.1.2 8 2)).toInt := congrArg Int32.toInt (up_nI U21 (ne_f E 8 2 0 rfl (by decide) (by decide) (by decide)))
  have m30 : (sI H21 h0 (X.1.2 8 3)).toInt = (sI H0 h0 (X.1.2 8 3)).toInt := congrArg Int32.toInt (up_nI U21 (ne_f E 8 3 0 rfl (by decide) (by decide) (by decide)))
  have m31 : (sI H21 h0 (X.1.2 8 4)).toInt = (sI H0 h0 (X.1.2 8 4)).toInt := congrArg Int32.toInt (up_nI U21 (ne_f E 8 4 0 rfl (by decide) (by decide) (by decide)))
  have m32 : (sI H21 h0 (X.1.2 8 5)).toInt = (sI H0 h0 (X.1.2 8 5)).toInt := congrArg Int32.toInt (up_nI U21 (ne_f E 8 5 0 rfl (by decide) (by decide) (by decide)))
  have m33 : (sI H21 h0 (X.1.2 8 6)).toInt = (sI H0 h0 (X.1.2 8 6)).toInt := congrArg Int32.toInt (up_nI U21 (ne_f E 8 6 0 rfl (by decide) (by decide) (by decide)))
  refine lv_aload_n hx hb dX9_clear_5 rfl (lv_at hl 0 rfl) ?_
  refine lv_iconst (v := 1) hx hb dX9_clear_6 rfl ?_
  refine q_put E hC21 hS21 g0 fp_RX9_15 (tv_I (show (1 : Int32).toInt = 1 from by decide) (by omega) (by omega)) rfl rfl dX9_clear_7 (fun H34 locs34 hC34 hS34 U34 => ?_)
  have hKp34 := Kp.upO E g0 fp_RX9_15 rfl U34 hKp21
  have e35 := up_I U34
  have m36 : (sI H34 h0 (X.1.2 8 1)).toInt = 1 := (congrArg Int32.toInt e35).trans (show (1 : Int32).toInt = 1 from by decide)
  have m37 : aI H34 us (0) = aI H21 us (0) := aI_ne U34 (nek g0 gus (by decide))
  have m38 : aI H34 us (1) = aI H21 us (1) := aI_ne U34 (nek g0 gus (by decide))
  have m39 : aI H34 br (0) = aI H21 br (0) := aI_ne U34 (nek g0 gbr (by decide))
  have m40 : aI H34 br (1) = aI H21 br (1) := aI_ne U34 (nek g0 gbr (by decide))
  have m41 : (sI H34 h0 (X.1.2 8 0)).toInt = (sI H21 h0 (X.1.2 8 0)).toInt := congrArg Int32.toInt (up_nI U34 (ne_f E 8 0 1 rfl (by decide) (by decide) (by decide)))
  have m42 : (sI H34 h0 (X.1.2 8 2)).toInt = (sI H21 h0 (X.1.2 8 2)).toInt := congrArg Int32.toInt (up_nI U34 (ne_f E 8 2 1 rfl (by decide) (by decide) (by decide)))
  have m43 : (sI H34 h0 (X.1.2 8 3)).toInt = (sI H21 h0 (X.1.2 8 3)).toInt := congrArg Int32.toInt (up_nI U34 (ne_f E 8 3 1 rfl (by decide) (by decide) (by decide)))
  have m44 : (sI H34 h0 (X.1.2 8 4)).toInt = (sI H21 h0 (X.1.2 8 4)).toInt := congrArg Int32.toInt (up_nI U34 (ne_f E 8 4 1 rfl (by decide) (by decide) (by decide)))
  have m45 : (sI H34 h0 (X.1.2 8 5)).toInt = (sI H21 h0 (X.1.2 8 5)).toInt := congrArg Int32.toInt (up_nI U34 (ne_f E 8 5 1 rfl (by decide) (by decide) (by decide)))
  have m46 : (sI H34 h0 (X.1.2 8 6)).toInt = (sI H21 h0 (X.1.2 8 6)).toInt := congrArg Int32.toInt (up_nI U34 (ne_f E 8 6 1 rfl (by decide) (by decide) (by decide)))
  refine lv_aload_n hx hb dX9_clear_10 rfl (lv_at hl 0 rfl) ?_
  refine lv_iconst (v := 0) hx hb dX9_clear_11 rfl ?_
  refine q_put E hC34 hS34 g0 fp_RX9_52 (tv_I (show (0 : Int32).toInt = 0 from by decide) (by omega) (by omega)) rfl rfl dX9_clear_12 (fun H47 locs47 hC47 hS47 U47 => ?_)
  have hKp47 := Kp.upO E g0 fp_RX9_52 rfl U47 hKp34
  have e48 := up_I U47
  have m49 : (sI H47 h0 (X.1.2 8 2)).toInt = 0 := (congrArg Int32.toInt e48).trans (show (0 : Int32).toInt = 0 from by decide)
  have m50 : aI H47 us (0) = aI H34 us (0) := aI_ne U47 (nek g0 gus (by decide))
  have m51 : aI H47 us (1) = aI H34 us (1) := aI_ne U47 (nek g0 gus (by decide))
  have m52 : aI H47 br (0) = aI H34 br (0) := aI_ne U47 (nek g0 gbr (by decide))
  have m53 : aI H47 br (1) = aI H34 br (1) := aI_ne U47 (nek g0 gbr (by decide))
  have m54 : (sI H47 h0 (X.1.2 8 0)).toInt = (sI H34 h0 (X.1.2 8 0)).toInt := congrArg Int32.toInt (up_nI U47 (ne_f E 8 0 2 rfl (by decide) (by decide) (by decide)))
  have m55 : (sI H47 h0 (X.1.2 8 1)).toInt = (sI H34 h0 (X.1.2 8 1)).toInt := congrArg Int32.toInt (up_nI U47 (ne_f E 8 1 2 rfl (by decide) (by decide) (by decide)))
  have m56 : (sI H47 h0 (X.1.2 8 3)).toInt = (sI H34 h0 (X.1.2 8 3)).toInt := congrArg Int32.toInt (up_nI U47 (ne_f E 8 3 2 rfl (by decide) (by decide) (by decide)))
  have m57 : (sI H47 h0 (X.1.2 8 4)).toInt = (sI H34 h0 (X.1.2 8 4)).toInt := congrArg Int32.toInt (up_nI U47 (ne_f E 8 4 2 rfl (by decide) (by decide) (by decide)))
  have m58 : (sI H47 h0 (X.1.2 8 5)).toInt = (sI H34 h0 (X.1.2 8 5)).toInt := congrArg Int32.toInt (up_nI U47 (ne_f E 8 5 2 rfl (by decide) (by decide) (by decide)))
  have m59 : (sI H47 h0 (X.1.2 8 6)).toInt = (sI H34 h0 (X.1.2 8 6)).toInt := congrArg Int32.toInt (up_nI U47 (ne_f E 8 6 2 rfl (by decide) (by decide) (by decide)))
  refine lv_aload_n hx hb dX9_clear_15 rfl (lv_at hl 0 rfl) ?_
  refine lv_iconst (v := 0) hx hb dX9_clear_16 rfl ?_
  refine q_put E hC47 hS47 g0 fp_RX9_55 (tv_I (show (0 : Int32).toInt = 0 from by decide) (by omega) (by omega)) rfl rfl dX9_clear_17 (fun H60 locs60 hC60 hS60 U60 => ?_)
  have hKp60 := Kp.upO E g0 fp_RX9_55 rfl U60 hKp47
  have e61 := up_I U60
  have m62 : (sI H60 h0 (X.1.2 8 3)).toInt = 0 := (congrArg Int32.toInt e61).trans (show (0 : Int32).toInt = 0 from by decide)
  have m63 : aI H60 us (0) = aI H47 us (0) := aI_ne U60 (nek g0 gus (by decide))
  have m64 : aI H60 us (1) = aI H47 us (1) := aI_ne U60 (nek g0 gus (by decide))
  have m65 : aI H60 br (0) = aI H47 br (0) := aI_ne U60 (nek g0 gbr (by decide))
  have m66 : aI H60 br (1) = aI H47 br (1) := aI_ne U60 (nek g0 gbr (by decide))
  have m67 : (sI H60 h0 (X.1.2 8 0)).toInt = (sI H47 h0 (X.1.2 8 0)).toInt := congrArg Int32.toInt (up_nI U60 (ne_f E 8 0 3 rfl (by decide) (by decide) (by decide)))
  have m68 : (sI H60 h0 (X.1.2 8 1)).toInt = (sI H47 h0 (X.1.2 8 1)).toInt := congrArg Int32.toInt (up_nI U60 (ne_f E 8 1 3 rfl (by decide) (by decide) (by decide)))
  have m69 : (sI H60 h0 (X.1.2 8 2)).toInt = (sI H47 h0 (X.1.2 8 2)).toInt := congrArg Int32.toInt (up_nI U60 (ne_f E 8 2 3 rfl (by decide) (by decide) (by decide)))
  have m70 : (sI H60 h0 (X.1.2 8 4)).toInt = (sI H47 h0 (X.1.2 8 4)).toInt := congrArg Int32.toInt (up_nI U60 (ne_f E 8 4 3 rfl (by decide) (by decide) (by decide)))
  have m71 : (sI H60 h0 (X.1.2 8 5)).toInt = (sI H47 h0 (X.1.2 8 5)).toInt := congrArg Int32.toInt (up_nI U60 (ne_f E 8 5 3 rfl (by decide) (by decide) (by decide)))
  have m72 : (sI H60 h0 (X.1.2 8 6)).toInt = (sI H47 h0 (X.1.2 8 6)).toInt := congrArg Int32.toInt (up_nI U60 (ne_f E 8 6 3 rfl (by decide) (by decide) (by decide)))
  refine lv_aload_n hx hb dX9_clear_20 rfl (lv_at hl 0 rfl) ?_
  refine lv_iconst (v := 0) hx hb dX9_clear_21 rfl ?_
  refine q_put E hC60 hS60 g0 fp_RX9_58 tv_F rfl rfl dX9_clear_22 (fun H73 locs73 hC73 hS73 U73 => ?_)
  have hKp73 := Kp.upO E g0 fp_RX9_58 rfl U73 hKp60
  have e74 := up_I U73
  have m75 : (sI H73 h0 (X.1.2 8 4)).toInt = 0 := (congrArg Int32.toInt e74).trans (show (0 : Int32).toInt = 0 from by decide)
  have m76 : aI H73 us (0) = aI H60 us (0) := aI_ne U73 (nek g0 gus (by decide))
  have m77 : aI H73 us (1) = aI H60 us (1) := aI_ne U73 (nek g0 gus (by decide))
  have m78 : aI H73 br (0) = aI H60 br (0) := aI_ne U73 (nek g0 gbr (by decide))
  have m79 : aI H73 br (1) = aI H60 br (1) := aI_ne U73 (nek g0 gbr (by decide))
  have m80 : (sI H73 h0 (X.1.2 8 0)).toInt = (sI H60 h0 (X.1.2 8 0)).toInt := congrArg Int32.toInt (up_nI U73 (ne_f E 8 0 4 rfl (by decide) (by decide) (by decide)))
  have m81 : (sI H73 h0 (X.1.2 8 1)).toInt = (sI H60 h0 (X.1.2 8 1)).toInt := congrArg Int32.toInt (up_nI U73 (ne_f E 8 1 4 rfl (by decide) (by decide) (by decide)))
  have m82 : (sI H73 h0 (X.1.2 8 2)).toInt = (sI H60 h0 (X.1.2 8 2)).toInt := congrArg Int32.toInt (up_nI U73 (ne_f E 8 2 4 rfl (by decide) (by decide) (by decide)))
  have m83 : (sI H73 h0 (X.1.2 8 3)).toInt = (sI H60 h0 (X.1.2 8 3)).toInt := congrArg Int32.toInt (up_nI U73 (ne_f E 8 3 4 rfl (by decide) (by decide) (by decide)))
  have m84 : (sI H73 h0 (X.1.2 8 5)).toInt = (sI H60 h0 (X.1.2 8 5)).toInt := congrArg Int32.toInt (up_nI U73 (ne_f E 8 5 4 rfl (by decide) (by decide) (by decide)))
  have m85 : (sI H73 h0 (X.1.2 8 6)).toInt = (sI H60 h0 (X.1.2 8 6)).toInt := congrArg Int32.toInt (up_nI U73 (ne_f E 8 6 4 rfl (by decide) (by decide) (by decide)))
  refine lv_aload_n hx hb dX9_clear_25 rfl (lv_at hl 0 rfl) ?_
  refine lv_iconst (v := 0) hx hb dX9_clear_26 rfl ?_
  refine q_put E hC73 hS73 g0 fp_RX9_61 tv_F rfl rfl dX9_clear_27 (fun H86 locs86 hC86 hS86 U86 => ?_)
  have hKp86 := Kp.upO E g0 fp_RX9_61 rfl U86 hKp73
  have e87 := up_I U86
  have m88 : (sI H86 h0 (X.1.2 8 5)).toInt = 0 := (congrArg Int32.toInt e87).trans (show (0 : Int32).toInt = 0 from by decide)
  have m89 : aI H86 us (0) = aI H73 us (0) := aI_ne U86 (nek g0 gus (by decide))
  have m90 : aI H86 us (1) = aI H73 us (1) := aI_ne U86 (nek g0 gus (by decide))
  have m91 : aI H86 br (0) = aI H73 br (0) := aI_ne U86 (nek g0 gbr (by decide))
  have m92 : aI H86 br (1) = aI H73 br (1) := aI_ne U86 (nek g0 gbr (by decide))
  have m93 : (sI H86 h0 (X.1.2 8 0)).toInt = (sI H73 h0 (X.1.2 8 0)).toInt := congrArg Int32.toInt (up_nI U86 (ne_f E 8 0 5 rfl (by decide) (by decide) (by decide)))
  have m94 : (sI H86 h0 (X.1.2 8 1)).toInt = (sI H73 h0 (X.1.2 8 1)).toInt := congrArg Int32.toInt (up_nI U86 (ne_f E 8 1 5 rfl (by decide) (by decide) (by decide)))
  have m95 : (sI H86 h0 (X.1.2 8 2)).toInt = (sI H73 h0 (X.1.2 8 2)).toInt := congrArg Int32.toInt (up_nI U86 (ne_f E 8 2 5 rfl (by decide) (by decide) (by decide)))
  have m96 : (sI H86 h0 (X.1.2 8 3)).toInt = (sI H73 h0 (X.1.2 8 3)).toInt := congrArg Int32.toInt (up_nI U86 (ne_f E 8 3 5 rfl (by decide) (by decide) (by decide)))
  have m97 : (sI H86 h0 (X.1.2 8 4)).toInt = (sI H73 h0 (X.1.2 8 4)).toInt := congrArg Int32.toInt (up_nI U86 (ne_f E 8 4 5 rfl (by decide) (by decide) (by decide)))
  have m98 : (sI H86 h0 (X.1.2 8 6)).toInt = (sI H73 h0 (X.1.2 8 6)).toInt := congrArg Int32.toInt (up_nI U86 (ne_f E 8 6 5 rfl (by decide) (by decide) (by decide)))
  refine lv_aload_n hx hb dX9_clear_30 rfl (lv_at hl 0 rfl) ?_
  refine lv_iconst (v := 0) hx hb dX9_clear_31 rfl ?_
  refine q_put E hC86 hS86 g0 fp_RX9_64 tv_F rfl rfl dX9_clear_32 (fun H99 locs99 hC99 hS99 U99 => ?_)
  have hKp99 := Kp.upO E g0 fp_RX9_64 rfl U99 hKp86
  have e100 := up_I U99
  have m101 : (sI H99 h0 (X.1.2 8 6)).toInt = 0 := (congrArg Int32.toInt e100).trans (show (0 : Int32).toInt = 0 from by decide)
  have m102 : aI H99 us (0) = aI H86 us (0) := aI_ne U99 (nek g0 gus (by decide))
  have m103 : aI H99 us (1) = aI H86 us (1) := aI_ne U99 (nek g0 gus (by decide))
  have m104 : aI H99 br (0) = aI H86 br (0) := aI_ne U99 (nek g0 gbr (by decide))
  have m105 : aI H99 br (1) = aI H86 br (1) := aI_ne U99 (nek g0 gbr (by decide))
  have m106 : (sI H99 h0 (X.1.2 8 0)).toInt = (sI H86 h0 (X.1.2 8 0)).toInt := congrArg Int32.toInt (up_nI U99 (ne_f E 8 0 6 rfl (by decide) (by decide) (by decide)))
  have m107 : (sI H99 h0 (X.1.2 8 1)).toInt = (sI H86 h0 (X.1.2 8 1)).toInt := congrArg Int32.toInt (up_nI U99 (ne_f E 8 1 6 rfl (by decide) (by decide) (by decide)))
  have m108 : (sI H99 h0 (X.1.2 8 2)).toInt = (sI H86 h0 (X.1.2 8 2)).toInt := congrArg Int32.toInt (up_nI U99 (ne_f E 8 2 6 rfl (by decide) (by decide) (by decide)))
  have m109 : (sI H99 h0 (X.1.2 8 3)).toInt = (sI H86 h0 (X.1.2 8 3)).toInt := congrArg Int32.toInt (up_nI U99 (ne_f E 8 3 6 rfl (by decide) (by decide) (by decide)))
  have m110 : (sI H99 h0 (X.1.2 8 4)).toInt = (sI H86 h0 (X.1.2 8 4)).toInt := congrArg Int32.toInt (up_nI U99 (ne_f E 8 4 6 rfl (by decide) (by decide) (by decide)))
  have m111 : (sI H99 h0 (X.1.2 8 5)).toInt = (sI H86 h0 (X.1.2 8 5)).toInt := congrArg Int32.toInt (up_nI U99 (ne_f E 8 5 6 rfl (by decide) (by decide) (by decide)))
  have gsy := g0
  have yw : (sI H99 h0 (X.1.2 8 0)).toInt = 2 := by omega
  have yh : (sI H99 h0 (X.1.2 8 1)).toInt = 1 := by omega
  have yc : (sI H99 h0 (X.1.2 8 2)).toInt = 0 := by omega
  have zd : (sI H99 h0 (X.1.2 8 3)).toInt = 0 := by omega
  have zm : (sI H99 h0 (X.1.2 8 4)).toInt = 0 := by omega
  have zr : (sI H99 h0 (X.1.2 8 5)).toInt = 0 := by omega
  have zf : (sI H99 h0 (X.1.2 8 6)).toInt = 0 := by omega
  refine lv_aload_n hx hb dX9_clear_35 rfl (lv_at hl 0 rfl) ?_
  refine q_getS E hC99 g0 fa_RX9_18 (yn.kp g0 hKp99 rfl).hd.1 dX9_clear_36 (fun _ => ?_)
  refine lv_iconst (v := 0) hx hb dX9_clear_39 rfl ?_
  refine q_goV (q_runS (As := [.ref hd, .int 0]) (rest := []) E hS99 (m_fillI l X Γ H99 hC99 hd ghd (by decide) rfl rfl (fun _ => rfl) (by decide) 0 (by decide)) cw_J7_fill_53178 cl_RX9_67 rfl hl.1 rfl (Nat.zero_le _) (by decide) dX9_clear_40) hS99 (fun H112 locs112 U112 hC112 hS112 => ?_)
  obtain ⟨U112, F112⟩ := U112
  have hKp112 := Kp.upC ghd rfl (by decide) rfl U112 hKp99
  have m113 : aI H112 us (0) = aI H99 us (0) := aI_cp U112 (nek gus ghd (by decide))
  have m114 : aI H112 us (1) = aI H99 us (1) := aI_cp U112 (nek gus ghd (by decide))
  have m115 : aI H112 br (0) = aI H99 br (0) := aI_cp U112 (nek gbr ghd (by decide))
  have m116 : aI H112 br (1) = aI H99 br (1) := aI_cp U112 (nek gbr ghd (by decide))
  have yw : (sI H112 h0 (X.1.2 8 0)).toInt = 2 := (congrArg Int32.toInt (cp_I U112 (nek gsy ghd (by decide)))).trans yw
  have yh : (sI H112 h0 (X.1.2 8 1)).toInt = 1 := (congrArg Int32.toInt (cp_I U112 (nek gsy ghd (by decide)))).trans yh
  have yc : (sI H112 h0 (X.1.2 8 2)).toInt = 0 := (congrArg Int32.toInt (cp_I U112 (nek gsy ghd (by decide)))).trans yc
  have zd : (sI H112 h0 (X.1.2 8 3)).toInt = 0 := (congrArg Int32.toInt (cp_I U112 (nek gsy ghd (by decide)))).trans zd
  have zm : (sI H112 h0 (X.1.2 8 4)).toInt = 0 := (congrArg Int32.toInt (cp_I U112 (nek gsy ghd (by decide)))).trans zm
  have zr : (sI H112 h0 (X.1.2 8 5)).toInt = 0 := (congrArg Int32.toInt (cp_I U112 (nek gsy ghd (by decide)))).trans zr
  have zf : (sI H112 h0 (X.1.2 8 6)).toInt = 0 := (congrArg Int32.toInt (cp_I U112 (nek gsy ghd (by decide)))).trans zf
  have m117 : (sI H112 h0 (X.1.2 8 0)).toInt = (sI H99 h0 (X.1.2 8 0)).toInt := congrArg Int32.toInt (cp_I U112 (nek g0 ghd (by decide)))
  have m118 : (sI H112 h0 (X.1.2 8 1)).toInt = (sI H99 h0 (X.1.2 8 1)).toInt := congrArg Int32.toInt (cp_I U112 (nek g0 ghd (by decide)))
  have m119 : (sI H112 h0 (X.1.2 8 2)).toInt = (sI H99 h0 (X.1.2 8 2)).toInt := congrArg Int32.toInt (cp_I U112 (nek g0 ghd (by decide)))
  have m120 : (sI H112 h0 (X.1.2 8 3)).toInt = (sI H99 h0 (X.1.2 8 3)).toInt := congrArg Int32.toInt (cp_I U112 (nek g0 ghd (by decide)))
  have m121 : (sI H112 h0 (X.1.2 8 4)).toInt = (sI H99 h0 (X.1.2 8 4)).toInt := congrArg Int32.toInt (cp_I U112 (nek g0 ghd (by decide)))
  have m122 : (sI H112 h0 (X.1.2 8 5)).toInt = (sI H99 h0 (X.1.2 8 5)).toInt := congrArg Int32.toInt (cp_I U112 (nek g0 ghd (by decide)))
  have m123 : (sI H112 h0 (X.1.2 8 6)).toInt = (sI H99 h0 (X.1.2 8 6)).toInt := congrArg Int32.toInt (cp_I U112 (nek g0 ghd (by decide)))
  refine lv_aload_n hx hb dX9_clear_43 rfl (lv_at hl 0 rfl) ?_
  refine q_getS E hC112 g0 fa_RX9_22 (yn.kp g0 hKp112 rfl).us.1 dX9_clear_44 (fun _ => ?_)
  refine lv_iconst (v := 0) hx hb dX9_clear_47 rfl ?_
  refine q_goV (q_runS (As := [.ref us, .int 0]) (rest := []) E hS112 (m_fillI l X Γ H112 hC112 us gus (by decide) rfl rfl (fun _ => rfl) (by decide) 0 (by decide)) cw_J7_fill_53178 cl_RX9_67 rfl hl.1 rfl (Nat.zero_le _) (by decide) dX9_clear_48) hS112 (fun H124 locs124 U124 hC124 hS124 => ?_)
  obtain ⟨U124, F124⟩ := U124
  have hKp124 := Kp.upC gus rfl (by decide) rfl U124 hKp112
  have m127 : aI H124 br (0) = aI H112 br (0) := aI_cp U124 (nek gbr gus (by decide))
  have m128 : aI H124 br (1) = aI H112 br (1) := aI_cp U124 (nek gbr gus (by decide))
  have yw : (sI H124 h0 (X.1.2 8 0)).toInt = 2 := (congrArg Int32.toInt (cp_I U124 (nek gsy gus (by decide)))).trans yw
  have yh : (sI H124 h0 (X.1.2 8 1)).toInt = 1 := (congrArg Int32.toInt (cp_I U124 (nek gsy gus (by decide)))).trans yh
  have yc : (sI H124 h0 (X.1.2 8 2)).toInt = 0 := (congrArg Int32.toInt (cp_I U124 (nek gsy gus (by decide)))).trans yc
  have zd : (sI H124 h0 (X.1.2 8 3)).toInt = 0 := (congrArg Int32.toInt (cp_I U124 (nek gsy gus (by decide)))).trans zd
  have zm : (sI H124 h0 (X.1.2 8 4)).toInt = 0 := (congrArg Int32.toInt (cp_I U124 (nek gsy gus (by decide)))).trans zm
  have zr : (sI H124 h0 (X.1.2 8 5)).toInt = 0 := (congrArg Int32.toInt (cp_I U124 (nek gsy gus (by decide)))).trans zr
  have zf : (sI H124 h0 (X.1.2 8 6)).toInt = 0 := (congrArg Int32.toInt (cp_I U124 (nek gsy gus (by decide)))).trans zf
  have m129 : (sI H124 h0 (X.1.2 8 0)).toInt = (sI H112 h0 (X.1.2 8 0)).toInt := congrArg Int32.toInt (cp_I U124 (nek g0 gus (by decide)))
  have m130 : (sI H124 h0 (X.1.2 8 1)).toInt = (sI H112 h0 (X.1.2 8 1)).toInt := congrArg Int32.toInt (cp_I U124 (nek g0 gus (by decide)))
  have m131 : (sI H124 h0 (X.1.2 8 2)).toInt = (sI H112 h0 (X.1.2 8 2)).toInt := congrArg Int32.toInt (cp_I U124 (nek g0 gus (by decide)))
  have m132 : (sI H124 h0 (X.1.2 8 3)).toInt = (sI H112 h0 (X.1.2 8 3)).toInt := congrArg Int32.toInt (cp_I U124 (nek g0 gus (by decide)))
  have m133 : (sI H124 h0 (X.1.2 8 4)).toInt = (sI H112 h0 (X.1.2 8 4)).toInt := congrArg Int32.toInt (cp_I U124 (nek g0 gus (by decide)))
  have m134 : (sI H124 h0 (X.1.2 8 5)).toInt = (sI H112 h0 (X.1.2 8 5)).toInt := congrArg Int32.toInt (cp_I U124 (nek g0 gus (by decide)))
  have m135 : (sI H124 h0 (X.1.2 8 6)).toInt = (sI H112 h0 (X.1.2 8 6)).toInt := congrArg Int32.toInt (cp_I U124 (nek g0 gus (by decide)))
  have zus0 : aI H124 us 0 = 0 := by unfold aI; rw [F124 _ (by decide)]; rfl
  have zus1 : aI H124 us 1 = 0 := by unfold aI; rw [F124 _ (by decide)]; rfl
  refine lv_aload_n hx hb dX9_clear_51 rfl (lv_at hl 0 rfl) ?_
  refine q_getS E hC124 g0 fa_RX9_25 (yn.kp g0 hKp124 rfl).br.1 dX9_clear_52 (fun _ => ?_)
  refine lv_iconst (v := 0) hx hb dX9_clear_55 rfl ?_
  refine q_goV (q_runS (As := [.ref br, .int 0]) (rest := []) E hS124 (m_fillI l X Γ H124 hC124 br gbr (by decide) rfl rfl (fun _ => rfl) (by decide) 0 (by decide)) cw_J7_fill_53178 cl_RX9_67 rfl hl.1 rfl (Nat.zero_le _) (by decide) dX9_clear_56) hS124 (fun H136 locs136 U136 hC136 hS136 => ?_)
  obtain ⟨U136, F136⟩ := U136
  have hKp136 := Kp.upC gbr rfl (by decide) rfl U136 hKp124
  have m137 : aI H136 us (0) = aI H124 us (0) := aI_cp U136 (nek gus gbr (by decide))
  have m138 : aI H136 us (1) = aI H124 us (1) := aI_cp U136 (nek gus gbr (by decide))
  have yw : (sI H136 h0 (X.1.2 8 0)).toInt = 2 := (congrArg Int32.toInt (cp_I U136 (nek gsy gbr (by decide)))).trans yw
  have yh : (sI H136 h0 (X.1.2 8 1)).toInt = 1 := (congrArg Int32.toInt (cp_I U136 (nek gsy gbr (by decide)))).trans yh
  have yc : (sI H136 h0 (X.1.2 8 2)).toInt = 0 := (congrArg Int32.toInt (cp_I U136 (nek gsy gbr (by decide)))).trans yc
  have zd : (sI H136 h0 (X.1.2 8 3)).toInt = 0 := (congrArg Int32.toInt (cp_I U136 (nek gsy gbr (by decide)))).trans zd
  have zm : (sI H136 h0 (X.1.2 8 4)).toInt = 0 := (congrArg Int32.toInt (cp_I U136 (nek gsy gbr (by decide)))).trans zm
  have zr : (sI H136 h0 (X.1.2 8 5)).toInt = 0 := (congrArg Int32.toInt (cp_I U136 (nek gsy gbr (by decide)))).trans zr
  have zf : (sI H136 h0 (X.1.2 8 6)).toInt = 0 := (congrArg Int32.toInt (cp_I U136 (nek gsy gbr (by decide)))).trans zf
  have m141 : (sI H136 h0 (X.1.2 8 0)).toInt = (sI H124 h0 (X.1.2 8 0)).toInt := congrArg Int32.toInt (cp_I U136 (nek g0 gbr (by decide)))
  have m142 : (sI H136 h0 (X.1.2 8 1)).toInt = (sI H124 h0 (X.1.2 8 1)).toInt := congrArg Int32.toInt (cp_I U136 (nek g0 gbr (by decide)))
  have m143 : (sI H136 h0 (X.1.2 8 2)).toInt = (sI H124 h0 (X.1.2 8 2)).toInt := congrArg Int32.toInt (cp_I U136 (nek g0 gbr (by decide)))
  have m144 : (sI H136 h0 (X.1.2 8 3)).toInt = (sI H124 h0 (X.1.2 8 3)).toInt := congrArg Int32.toInt (cp_I U136 (nek g0 gbr (by decide)))
  have m145 : (sI H136 h0 (X.1.2 8 4)).toInt = (sI H124 h0 (X.1.2 8 4)).toInt := congrArg Int32.toInt (cp_I U136 (nek g0 gbr (by decide)))
  have m146 : (sI H136 h0 (X.1.2 8 5)).toInt = (sI H124 h0 (X.1.2 8 5)).toInt := congrArg Int32.toInt (cp_I U136 (nek g0 gbr (by decide)))
  have m147 : (sI H136 h0 (X.1.2 8 6)).toInt = (sI H124 h0 (X.1.2 8 6)).toInt := congrArg Int32.toInt (cp_I U136 (nek g0 gbr (by decide)))
  have zbr0 : aI H136 br 0 = 0 := by unfold aI; rw [F136 _ (by decide)]; rfl
  have zbr1 : aI H136 br 1 = 0 := by unfold aI; rw [F136 _ (by decide)]; rfl
  refine lv_aload_n hx hb dX9_clear_59 rfl (lv_at hl 0 rfl) ?_
  refine q_getS E hC136 g0 fa_RX9_28 (yn.kp g0 hKp136 rfl).ar.1 dX9_clear_60 (fun _ => ?_)
  refine lv_iconst (v := (-1)) hx hb dX9_clear_63 rfl ?_
  refine q_goV (q_runS (As := [.ref ar, .int (-1)]) (rest := []) E hS136 (m_fillI l X Γ H136 hC136 ar gar (by decide) rfl rfl (fun _ => rfl) (by decide) (-1) (by decide)) cw_J7_fill_53178 cl_RX9_67 rfl hl.1 rfl (Nat.zero_le _) (by decide) dX9_clear_64) hS136 (fun H148 locs148 U148 hC148 hS148 => ?_)
  obtain ⟨U148, F148⟩ := U148
  have hKp148 := Kp.upC gar rfl (by decide) rfl U148 hKp136
  have m149 : aI H148 us (0) = aI H136 us (0) := aI_cp U148 (nek gus gar (by decide))
  have m150 : aI H148 us (1) = aI H136 us (1) := aI_cp U148 (nek gus gar (by decide))
  have m151 : aI H148 br (0) = aI H136 br (0) := aI_cp U148 (nek gbr gar (by decide))
  have m152 : aI H148 br (1) = aI H136 br (1) := aI_cp U148 (nek gbr gar (by decide))
  have yw : (sI H148 h0 (X.1.2 8 0)).toInt = 2 := (congrArg Int32.toInt (cp_I U148 (nek gsy gar (by decide)))).trans yw
  have yh : (sI H148 h0 (X.1.2 8 1)).toInt = 1 := (congrArg Int32.toInt (cp_I U148 (nek gsy gar (by decide)))).trans yh
  have yc : (sI H148 h0 (X.1.2 8 2)).toInt = 0 := (congrArg Int32.toInt (cp_I U148 (nek gsy gar (by decide)))).trans yc
  have zd : (sI H148 h0 (X.1.2 8 3)).toInt = 0 := (congrArg Int32.toInt (cp_I U148 (nek gsy gar (by decide)))).trans zd
  have zm : (sI H148 h0 (X.1.2 8 4)).toInt = 0 := (congrArg Int32.toInt (cp_I U148 (nek gsy gar (by decide)))).trans zm
  have zr : (sI H148 h0 (X.1.2 8 5)).toInt = 0 := (congrArg Int32.toInt (cp_I U148 (nek gsy gar (by decide)))).trans zr
  have zf : (sI H148 h0 (X.1.2 8 6)).toInt = 0 := (congrArg Int32.toInt (cp_I U148 (nek gsy gar (by decide)))).trans zf
  have m153 : (sI H148 h0 (X.1.2 8 0)).toInt = (sI H136 h0 (X.1.2 8 0)).toInt := congrArg Int32.toInt (cp_I U148 (nek g0 gar (by decide)))
  have m154 : (sI H148 h0 (X.1.2 8 1)).toInt = (sI H136 h0 (X.1.2 8 1)).toInt := congrArg Int32.toInt (cp_I U148 (nek g0 gar (by decide)))
  have m155 : (sI H148 h0 (X.1.2 8 2)).toInt = (sI H136 h0 (X.1.2 8 2)).toInt := congrArg Int32.toInt (cp_I U148 (nek g0 gar (by decide)))
  have m156 : (sI H148 h0 (X.1.2 8 3)).toInt = (sI H136 h0 (X.1.2 8 3)).toInt := congrArg Int32.toInt (cp_I U148 (nek g0 gar (by decide)))
  have m157 : (sI H148 h0 (X.1.2 8 4)).toInt = (sI H136 h0 (X.1.2 8 4)).toInt := congrArg Int32.toInt (cp_I U148 (nek g0 gar (by decide)))
  have m158 : (sI H148 h0 (X.1.2 8 5)).toInt = (sI H136 h0 (X.1.2 8 5)).toInt := congrArg Int32.toInt (cp_I U148 (nek g0 gar (by decide)))
  have m159 : (sI H148 h0 (X.1.2 8 6)).toInt = (sI H136 h0 (X.1.2 8 6)).toInt := congrArg Int32.toInt (cp_I U148 (nek g0 gar (by decide)))
  have car : ∀ k : Nat, k < 4 → (sI H148 ar k).toInt = -1 := fun k hk => by rw [F148 k hk]; rfl
  refine lv_aload_n hx hb dX9_clear_67 rfl (lv_at hl 0 rfl) ?_
  refine q_getS E hC148 g0 fa_RX9_31 (yn.kp g0 hKp148 rfl).fi.1 dX9_clear_68 (fun _ => ?_)
  refine lv_iconst (v := 0) hx hb dX9_clear_71 rfl ?_
  refine q_goV (q_runS (As := [.ref fi, .int 0]) (rest := []) E hS148 (m_fillI l X Γ H148 hC148 fi gfi (by decide) rfl rfl (fun _ => rfl) (by decide) 0 (by decide)) cw_J7_fill_53178 cl_RX9_67 rfl hl.1 rfl (Nat.zero_le _) (by decide) dX9_clear_72) hS148 (fun H160 locs160 U160 hC160 hS160 => ?_)
  obtain ⟨U160, F160⟩ := U160
  have hKp160 := Kp.upC gfi rfl (by decide) rfl U160 hKp148
  have m161 : aI H160 us (0) = aI H148 us (0) := aI_cp U160 (nek gus gfi (by decide))
  have m162 : aI H160 us (1) = aI H148 us (1) := aI_cp U160 (nek gus gfi (by decide))
  have m163 : aI H160 br (0) = aI H148 br (0) := aI_cp U160 (nek gbr gfi (by decide))
  have m164 : aI H160 br (1) = aI H148 br (1) := aI_cp U160 (nek gbr gfi (by decide))
  have yw : (sI H160 h0 (X.1.2 8 0)).toInt = 2 := (congrArg Int32.toInt (cp_I U160 (nek gsy gfi (by decide)))).trans yw
  have yh : (sI H160 h0 (X.1.2 8 1)).toInt = 1 := (congrArg Int32.toInt (cp_I U160 (nek gsy gfi (by decide)))).trans yh
  have yc : (sI H160 h0 (X.1.2 8 2)).toInt = 0 := (congrArg Int32.toInt (cp_I U160 (nek gsy gfi (by decide)))).trans yc
  have zd : (sI H160 h0 (X.1.2 8 3)).toInt = 0 := (congrArg Int32.toInt (cp_I U160 (nek gsy gfi (by decide)))).trans zd
  have zm : (sI H160 h0 (X.1.2 8 4)).toInt = 0 := (congrArg Int32.toInt (cp_I U160 (nek gsy gfi (by decide)))).trans zm
  have zr : (sI H160 h0 (X.1.2 8 5)).toInt = 0 := (congrArg Int32.toInt (cp_I U160 (nek gsy gfi (by decide)))).trans zr
  have zf : (sI H160 h0 (X.1.2 8 6)).toInt = 0 := (congrArg Int32.toInt (cp_I U160 (nek gsy gfi (by decide)))).trans zf
  replace car : ∀ k : Nat, k < 4 → (sI H160 ar k).toInt = -1 := fun k hk => by rw [cp_I U160 (nek gar gfi (by decide))]; exact car k hk
  have m165 : (sI H160 h0 (X.1.2 8 0)).toInt = (sI H148 h0 (X.1.2 8 0)).toInt := congrArg Int32.toInt (cp_I U160 (nek g0 gfi (by decide)))
  have m166 : (sI H160 h0 (X.1.2 8 1)).toInt = (sI H148 h0 (X.1.2 8 1)).toInt := congrArg Int32.toInt (cp_I U160 (nek g0 gfi (by decide)))
  have m167 : (sI H160 h0 (X.1.2 8 2)).toInt = (sI H148 h0 (X.1.2 8 2)).toInt := congrArg Int32.toInt (cp_I U160 (nek g0 gfi (by decide)))
  have m168 : (sI H160 h0 (X.1.2 8 3)).toInt = (sI H148 h0 (X.1.2 8 3)).toInt := congrArg Int32.toInt (cp_I U160 (nek g0 gfi (by decide)))
  have m169 : (sI H160 h0 (X.1.2 8 4)).toInt = (sI H148 h0 (X.1.2 8 4)).toInt := congrArg Int32.toInt (cp_I U160 (nek g0 gfi (by decide)))
  have m170 : (sI H160 h0 (X.1.2 8 5)).toInt = (sI H148 h0 (X.1.2 8 5)).toInt := congrArg Int32.toInt (cp_I U160 (nek g0 gfi (by decide)))
  have m171 : (sI H160 h0 (X.1.2 8 6)).toInt = (sI H148 h0 (X.1.2 8 6)).toInt := congrArg Int32.toInt (cp_I U160 (nek g0 gfi (by decide)))
  refine lv_aload_n hx hb dX9_clear_75 rfl (lv_at hl 0 rfl) ?_
  refine q_getS E hC160 g0 fa_RX9_34 (yn.kp g0 hKp160 rfl).sn.1 dX9_clear_76 (fun _ => ?_)
  refine lv_iconst (v := 0) hx hb dX9_clear_79 rfl ?_
  refine q_goV (q_runS (As := [.ref sn, .int 0]) (rest := []) E hS160 (m_fillI l X Γ H160 hC160 sn gsn (by decide) rfl rfl (fun _ => rfl) (by decide) 0 (by decide)) cw_J7_fill_53178 cl_RX9_67 rfl hl.1 rfl (Nat.zero_le _) (by decide) dX9_clear_80) hS160 (fun H172 locs172 U172 hC172 hS172 => ?_)
  obtain ⟨U172, F172⟩ := U172
  have hKp172 := Kp.upC gsn rfl (by decide) rfl U172 hKp160
  have m173 : aI H172 us (0) = aI H160 us (0) := aI_cp U172 (nek gus gsn (by decide))
  have m174 : aI H172 us (1) = aI H160 us (1) := aI_cp U172 (nek gus gsn (by decide))
  have m175 : aI H172 br (0) = aI H160 br (0) := aI_cp U172 (nek gbr gsn (by decide))
  have m176 : aI H172 br (1) = aI H160 br (1) := aI_cp U172 (nek gbr gsn (by decide))
  have yw : (sI H172 h0 (X.1.2 8 0)).toInt = 2 := (congrArg Int32.toInt (cp_I U172 (nek gsy gsn (by decide)))).trans yw
  have yh : (sI H172 h0 (X.1.2 8 1)).toInt = 1 := (congrArg Int32.toInt (cp_I U172 (nek gsy gsn (by decide)))).trans yh
  have yc : (sI H172 h0 (X.1.2 8 2)).toInt = 0 := (congrArg Int32.toInt (cp_I U172 (nek gsy gsn (by decide)))).trans yc
  have zd : (sI H172 h0 (X.1.2 8 3)).toInt = 0 := (congrArg Int32.toInt (cp_I U172 (nek gsy gsn (by decide)))).trans zd
  have zm : (sI H172 h0 (X.1.2 8 4)).toInt = 0 := (congrArg Int32.toInt (cp_I U172 (nek gsy gsn (by decide)))).trans zm
  have zr : (sI H172 h0 (X.1.2 8 5)).toInt = 0 := (congrArg Int32.toInt (cp_I U172 (nek gsy gsn (by decide)))).trans zr
  have zf : (sI H172 h0 (X.1.2 8 6)).toInt = 0 := (congrArg Int32.toInt (cp_I U172 (nek gsy gsn (by decide)))).trans zf
  replace car : ∀ k : Nat, k < 4 → (sI H172 ar k).toInt = -1 := fun k hk => by rw [cp_I U172 (nek gar gsn (by decide))]; exact car k hk
  have m177 : (sI H172 h0 (X.1.2 8 0)).toInt = (sI H160 h0 (X.1.2 8 0)).toInt := congrArg Int32.toInt (cp_I U172 (nek g0 gsn (by decide)))
  have m178 : (sI H172 h0 (X.1.2 8 1)).toInt = (sI H160 h0 (X.1.2 8 1)).toInt := congrArg Int32.toInt (cp_I U172 (nek g0 gsn (by decide)))
  have m179 : (sI H172 h0 (X.1.2 8 2)).toInt = (sI H160 h0 (X.1.2 8 2)).toInt := congrArg Int32.toInt (cp_I U172 (nek g0 gsn (by decide)))
  have m180 : (sI H172 h0 (X.1.2 8 3)).toInt = (sI H160 h0 (X.1.2 8 3)).toInt := congrArg Int32.toInt (cp_I U172 (nek g0 gsn (by decide)))
  have m181 : (sI H172 h0 (X.1.2 8 4)).toInt = (sI H160 h0 (X.1.2 8 4)).toInt := congrArg Int32.toInt (cp_I U172 (nek g0 gsn (by decide)))
  have m182 : (sI H172 h0 (X.1.2 8 5)).toInt = (sI H160 h0 (X.1.2 8 5)).toInt := congrArg Int32.toInt (cp_I U172 (nek g0 gsn (by decide)))
  have m183 : (sI H172 h0 (X.1.2 8 6)).toInt = (sI H160 h0 (X.1.2 8 6)).toInt := congrArg Int32.toInt (cp_I U172 (nek g0 gsn (by decide)))
  refine lv_aload_n hx hb dX9_clear_83 rfl (lv_at hl 0 rfl) ?_
  refine q_getS E hC172 g0 fa_RX9_37 (yn.kp g0 hKp172 rfl).wl.1 dX9_clear_84 (fun _ => ?_)
  refine lv_iconst (v := 0) hx hb dX9_clear_87 rfl ?_
  refine q_goV (q_runS (As := [.ref wl, .int 0]) (rest := []) E hS172 (m_fillI l X Γ H172 hC172 wl gwl (by decide) rfl rfl (fun _ => rfl) (by decide) 0 (by decide)) cw_J7_fill_53178 cl_RX9_67 rfl hl.1 rfl (Nat.zero_le _) (by decide) dX9_clear_88) hS172 (fun H184 locs184 U184 hC184 hS184 => ?_)
  obtain ⟨U184, F184⟩ := U184
  have hKp184 := Kp.upC gwl rfl (by decide) rfl U184 hKp172
  have m185 : aI H184 us (0) = aI H172 us (0) := aI_cp U184 (nek gus gwl (by decide))
  have m186 : aI H184 us (1) = aI H172 us (1) := aI_cp U184 (nek gus gwl (by decide))
  have m187 : aI H184 br (0) = aI H172 br (0) := aI_cp U184 (nek gbr gwl (by decide))
  have m188 : aI H184 br (1) = aI H172 br (1) := aI_cp U184 (nek gbr gwl (by decide))
  have yw : (sI H184 h0 (X.1.2 8 0)).toInt = 2 := (congrArg Int32.toInt (cp_I U184 (nek gsy gwl (by decide)))).trans yw
  have yh : (sI H184 h0 (X.1.2 8 1)).toInt = 1 := (congrArg Int32.toInt (cp_I U184 (nek gsy gwl (by decide)))).trans yh
  have yc : (sI H184 h0 (X.1.2 8 2)).toInt = 0 := (congrArg Int32.toInt (cp_I U184 (nek gsy gwl (by decide)))).trans yc
  have zd : (sI H184 h0 (X.1.2 8 3)).toInt = 0 := (congrArg Int32.toInt (cp_I U184 (nek gsy gwl (by decide)))).trans zd
  have zm : (sI H184 h0 (X.1.2 8 4)).toInt = 0 := (congrArg Int32.toInt (cp_I U184 (nek gsy gwl (by decide)))).trans zm
  have zr : (sI H184 h0 (X.1.2 8 5)).toInt = 0 := (congrArg Int32.toInt (cp_I U184 (nek gsy gwl (by decide)))).trans zr
  have zf : (sI H184 h0 (X.1.2 8 6)).toInt = 0 := (congrArg Int32.toInt (cp_I U184 (nek gsy gwl (by decide)))).trans zf
  replace car : ∀ k : Nat, k < 4 → (sI H184 ar k).toInt = -1 := fun k hk => by rw [cp_I U184 (nek gar gwl (by decide))]; exact car k hk
  have m189 : (sI H184 h0 (X.1.2 8 0)).toInt = (sI H172 h0 (X.1.2 8 0)).toInt := congrArg Int32.toInt (cp_I U184 (nek g0 gwl (by decide)))
  have m190 : (sI H184 h0 (X.1.2 8 1)).toInt = (sI H172 h0 (X.1.2 8 1)).toInt := congrArg Int32.toInt (cp_I U184 (nek g0 gwl (by decide)))
  have m191 : (sI H184 h0 (X.1.2 8 2)).toInt = (sI H172 h0 (X.1.2 8 2)).toInt := congrArg Int32.toInt (cp_I U184 (nek g0 gwl (by decide)))
  have m192 : (sI H184 h0 (X.1.2 8 3)).toInt = (sI H172 h0 (X.1.2 8 3)).toInt := congrArg Int32.toInt (cp_I U184 (nek g0 gwl (by decide)))
  have m193 : (sI H184 h0 (X.1.2 8 4)).toInt = (sI H172 h0 (X.1.2 8 4)).toInt := congrArg Int32.toInt (cp_I U184 (nek g0 gwl (by decide)))
  have m194 : (sI H184 h0 (X.1.2 8 5)).toInt = (sI H172 h0 (X.1.2 8 5)).toInt := congrArg Int32.toInt (cp_I U184 (nek g0 gwl (by decide)))
  have m195 : (sI H184 h0 (X.1.2 8 6)).toInt = (sI H172 h0 (X.1.2 8 6)).toInt := congrArg Int32.toInt (cp_I U184 (nek g0 gwl (by decide)))
  refine lv_aload_n hx hb dX9_clear_91 rfl (lv_at hl 0 rfl) ?_
  refine q_getS E hC184 g0 fa_RX9_40 (yn.kp g0 hKp184 rfl).su.1 dX9_clear_92 (fun _ => ?_)
  refine lv_iconst (v := 0) hx hb dX9_clear_95 rfl ?_
  refine q_goV (q_runS (As := [.ref su, .int 0]) (rest := []) E hS184 (m_fillI l X Γ H184 hC184 su gsu (by decide) rfl rfl (fun _ => rfl) (by decide) 0 (by decide)) cw_J7_fill_53178 cl_RX9_67 rfl hl.1 rfl (Nat.zero_le _) (by decide) dX9_clear_96) hS184 (fun H196 locs196 U196 hC196 hS196 => ?_)
  obtain ⟨U196, F196⟩ := U196
  have hKp196 := Kp.upC gsu rfl (by decide) rfl U196 hKp184
  have m197 : aI H196 us (0) = aI H184 us (0) := aI_cp U196 (nek gus gsu (by decide))
  have m198 : aI H196 us (1) = aI H184 us (1) := aI_cp U196 (nek gus gsu (by decide))
  have m199 : aI H196 br (0) = aI H184 br (0) := aI_cp U196 (nek gbr gsu (by decide))
  have m200 : aI H196 br (1) = aI H184 br (1) := aI_cp U196 (nek gbr gsu (by decide))
  have yw : (sI H196 h0 (X.1.2 8 0)).toInt = 2 := (congrArg Int32.toInt (cp_I U196 (nek gsy gsu (by decide)))).trans yw
  have yh : (sI H196 h0 (X.1.2 8 1)).toInt = 1 := (congrArg Int32.toInt (cp_I U196 (nek gsy gsu (by decide)))).trans yh
  have yc : (sI H196 h0 (X.1.2 8 2)).toInt = 0 := (congrArg Int32.toInt (cp_I U196 (nek gsy gsu (by decide)))).trans yc
  have zd : (sI H196 h0 (X.1.2 8 3)).toInt = 0 := (congrArg Int32.toInt (cp_I U196 (nek gsy gsu (by decide)))).trans zd
  have zm : (sI H196 h0 (X.1.2 8 4)).toInt = 0 := (congrArg Int32.toInt (cp_I U196 (nek gsy gsu (by decide)))).trans zm
  have zr : (sI H196 h0 (X.1.2 8 5)).toInt = 0 := (congrArg Int32.toInt (cp_I U196 (nek gsy gsu (by decide)))).trans zr
  have zf : (sI H196 h0 (X.1.2 8 6)).toInt = 0 := (congrArg Int32.toInt (cp_I U196 (nek gsy gsu (by decide)))).trans zf
  replace car : ∀ k : Nat, k < 4 → (sI H196 ar k).toInt = -1 := fun k hk => by rw [cp_I U196 (nek gar gsu (by decide))]; exact car k hk
  have m201 : (sI H196 h0 (X.1.2 8 0)).toInt = (sI H184 h0 (X.1.2 8 0)).toInt := congrArg Int32.toInt (cp_I U196 (nek g0 gsu (by decide)))
  have m202 : (sI H196 h0 (X.1.2 8 1)).toInt = (sI H184 h0 (X.1.2 8 1)).toInt := congrArg Int32.toInt (cp_I U196 (nek g0 gsu (by decide)))
  have m203 : (sI H196 h0 (X.1.2 8 2)).toInt = (sI H184 h0 (X.1.2 8 2)).toInt := congrArg Int32.toInt (cp_I U196 (nek g0 gsu (by decide)))
  have m204 : (sI H196 h0 (X.1.2 8 3)).toInt = (sI H184 h0 (X.1.2 8 3)).toInt := congrArg Int32.toInt (cp_I U196 (nek g0 gsu (by decide)))
  have m205 : (sI H196 h0 (X.1.2 8 4)).toInt = (sI H184 h0 (X.1.2 8 4)).toInt := congrArg Int32.toInt (cp_I U196 (nek g0 gsu (by decide)))
  have m206 : (sI H196 h0 (X.1.2 8 5)).toInt = (sI H184 h0 (X.1.2 8 5)).toInt := congrArg Int32.toInt (cp_I U196 (nek g0 gsu (by decide)))
  have m207 : (sI H196 h0 (X.1.2 8 6)).toInt = (sI H184 h0 (X.1.2 8 6)).toInt := congrArg Int32.toInt (cp_I U196 (nek g0 gsu (by decide)))
  refine lv_aload_n hx hb dX9_clear_99 rfl (lv_at hl 0 rfl) ?_
  refine q_getS E hC196 g0 fa_RX9_43 (yn.kp g0 hKp196 rfl).lw.1 dX9_clear_100 (fun _ => ?_)
  refine lv_iconst (v := 0) hx hb dX9_clear_103 rfl ?_
  refine q_goV (q_runS (As := [.ref lw, .int 0]) (rest := []) E hS196 (m_fillI l X Γ H196 hC196 lw glw (by decide) rfl rfl (fun _ => rfl) (by decide) 0 (by decide)) cw_J7_fill_53178 cl_RX9_67 rfl hl.1 rfl (Nat.zero_le _) (by decide) dX9_clear_104) hS196 (fun H208 locs208 U208 hC208 hS208 => ?_)
  obtain ⟨U208, F208⟩ := U208
  have hKp208 := Kp.upC glw rfl (by decide) rfl U208 hKp196
  have m209 : aI H208 us (0) = aI H196 us (0) := aI_cp U208 (nek gus glw (by decide))
  have m210 : aI H208 us (1) = aI H196 us (1) := aI_cp U208 (nek gus glw (by decide))
  have m211 : aI H208 br (0) = aI H196 br (0) := aI_cp U208 (nek gbr glw (by decide))
  have m212 : aI H208 br (1) = aI H196 br (1) := aI_cp U208 (nek gbr glw (by decide))
  have yw : (sI H208 h0 (X.1.2 8 0)).toInt = 2 := (congrArg Int32.toInt (cp_I U208 (nek gsy glw (by decide)))).trans yw
  have yh : (sI H208 h0 (X.1.2 8 1)).toInt = 1 := (congrArg Int32.toInt (cp_I U208 (nek gsy glw (by decide)))).trans yh
  have yc : (sI H208 h0 (X.1.2 8 2)).toInt = 0 := (congrArg Int32.toInt (cp_I U208 (nek gsy glw (by decide)))).trans yc
  have zd : (sI H208 h0 (X.1.2 8 3)).toInt = 0 := (congrArg Int32.toInt (cp_I U208 (nek gsy glw (by decide)))).trans zd
  have zm : (sI H208 h0 (X.1.2 8 4)).toInt = 0 := (congrArg Int32.toInt (cp_I U208 (nek gsy glw (by decide)))).trans zm
  have zr : (sI H208 h0 (X.1.2 8 5)).toInt = 0 := (congrArg Int32.toInt (cp_I U208 (nek gsy glw (by decide)))).trans zr
  have zf : (sI H208 h0 (X.1.2 8 6)).toInt = 0 := (congrArg Int32.toInt (cp_I U208 (nek gsy glw (by decide)))).trans zf
  replace car : ∀ k : Nat, k < 4 → (sI H208 ar k).toInt = -1 := fun k hk => by rw [cp_I U208 (nek gar glw (by decide))]; exact car k hk
  have m213 : (sI H208 h0 (X.1.2 8 0)).toInt = (sI H196 h0 (X.1.2 8 0)).toInt := congrArg Int32.toInt (cp_I U208 (nek g0 glw (by decide)))
  have m214 : (sI H208 h0 (X.1.2 8 1)).toInt = (sI H196 h0 (X.1.2 8 1)).toInt := congrArg Int32.toInt (cp_I U208 (nek g0 glw (by decide)))
  have m215 : (sI H208 h0 (X.1.2 8 2)).toInt = (sI H196 h0 (X.1.2 8 2)).toInt := congrArg Int32.toInt (cp_I U208 (nek g0 glw (by decide)))
  have m216 : (sI H208 h0 (X.1.2 8 3)).toInt = (sI H196 h0 (X.1.2 8 3)).toInt := congrArg Int32.toInt (cp_I U208 (nek g0 glw (by decide)))
  have m217 : (sI H208 h0 (X.1.2 8 4)).toInt = (sI H196 h0 (X.1.2 8 4)).toInt := congrArg Int32.toInt (cp_I U208 (nek g0 glw (by decide)))
  have m218 : (sI H208 h0 (X.1.2 8 5)).toInt = (sI H196 h0 (X.1.2 8 5)).toInt := congrArg Int32.toInt (cp_I U208 (nek g0 glw (by decide)))
  have m219 : (sI H208 h0 (X.1.2 8 6)).toInt = (sI H196 h0 (X.1.2 8 6)).toInt := congrArg Int32.toInt (cp_I U208 (nek g0 glw (by decide)))
  refine lv_aload_n hx hb dX9_clear_107 rfl (lv_at hl 0 rfl) ?_
  refine q_getS E hC208 g0 fa_RX9_46 (yn.kp g0 hKp208 rfl).ic.1 dX9_clear_108 (fun _ => ?_)
  refine lv_iconst (v := 0) hx hb dX9_clear_111 rfl ?_
  refine q_goV (q_runS (As := [.ref ic, .int 0]) (rest := []) E hS208 (m_fillI l X Γ H208 hC208 ic gic (by decide) rfl rfl (fun _ => rfl) (by decide) 0 (by decide)) cw_J7_fill_53178 cl_RX9_67 rfl hl.1 rfl (Nat.zero_le _) (by decide) dX9_clear_112) hS208 (fun H220 locs220 U220 hC220 hS220 => ?_)
  obtain ⟨U220, F220⟩ := U220
  have hKp220 := Kp.upC gic rfl (by decide) rfl U220 hKp208
  have m221 : aI H220 us (0) = aI H208 us (0) := aI_cp U220 (nek gus gic (by decide))
  have m222 : aI H220 us (1) = aI H208 us (1) := aI_cp U220 (nek gus gic (by decide))
  have m223 : aI H220 br (0) = aI H208 br (0) := aI_cp U220 (nek gbr gic (by decide))
  have m224 : aI H220 br (1) = aI H208 br (1) := aI_cp U220 (nek gbr gic (by decide))
  have yw : (sI H220 h0 (X.1.2 8 0)).toInt = 2 := (congrArg Int32.toInt (cp_I U220 (nek gsy gic (by decide)))).trans yw
  have yh : (sI H220 h0 (X.1.2 8 1)).toInt = 1 := (congrArg Int32.toInt (cp_I U220 (nek gsy gic (by decide)))).trans yh
  have yc : (sI H220 h0 (X.1.2 8 2)).toInt = 0 := (congrArg Int32.toInt (cp_I U220 (nek gsy gic (by decide)))).trans yc
  have zd : (sI H220 h0 (X.1.2 8 3)).toInt = 0 := (congrArg Int32.toInt (cp_I U220 (nek gsy gic (by decide)))).trans zd
  have zm : (sI H220 h0 (X.1.2 8 4)).toInt = 0 := (congrArg Int32.toInt (cp_I U220 (nek gsy gic (by decide)))).trans zm
  have zr : (sI H220 h0 (X.1.2 8 5)).toInt = 0 := (congrArg Int32.toInt (cp_I U220 (nek gsy gic (by decide)))).trans zr
  have zf : (sI H220 h0 (X.1.2 8 6)).toInt = 0 := (congrArg Int32.toInt (cp_I U220 (nek gsy gic (by decide)))).trans zf
  replace car : ∀ k : Nat, k < 4 → (sI H220 ar k).toInt = -1 := fun k hk => by rw [cp_I U220 (nek gar gic (by decide))]; exact car k hk
  have m225 : (sI H220 h0 (X.1.2 8 0)).toInt = (sI H208 h0 (X.1.2 8 0)).toInt := congrArg Int32.toInt (cp_I U220 (nek g0 gic (by decide)))
  have m226 : (sI H220 h0 (X.1.2 8 1)).toInt = (sI H208 h0 (X.1.2 8 1)).toInt := congrArg Int32.toInt (cp_I U220 (nek g0 gic (by decide)))
  have m227 : (sI H220 h0 (X.1.2 8 2)).toInt = (sI H208 h0 (X.1.2 8 2)).toInt := congrArg Int32.toInt (cp_I U220 (nek g0 gic (by decide)))
  have m228 : (sI H220 h0 (X.1.2 8 3)).toInt = (sI H208 h0 (X.1.2 8 3)).toInt := congrArg Int32.toInt (cp_I U220 (nek g0 gic (by decide)))
  have m229 : (sI H220 h0 (X.1.2 8 4)).toInt = (sI H208 h0 (X.1.2 8 4)).toInt := congrArg Int32.toInt (cp_I U220 (nek g0 gic (by decide)))
  have m230 : (sI H220 h0 (X.1.2 8 5)).toInt = (sI H208 h0 (X.1.2 8 5)).toInt := congrArg Int32.toInt (cp_I U220 (nek g0 gic (by decide)))
  have m231 : (sI H220 h0 (X.1.2 8 6)).toInt = (sI H208 h0 (X.1.2 8 6)).toInt := congrArg Int32.toInt (cp_I U220 (nek g0 gic (by decide)))
  refine lv_aload_n hx hb dX9_clear_115 rfl (lv_at hl 0 rfl) ?_
  refine q_getS E hC220 g0 fa_RX9_49 (yn.kp g0 hKp220 rfl).kn.1 dX9_clear_116 (fun _ => ?_)
  refine lv_iconst (v := 0) hx hb dX9_clear_119 rfl ?_
  refine q_goV (q_runS (As := [.ref kn, .int 0]) (rest := []) E hS220 (m_fillI l X Γ H220 hC220 kn gkn (by decide) rfl rfl (fun _ => rfl) (by decide) 0 (by decide)) cw_J7_fill_53178 cl_RX9_67 rfl hl.1 rfl (Nat.zero_le _) (by decide) dX9_clear_120) hS220 (fun H232 locs232 U232 hC232 hS232 => ?_)
  obtain ⟨U232, F232⟩ := U232
  have hKp232 := Kp.upC gkn rfl (by decide) rfl U232 hKp220
  have m233 : aI H232 us (0) = aI H220 us (0) := aI_cp U232 (nek gus gkn (by decide))
  have m234 : aI H232 us (1) = aI H220 us (1) := aI_cp U232 (nek gus gkn (by decide))
  have m235 : aI H232 br (0) = aI H220 br (0) := aI_cp U232 (nek gbr gkn (by decide))
  have m236 : aI H232 br (1) = aI H220 br (1) := aI_cp U232 (nek gbr gkn (by decide))
  have yw : (sI H232 h0 (X.1.2 8 0)).toInt = 2 := (congrArg Int32.toInt (cp_I U232 (nek gsy gkn (by decide)))).trans yw
  have yh : (sI H232 h0 (X.1.2 8 1)).toInt = 1 := (congrArg Int32.toInt (cp_I U232 (nek gsy gkn (by decide)))).trans yh
  have yc : (sI H232 h0 (X.1.2 8 2)).toInt = 0 := (congrArg Int32.toInt (cp_I U232 (nek gsy gkn (by decide)))).trans yc
  have zd : (sI H232 h0 (X.1.2 8 3)).toInt = 0 := (congrArg Int32.toInt (cp_I U232 (nek gsy gkn (by decide)))).trans zd
  have zm : (sI H232 h0 (X.1.2 8 4)).toInt = 0 := (congrArg Int32.toInt (cp_I U232 (nek gsy gkn (by decide)))).trans zm
  have zr : (sI H232 h0 (X.1.2 8 5)).toInt = 0 := (congrArg Int32.toInt (cp_I U232 (nek gsy gkn (by decide)))).trans zr
  have zf : (sI H232 h0 (X.1.2 8 6)).toInt = 0 := (congrArg Int32.toInt (cp_I U232 (nek gsy gkn (by decide)))).trans zf
  replace car : ∀ k : Nat, k < 4 → (sI H232 ar k).toInt = -1 := fun k hk => by rw [cp_I U232 (nek gar gkn (by decide))]; exact car k hk
  have m237 : (sI H232 h0 (X.1.2 8 0)).toInt = (sI H220 h0 (X.1.2 8 0)).toInt := congrArg Int32.toInt (cp_I U232 (nek g0 gkn (by decide)))
  have m238 : (sI H232 h0 (X.1.2 8 1)).toInt = (sI H220 h0 (X.1.2 8 1)).toInt := congrArg Int32.toInt (cp_I U232 (nek g0 gkn (by decide)))
  have m239 : (sI H232 h0 (X.1.2 8 2)).toInt = (sI H220 h0 (X.1.2 8 2)).toInt := congrArg Int32.toInt (cp_I U232 (nek g0 gkn (by decide)))
  have m240 : (sI H232 h0 (X.1.2 8 3)).toInt = (sI H220 h0 (X.1.2 8 3)).toInt := congrArg Int32.toInt (cp_I U232 (nek g0 gkn (by decide)))
  have m241 : (sI H232 h0 (X.1.2 8 4)).toInt = (sI H220 h0 (X.1.2 8 4)).toInt := congrArg Int32.toInt (cp_I U232 (nek g0 gkn (by decide)))
  have m242 : (sI H232 h0 (X.1.2 8 5)).toInt = (sI H220 h0 (X.1.2 8 5)).toInt := congrArg Int32.toInt (cp_I U232 (nek g0 gkn (by decide)))
  have m243 : (sI H232 h0 (X.1.2 8 6)).toInt = (sI H220 h0 (X.1.2 8 6)).toInt := congrArg Int32.toInt (cp_I U232 (nek g0 gkn (by decide)))
  have hpost : YCL X Γ H232 h0 := ⟨yw, yh, yc, ar, (kp_R hKp232 g0 (ci := 8) (k := 10) rfl (by decide) rfl).trans har, gar, car⟩
  exact ret H232 locs232 _ _ dX9_clear_123 ⟨hKp232, ⟨hpost, zd, zm, zr, zf, by omega, by omega, by omega, by omega⟩⟩ hC232 hS232
