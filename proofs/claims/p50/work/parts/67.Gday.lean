set_option maxRecDepth 100000 in
set_option maxHeartbeats 8000000 in
theorem sg_day (l : Launch) {p : Program} {e : Env} {s : State} {m : MethodId} {args : Array Value} {below : List Frame} {meth : Method} {c : Code} {X : xW} {Γ : Nat → Option Nat} {Qz : State → Prop} (E : Ev p s m args meth c cL_law 15 "SnowFortsLaw" ret X Γ s.heap) (H0 : Heap) (hC0 : Conf X Γ H0) (locs0 : List Loc) (hS0 : va_S (AΓ Γ) s.heap H0 locs0) (h0 : Nat) (g0 : Γ h0 = some 0) (mm ha : Nat) (gmm : Γ mm = some 90) (gha : Γ ha = some 91) (yd : Nat) (hyd : sR H0 h0 (X.1.2 10 5) = some yd) (gyd : Γ yd = some 5) (sn wl su lw ic kn hd us br ar fi : Nat) (yn : YN X Γ H0 yd sn wl su lw ic kn hd us br ar fi) (wk : Nat) (hwk : sR H0 h0 (X.1.2 10 12) = some wk) (gwk : Γ wk = some 7) (pa hh wt : Nat) (wn : WN X Γ H0 wk pa hh wt) (w9 h9 s9 : Int) (qw : w9 = 2 ∨ w9 = 4) (qh : 1 ≤ h9 ∧ h9 ≤ 3) (qs : s9 = 1 ∨ s9 = 2) (qa0 : aI H0 ha 0 = w9) (qa1 : aI H0 ha 1 = h9) (qa2 : aI H0 ha 2 = s9) (qy0 : (sI H0 yd (X.1.2 8 0)).toInt = w9) (qy1 : (sI H0 yd (X.1.2 8 1)).toInt = h9) (qy2 : (sI H0 yd (X.1.2 8 2)).toInt = s9) (v7 : Int32) {z7 : Int} (ev7 : v7.toInt = z7) (v6 : Int32) {z6 : Int} (ev6 : v6.toInt = z6) (v5 : Int32) {z5 : Int} (ev5 : v5.toInt = z5) (v4 : Int32) {z4 : Int} (ev4 : v4.toInt = z4) (uhd : UHD H0 us hd) (hbr : s9 = 1 → aI H0 br 1 = 0) (hz6 : 0 ≤ z6 ∧ z6 ≤ 4) (hz5 : 0 ≤ z5 ∧ z5 ≤ 7128) (hcn : SM H0 sn 36 + SM H0 wl 36 + (sI H0 yd (X.1.2 8 4)).toInt + (sI H0 yd (X.1.2 8 5)).toInt = z5 + (sI H0 yd (X.1.2 8 6)).toInt) (hr1 : 0 ≤ (sI H0 yd (X.1.2 8 5)).toInt ∧ (sI H0 yd (X.1.2 8 5)).toInt ≤ 10000 * z6) (hr2 : 0 ≤ (sI H0 yd (X.1.2 8 6)).toInt ∧ (sI H0 yd (X.1.2 8 6)).toInt ≤ 10000 * z6) (hr3 : 0 ≤ (sI H0 yd (X.1.2 8 4)).toInt ∧ (sI H0 yd (X.1.2 8 4)).toInt ≤ 10000 * z6) (hr4 : (sI H0 yd (X.1.2 8 3)).toInt ≤ z6) {ls : Array Slot} (hl : lv_has ls 15 [(7, .int v7), (6, .int v6), (5, .int v5), (4, .int v4), (0, .ref (sad X)), (1, .ref h0), (2, .ref mm), (3, .ref ha)]) (hk : ∀ (H1 : Heap) (locs1 : List Loc) (ls : Array Slot), Conf X Γ H1 → va_S (AΓ Γ) s.heap H1 locs1 → Kp X Γ [3, 29, 31, 32, 33, 34, 37, 39, 40, 50, 57, 61, 67, 68, 69, 70, 71] H0 H1 → (UHD H1 us hd) → (s9 = 1 → aI H1 br 1 = 0) → (0 ≤ (sI H1 yd (X.1.2 8 5)).toInt ∧ (sI H1 yd (X.1.2 8 5)).toInt ≤ 10000 * (z6 + 1)) → (0 ≤ (sI H1 yd (X.1.2 8 6)).toInt ∧ (sI H1 yd (X.1.2 8 6)).toInt ≤ 10000 * (z6 + 1)) → (0 ≤ (sI H1 yd (X.1.2 8 4)).toInt ∧ (sI H1 yd (X.1.2 8 4)).toInt ≤ 10000 * (z6 + 1)) → ((sI H1 yd (X.1.2 8 3)).toInt ≤ z6 + 1) → (SM H1 sn 36 + SM H1 wl 36 + (sI H1 yd (X.1.2 8 4)).toInt + (sI H1 yd (X.1.2 8 5)).toInt = z5 + (sI H1 yd (X.1.2 8 6)).toInt) → lv_has ls 15 [(7, .int v7), (6, .int v6), (5, .int v5), (4, .int v4), (0, .ref (sad X)), (1, .ref h0), (2, .ref mm), (3, .ref ha)] → W p l e room_1 s m args below meth c H1 locs1 133 8682 Qz (F0 m 878 ls [])) : W p l e room_1 s m args below meth c H0 locs0 133 8682 Qz (F0 m 731 ls []) := by
  have hx := E.1; have hb := E.2.1
  have hKp0 : Kp X Γ [3, 29, 31, 32, 33, 34, 37, 39, 40, 50, 57, 61, 67, 68, 69, 70, 71] H0 H0 := Kp.rf
  have gsn := yn.sn.2; have gwl := yn.wl.2; have gsu := yn.su.2; have glw := yn.lw.2; have gic := yn.ic.2; have gkn := yn.kn.2; have ghd := yn.hd.2; have gus := yn.us.2; have gbr := yn.br.2; have gar := yn.ar.2; have gfi := yn.fi.2
  have gpa := wn.pa.2; have ghh := wn.hh.2; have gwt := wn.wt.2
  have qw1 : 2 ≤ w9 ∧ w9 ≤ 4 := by omega
  have qs1 : 1 ≤ s9 ∧ s9 ≤ 2 := by omega
  clear qw qs
  have uhd : UHD H0 us hd := uhd
  refine lv_aload_n hx hb dL_law_731 rfl (lv_at hl 5 rfl) ?_
  refine lv_iload hx hb dL_law_732 (lv_at hl 0 rfl) ?_
  refine lv_bipush (v := 15) hx hb dL_law_734 rfl ?_
  refine lv_iand hx hb dL_law_736 (lv_topi (fun v21 ev21 => ?_))
  have bv21 := i_andc ev21 (show (15 : Int32).toInt = 15 from by decide) (by decide)
  refine r_goI (r_runV (As := [.int v21]) (rest := []) E hC0 hS0 (m_X11_fall l X Γ H0 hC0 h0 g0 v21 (a1 := v21.toInt) rfl yd hyd gyd sn wl su lw ic kn hd us br ar fi yn (by omega) (by omega) (by omega) (by omega) (by omega) (by omega)) cw_X11_fall cl_RL_144 g0 ⟨rfl, rfl⟩ rfl hl.1 rfl (Nat.zero_le _) (by decide) dL_law_737) hS0 (fun v22 H22 locs22 hr22 hC22 hS22 => ?_)
  obtain ⟨hp22, hr22⟩ := hr22
  have hKp22 := hKp0.tr (hp22.mono rfl)
  have m23 : aI H22 ha (0) = aI H0 ha (0) := aI_kp hp22 gha rfl rfl
  have m24 : aI H22 ha (1) = aI H0 ha (1) := aI_kp hp22 gha rfl rfl
  have m25 : aI H22 ha (2) = aI H0 ha (2) := aI_kp hp22 gha rfl rfl
  have m26 : aI H22 br (1) = aI H0 br (1) := aI_kp hp22 gbr rfl rfl
  have m27 : (sI H22 yd (X.1.2 8 0)).toInt = (sI H0 yd (X.1.2 8 0)).toInt := congrArg Int32.toInt (kp_I hp22 gyd (ci := 8) (k := 0) rfl (by decide) rfl)
  have m28 : (sI H22 yd (X.1.2 8 1)).toInt = (sI H0 yd (X.1.2 8 1)).toInt := congrArg Int32.toInt (kp_I hp22 gyd (ci := 8) (k := 1) rfl (by decide) rfl)
  have m29 : (sI H22 yd (X.1.2 8 2)).toInt = (sI H0 yd (X.1.2 8 2)).toInt := congrArg Int32.toInt (kp_I hp22 gyd (ci := 8) (k := 2) rfl (by decide) rfl)
  have m30 : (sI H22 yd (X.1.2 8 3)).toInt = (sI H0 yd (X.1.2 8 3)).toInt := congrArg Int32.toInt (kp_I hp22 gyd (ci := 8) (k := 3) rfl (by decide) rfl)
  have m31 : (sI H22 yd (X.1.2 8 4)).toInt = (sI H0 yd (X.1.2 8 4)).toInt := congrArg Int32.toInt (kp_I hp22 gyd (ci := 8) (k := 4) rfl (by decide) rfl)
  have m35 : SM H22 wl 36 = SM H0 wl 36 := SM_kp hp22 gwl rfl rfl
  replace uhd : UHD H22 us hd := uhd.kp hp22 gus ghd rfl rfl
  obtain ⟨f22_0, f22_1, f22_2, f22_3, f22_4, f22_5⟩ := hr22
  refine q_if_lt hx hb (a := v22.toInt) rfl (tgt := 775) dL_law_740 rfl (fun c36 => ?_) (fun c36 => ?_)
  · (exfalso; omega)
  · refine lv_aload_n hx hb dL_law_743 rfl (lv_at hl 5 rfl) ?_
    refine lv_iload hx hb dL_law_744 (lv_at hl 0 rfl) ?_
    refine lv_iconst (v := 4) hx hb dL_law_746 rfl ?_
    refine lv_ishr hx hb dL_law_747 (lv_topi (fun v37 ev37 => ?_))
    refine lv_bipush (v := 7) hx hb dL_law_748 rfl ?_
    refine lv_iand hx hb dL_law_750 (lv_topi (fun v38 ev38 => ?_))
    have bv38 := i_andc ev38 (show (7 : Int32).toInt = 7 from by decide) (by decide)
    refine r_goI (r_runV (As := [.int v38]) (rest := []) E hC22 hS22 (m_X11_thaw l X Γ H22 hC22 h0 g0 v38 (a1 := v38.toInt) rfl yd ((kp_R hKp22 g0 (ci := 10) (k := 5) rfl (by decide) rfl).trans hyd) gyd sn wl su lw ic kn hd us br ar fi (yn.kp gyd hKp22 rfl) (by omega) (by omega) (by omega) (by omega)) cw_X11_thaw cl_RL_147 g0 ⟨rfl, rfl⟩ rfl hl.1 rfl (Nat.zero_le _) (by decide) dL_law_751) hS22 (fun v39 H39 locs39 hr39 hC39 hS39 => ?_)
    obtain ⟨hp39, hr39⟩ := hr39
    have hKp39 := hKp22.tr (hp39.mono rfl)
    have m40 : aI H39 ha (0) = aI H22 ha (0) := aI_kp hp39 gha rfl rfl
    have m41 : aI H39 ha (1) = aI H22 ha (1) := aI_kp hp39 gha rfl rfl
    have m42 : aI H39 ha (2) = aI H22 ha (2) := aI_kp hp39 gha rfl rfl
    have m43 : aI H39 br (1) = aI H22 br (1) := aI_kp hp39 gbr rfl rfl
    have m44 : (sI H39 yd (X.1.2 8 0)).toInt = (sI H22 yd (X.1.2 8 0)).toInt := congrArg Int32.toInt (kp_I hp39 gyd (ci := 8) (k := 0) rfl (by decide) rfl)
    have m45 : (sI H39 yd (X.1.2 8 1)).toInt = (sI H22 yd (X.1.2 8 1)).toInt := congrArg Int32.toInt (kp_I hp39 gyd (ci := 8) (k := 1) rfl (by decide) rfl)
    have m46 : (sI H39 yd (X.1.2 8 2)).toInt = (sI H22 yd (X.1.2 8 2)).toInt := congrArg Int32.toInt (kp_I hp39 gyd (ci := 8) (k := 2) rfl (by decide) rfl)
    have m47 : (sI H39 yd (X.1.2 8 3)).toInt = (sI H22 yd (X.1.2 8 3)).toInt := congrArg Int32.toInt (kp_I hp39 gyd (ci := 8) (k := 3) rfl (by decide) rfl)
    have m49 : (sI H39 yd (X.1.2 8 5)).toInt = (sI H22 yd (X.1.2 8 5)).toInt := congrArg Int32.toInt (kp_I hp39 gyd (ci := 8) (k := 5) rfl (by decide) rfl)
    have m50 : (sI H39 yd (X.1.2 8 6)).toInt = (sI H22 yd (X.1.2 8 6)).toInt := congrArg Int32.toInt (kp_I hp39 gyd (ci := 8) (k := 6) rfl (by decide) rfl)
    replace uhd : UHD H39 us hd := uhd.kp hp39 gus ghd rfl rfl
    obtain ⟨f39_0, f39_1, f39_2, f39_3⟩ := hr39
    refine q_if_lt hx hb (a := v39.toInt) rfl (tgt := 775) dL_law_754 rfl (fun c53 => ?_) (fun c53 => ?_)
    · (exfalso; omega)
    · refine lv_iload hx hb dL_law_757 (lv_at hl 0 rfl) ?_
      refine lv_bipush (v := 7) hx hb dL_law_759 rfl ?_
      refine lv_ishr hx hb dL_law_761 (lv_topi (fun v54 ev54 => ?_))
      refine lv_iconst (v := 1) hx hb dL_law_762 rfl ?_
      refine lv_iand hx hb dL_law_763 (lv_topi (fun v55 ev55 => ?_))
      have bv55 := i_andc ev55 (show (1 : Int32).toInt = 1 from by decide) (by decide)
      refine q_if_ne hx hb (a := v55.toInt) rfl (tgt := 777) dL_law_764 rfl (fun c56 => ?_) (fun c56 => ?_)
      · refine lv_aload_n hx hb dL_law_777 rfl (lv_at hl 5 rfl) ?_
        refine lv_iconst (v := 0) hx hb dL_law_778 rfl ?_
        refine lv_iconst (v := 0) hx hb dL_law_779 rfl ?_
        refine lv_aload_n hx hb dL_law_780 rfl (lv_at hl 7 rfl) ?_
        refine lv_iconst (v := 0) hx hb dL_law_781 rfl ?_
        refine q_iald E hC39 gha rfl rfl (rl_91_0 (show (0 : Int32).toInt = 0 from by decide) (by omega) (by omega)) (i_in (a := 0) (show (0 : Int32).toInt = 0 from by decide) (by omega) (by omega)) dL_law_782 (fun v57 ev57 lv57 uv57 => ?_)
        have m58 : aI H39 ha (0) = v57.toInt := aI_of (show (0 : Int32).toInt = 0 from by decide) ev57
        refine lv_iconst (v := 1) hx hb dL_law_783 rfl ?_
        refine lv_isub hx hb dL_law_784 (lv_topi (fun v59 ev59 => ?_))
        have ev59i : v59.toInt = (v57.toInt - 1) := i_sub ev59 rfl (by decide) (by omega) (by omega)
        refine lv_aload_n hx hb dL_law_785 rfl (lv_at hl 7 rfl) ?_
        refine lv_iconst (v := 1) hx hb dL_law_786 rfl ?_
        refine q_iald E hC39 gha rfl rfl (rl_91_1 (show (1 : Int32).toInt = 1 from by decide) (by omega) (by omega)) (i_in (a := 1) (show (1 : Int32).toInt = 1 from by decide) (by omega) (by omega)) dL_law_787 (fun v60 ev60 lv60 uv60 => ?_)
        have m61 : aI H39 ha (1) = v60.toInt := aI_of (show (1 : Int32).toInt = 1 from by decide) ev60
        refine lv_iconst (v := 1) hx hb dL_law_788 rfl ?_
        refine lv_isub hx hb dL_law_789 (lv_topi (fun v62 ev62 => ?_))
        have ev62i : v62.toInt = (v60.toInt - 1) := i_sub ev62 rfl (by decide) (by omega) (by omega)
        refine lv_iconst (v := 1) hx hb dL_law_790 rfl ?_
        refine lv_iload hx hb dL_law_791 (lv_at hl 0 rfl) ?_
        refine lv_bipush (v := 8) hx hb dL_law_793 rfl ?_
        refine lv_ishr hx hb dL_law_795 (lv_topi (fun v63 ev63 => ?_))
        refine lv_bipush (v := 15) hx hb dL_law_796 rfl ?_
        refine lv_iand hx hb dL_law_798 (lv_topi (fun v64 ev64 => ?_))
        have bv64 := i_andc ev64 (show (15 : Int32).toInt = 15 from by decide) (by decide)
        refine lv_iadd hx hb dL_law_799 (lv_topi (fun v65 ev65 => ?_))
        have ev65i : v65.toInt = (1 + v64.toInt) := i_add ev65 (by decide) rfl (by omega) (by omega)
        have hus0 := uhd 0 (by decide) (by decide)
        refine r_goI (r_runV (As := [.int 0, .int 0, .int v59, .int v62, .int v65]) (rest := []) E hC39 hS39 (m_X11_steal l X Γ H39 hC39 h0 g0 0 (a1 := 0) (by decide) 0 (a2 := 0) (by decide) v59 (a3 := (v57.toInt - 1)) ev59i v62 (a4 := (v60.toInt - 1)) ev62i v65 (a5 := (1 + v64.toInt)) ev65i yd ((kp_R hKp39 g0 (ci := 10) (k := 5) rfl (by decide) rfl).trans hyd) gyd sn wl su lw ic kn hd us br ar fi (yn.kp gyd hKp39 rfl) 0 (by omega) (by omega) (by omega) (by omega) (by omega) (by omega) (by omega) (by omega) (by omega) (by omega) (by omega) (by omega) (by omega) (by omega) (by omega) (by omega) (by omega) (by omega) (by omega)) cw_X11_steal cl_RL_153 g0 ⟨rfl, rfl⟩ rfl hl.1 rfl (Nat.zero_le _) (by decide) dL_law_800) hS39 (fun v66 H66 locs66 hr66 hC66 hS66 => ?_)
        obtain ⟨hp66, hr66⟩ := hr66
        have hKp66 := hKp39.tr (hp66.mono rfl)
        have m67 : aI H66 ha (0) = aI H39 ha (0) := aI_kp hp66 gha rfl rfl
        have m68 : aI H66 ha (1) = aI H39 ha (1) := aI_kp hp66 gha rfl rfl
        have m69 : aI H66 ha (2) = aI H39 ha (2) := aI_kp hp66 gha rfl rfl
        have m71 : (sI H66 yd (X.1.2 8 0)).toInt = (sI H39 yd (X.1.2 8 0)).toInt := congrArg Int32.toInt (kp_I hp66 gyd (ci := 8) (k := 0) rfl (by decide) rfl)
        have m72 : (sI H66 yd (X.1.2 8 1)).toInt = (sI H39 yd (X.1.2 8 1)).toInt := congrArg Int32.toInt (kp_I hp66 gyd (ci := 8) (k := 1) rfl (by decide) rfl)
        have m73 : (sI H66 yd (X.1.2 8 2)).toInt = (sI H39 yd (X.1.2 8 2)).toInt := congrArg Int32.toInt (kp_I hp66 gyd (ci := 8) (k := 2) rfl (by decide) rfl)
        have m74 : (sI H66 yd (X.1.2 8 3)).toInt = (sI H39 yd (X.1.2 8 3)).toInt := congrArg Int32.toInt (kp_I hp66 gyd (ci := 8) (k := 3) rfl (by decide) rfl)
        have m75 : (sI H66 yd (X.1.2 8 4)).toInt = (sI H39 yd (X.1.2 8 4)).toInt := congrArg Int32.toInt (kp_I hp66 gyd (ci := 8) (k := 4) rfl (by decide) rfl)
        have m77 : (sI H66 yd (X.1.2 8 6)).toInt = (sI H39 yd (X.1.2 8 6)).toInt := congrArg Int32.toInt (kp_I hp66 gyd (ci := 8) (k := 6) rfl (by decide) rfl)
        have m79 : SM H66 wl 36 = SM H39 wl 36 := SM_kp hp66 gwl rfl rfl
        obtain ⟨f66_0, f66_1, f66_2, f66_3, f66_4, f66_5⟩ := hr66
        have uhd : UHD H66 us hd := uhd.set f66_2 (fun _ => aI_kp hp66 ghd rfl rfl) f66_1
        have hb1 : aI H66 br 1 = aI H39 br 1 := f66_3.el (by decide) (by decide)
        have hsb1 := SM_bd (n := 36) hC66 gsn rfl rfl (fun _ => rfl) (by decide)
        have hsb2 := SM_bd (n := 36) hC66 gwl rfl rfl (fun _ => rfl) (by decide)
        refine lv_pop hx hb dL_law_803 rfl ?_
        refine lv_aload_n hx hb dL_law_804 rfl (lv_at hl 5 rfl) ?_
        refine lv_iconst (v := 5) hx hb dL_law_805 rfl ?_
        refine r_goI (r_runV (As := [.int 5]) (rest := []) E hC66 hS66 (m_X11_many l X Γ H66 hC66 h0 g0 5 (a1 := 5) (by decide) yd ((kp_R hKp66 g0 (ci := 10) (k := 5) rfl (by decide) rfl).trans hyd) gyd sn wl su lw ic kn hd us br ar fi (yn.kp gyd hKp66 rfl) (by omega) (by omega)) cw_X11_many cl_RL_100 g0 ⟨rfl, rfl⟩ rfl hl.1 rfl (Nat.zero_le _) (by decide) dL_law_806) hS66 (fun v80 H80 locs80 hr80 hC80 hS80 => ?_)
        obtain ⟨hp80, hr80⟩ := hr80
        have hKp80 := hKp66.tr (hp80.mono rfl)
        have m81 : aI H80 ha (0) = aI H66 ha (0) := aI_kp hp80 gha rfl rfl
        have m82 : aI H80 ha (1) = aI H66 ha (1) := aI_kp hp80 gha rfl rfl
        have m83 : aI H80 ha (2) = aI H66 ha (2) := aI_kp hp80 gha rfl rfl
        have m84 : aI H80 br (1) = aI H66 br (1) := aI_kp hp80 gbr rfl rfl
        have m85 : (sI H80 yd (X.1.2 8 0)).toInt = (sI H66 yd (X.1.2 8 0)).toInt := congrArg Int32.toInt (kp_I hp80 gyd (ci := 8) (k := 0) rfl (by decide) rfl)
        have m86 : (sI H80 yd (X.1.2 8 1)).toInt = (sI H66 yd (X.1.2 8 1)).toInt := congrArg Int32.toInt (kp_I hp80 gyd (ci := 8) (k := 1) rfl (by decide) rfl)
        have m87 : (sI H80 yd (X.1.2 8 2)).toInt = (sI H66 yd (X.1.2 8 2)).toInt := congrArg Int32.toInt (kp_I hp80 gyd (ci := 8) (k := 2) rfl (by decide) rfl)
        have m88 : (sI H80 yd (X.1.2 8 3)).toInt = (sI H66 yd (X.1.2 8 3)).toInt := congrArg Int32.toInt (kp_I hp80 gyd (ci := 8) (k := 3) rfl (by decide) rfl)
        have m89 : (sI H80 yd (X.1.2 8 4)).toInt = (sI H66 yd (X.1.2 8 4)).toInt := congrArg Int32.toInt (kp_I hp80 gyd (ci := 8) (k := 4) rfl (by decide) rfl)
        have m90 : (sI H80 yd (X.1.2 8 5)).toInt = (sI H66 yd (X.1.2 8 5)).toInt := congrArg Int32.toInt (kp_I hp80 gyd (ci := 8) (k := 5) rfl (by decide) rfl)
        have m91 : (sI H80 yd (X.1.2 8 6)).toInt = (sI H66 yd (X.1.2 8 6)).toInt := congrArg Int32.toInt (kp_I hp80 gyd (ci := 8) (k := 6) rfl (by decide) rfl)
        have m92 : SM H80 sn 36 = SM H66 sn 36 := SM_kp hp80 gsn rfl rfl
        have m93 : SM H80 wl 36 = SM H66 wl 36 := SM_kp hp80 gwl rfl rfl
        replace uhd : UHD H80 us hd := uhd.kp hp80 gus ghd rfl rfl
        obtain ⟨f80_0, f80_1, f80_2, f80_3, f80_4, f80_5⟩ := hr80
        have hv5 := f80_1 rfl
        clear f80_0
        replace f80_1 := f80_1 rfl
        clear f80_2
        clear f80_3
        clear f80_4
        clear f80_5
        refine lv_aload_n hx hb dL_law_809 rfl (lv_at hl 5 rfl) ?_
        refine lv_bipush (v := 6) hx hb dL_law_810 rfl ?_
        refine r_goI (r_runV (As := [.int 6]) (rest := [.int v80]) E hC80 hS80 (m_X11_many l X Γ H80 hC80 h0 g0 6 (a1 := 6) (by decide) yd ((kp_R hKp80 g0 (ci := 10) (k := 5) rfl (by decide) rfl).trans hyd) gyd sn wl su lw ic kn hd us br ar fi (yn.kp gyd hKp80 rfl) (by omega) (by omega)) cw_X11_many cl_RL_100 g0 ⟨rfl, rfl⟩ rfl hl.1 rfl (show _ ≤ _ from by simp [Value.category]) (by decide) dL_law_812) hS80 (fun v94 H94 locs94 hr94 hC94 hS94 => ?_)
        obtain ⟨hp94, hr94⟩ := hr94
        have hKp94 := hKp80.tr (hp94.mono rfl)
        have m95 : aI H94 ha (0) = aI H80 ha (0) := aI_kp hp94 gha rfl rfl
        have m96 : aI H94 ha (1) = aI H80 ha (1) := aI_kp hp94 gha rfl rfl
        have m97 : aI H94 ha (2) = aI H80 ha (2) := aI_kp hp94 gha rfl rfl
        have m98 : aI H94 br (1) = aI H80 br (1) := aI_kp hp94 gbr rfl rfl
        have m99 : (sI H94 yd (X.1.2 8 0)).toInt = (sI H80 yd (X.1.2 8 0)).toInt := congrArg Int32.toInt (kp_I hp94 gyd (ci := 8) (k := 0) rfl (by decide) rfl)
        have m100 : (sI H94 yd (X.1.2 8 1)).toInt = (sI H80 yd (X.1.2 8 1)).toInt := congrArg Int32.toInt (kp_I hp94 gyd (ci := 8) (k := 1) rfl (by decide) rfl)
        have m101 : (sI H94 yd (X.1.2 8 2)).toInt = (sI H80 yd (X.1.2 8 2)).toInt := congrArg Int32.toInt (kp_I hp94 gyd (ci := 8) (k := 2) rfl (by decide) rfl)
        have m102 : (sI H94 yd (X.1.2 8 3)).toInt = (sI H80 yd (X.1.2 8 3)).toInt := congrArg Int32.toInt (kp_I hp94 gyd (ci := 8) (k := 3) rfl (by decide) rfl)
        have m103 : (sI H94 yd (X.1.2 8 4)).toInt = (sI H80 yd (X.1.2 8 4)).toInt := congrArg Int32.toInt (kp_I hp94 gyd (ci := 8) (k := 4) rfl (by decide) rfl)
        have m104 : (sI H94 yd (X.1.2 8 5)).toInt = (sI H80 yd (X.1.2 8 5)).toInt := congrArg Int32.toInt (kp_I hp94 gyd (ci := 8) (k := 5) rfl (by decide) rfl)
        have m105 : (sI H94 yd (X.1.2 8 6)).toInt = (sI H80 yd (X.1.2 8 6)).toInt := congrArg Int32.toInt (kp_I hp94 gyd (ci := 8) (k := 6) rfl (by decide) rfl)
        have m106 : SM H94 sn 36 = SM H80 sn 36 := SM_kp hp94 gsn rfl rfl
        have m107 : SM H94 wl 36 = SM H80 wl 36 := SM_kp hp94 gwl rfl rfl
        replace uhd : UHD H94 us hd := uhd.kp hp94 gus ghd rfl rfl
        obtain ⟨f94_0, f94_1, f94_2, f94_3, f94_4, f94_5⟩ := hr94
        have hv6 := f94_2 rfl
        clear f94_0
        clear f94_1
        replace f94_2 := f94_2 rfl
        clear f94_3
        clear f94_4
        clear f94_5
        refine lv_iadd hx hb dL_law_815 (lv_topi (fun v108 ev108 => ?_))
        have ev108i : v108.toInt = (v80.toInt + v94.toInt) := i_add ev108 rfl rfl (by omega) (by omega)
        refine lv_aload_n hx hb dL_law_816 rfl (lv_at hl 5 rfl) ?_
        refine lv_bipush (v := 7) hx hb dL_law_817 rfl ?_
        refine r_goI (r_runV (As := [.int 7]) (rest := [.int v108]) E hC94 hS94 (m_X11_many l X Γ H94 hC94 h0 g0 7 (a1 := 7) (by decide) yd ((kp_R hKp94 g0 (ci := 10) (k := 5) rfl (by decide) rfl).trans hyd) gyd sn wl su lw ic kn hd us br ar fi (yn.kp gyd hKp94 rfl) (by omega) (by omega)) cw_X11_many cl_RL_100 g0 ⟨rfl, rfl⟩ rfl hl.1 rfl (show _ ≤ _ from by simp [Value.category]) (by decide) dL_law_819) hS94 (fun v109 H109 locs109 hr109 hC109 hS109 => ?_)
        obtain ⟨hp109, hr109⟩ := hr109
        have hKp109 := hKp94.tr (hp109.mono rfl)
        have m110 : aI H109 ha (0) = aI H94 ha (0) := aI_kp hp109 gha rfl rfl
        have m111 : aI H109 ha (1) = aI H94 ha (1) := aI_kp hp109 gha rfl rfl
        have m112 : aI H109 ha (2) = aI H94 ha (2) := aI_kp hp109 gha rfl rfl
        have m113 : aI H109 br (1) = aI H94 br (1) := aI_kp hp109 gbr rfl rfl
        have m114 : (sI H109 yd (X.1.2 8 0)).toInt = (sI H94 yd (X.1.2 8 0)).toInt := congrArg Int32.toInt (kp_I hp109 gyd (ci := 8) (k := 0) rfl (by decide) rfl)
        have m115 : (sI H109 yd (X.1.2 8 1)).toInt = (sI H94 yd (X.1.2 8 1)).toInt := congrArg Int32.toInt (kp_I hp109 gyd (ci := 8) (k := 1) rfl (by decide) rfl)
        have m116 : (sI H109 yd (X.1.2 8 2)).toInt = (sI H94 yd (X.1.2 8 2)).toInt := congrArg Int32.toInt (kp_I hp109 gyd (ci := 8) (k := 2) rfl (by decide) rfl)
        have m117 : (sI H109 yd (X.1.2 8 3)).toInt = (sI H94 yd (X.1.2 8 3)).toInt := congrArg Int32.toInt (kp_I hp109 gyd (ci := 8) (k := 3) rfl (by decide) rfl)
        have m118 : (sI H109 yd (X.1.2 8 4)).toInt = (sI H94 yd (X.1.2 8 4)).toInt := congrArg Int32.toInt (kp_I hp109 gyd (ci := 8) (k := 4) rfl (by decide) rfl)
        have m119 : (sI H109 yd (X.1.2 8 5)).toInt = (sI H94 yd (X.1.2 8 5)).toInt := congrArg Int32.toInt (kp_I hp109 gyd (ci := 8) (k := 5) rfl (by decide) rfl)
        have m120 : (sI H109 yd (X.1.2 8 6)).toInt = (sI H94 yd (X.1.2 8 6)).toInt := congrArg Int32.toInt (kp_I hp109 gyd (ci := 8) (k := 6) rfl (by decide) rfl)
        have m121 : SM H109 sn 36 = SM H94 sn 36 := SM_kp hp109 gsn rfl rfl
        have m122 : SM H109 wl 36 = SM H94 wl 36 := SM_kp hp109 gwl rfl rfl
        replace uhd : UHD H109 us hd := uhd.kp hp109 gus ghd rfl rfl
        obtain ⟨f109_0, f109_1, f109_2, f109_3, f109_4, f109_5⟩ := hr109
        have hv7 := f109_3 rfl
        clear f109_0
        clear f109_1
        clear f109_2
        replace f109_3 := f109_3 rfl
        clear f109_4
        clear f109_5
        refine lv_iadd hx hb dL_law_822 (lv_topi (fun v123 ev123 => ?_))
        have ev123i : v123.toInt = ((v80.toInt + v94.toInt) + v109.toInt) := i_add ev123 ev108i rfl (by omega) (by omega)
        refine lv_aload_n hx hb dL_law_823 rfl (lv_at hl 5 rfl) ?_
        refine lv_bipush (v := 8) hx hb dL_law_824 rfl ?_
        refine r_goI (r_runV (As := [.int 8]) (rest := [.int v123]) E hC109 hS109 (m_X11_many l X Γ H109 hC109 h0 g0 8 (a1 := 8) (by decide) yd ((kp_R hKp109 g0 (ci := 10) (k := 5) rfl (by decide) rfl).trans hyd) gyd sn wl su lw ic kn hd us br ar fi (yn.kp gyd hKp109 rfl) (by omega) (by omega)) cw_X11_many cl_RL_100 g0 ⟨rfl, rfl⟩ rfl hl.1 rfl (show _ ≤ _ from by simp [Value.category]) (by decide) dL_law_826) hS109 (fun v124 H124 locs124 hr124 hC124 hS124 => ?_)
        obtain ⟨hp124, hr124⟩ := hr124
        have hKp124 := hKp109.tr (hp124.mono rfl)
        have m125 : aI H124 ha (0) = aI H109 ha (0) := aI_kp hp124 gha rfl rfl
        have m126 : aI H124 ha (1) = aI H109 ha (1) := aI_kp hp124 gha rfl rfl
        have m127 : aI H124 ha (2) = aI H109 ha (2) := aI_kp hp124 gha rfl rfl
        have m128 : aI H124 br (1) = aI H109 br (1) := aI_kp hp124 gbr rfl rfl
        have m129 : (sI H124 yd (X.1.2 8 0)).toInt = (sI H109 yd (X.1.2 8 0)).toInt := congrArg Int32.toInt (kp_I hp124 gyd (ci := 8) (k := 0) rfl (by decide) rfl)
        have m130 : (sI H124 yd (X.1.2 8 1)).toInt = (sI H109 yd (X.1.2 8 1)).toInt := congrArg Int32.toInt (kp_I hp124 gyd (ci := 8) (k := 1) rfl (by decide) rfl)
        have m131 : (sI H124 yd (X.1.2 8 2)).toInt = (sI H109 yd (X.1.2 8 2)).toInt := congrArg Int32.toInt (kp_I hp124 gyd (ci := 8) (k := 2) rfl (by decide) rfl)
        have m132 : (sI H124 yd (X.1.2 8 3)).toInt = (sI H109 yd (X.1.2 8 3)).toInt := congrArg Int32.toInt (kp_I hp124 gyd (ci := 8) (k := 3) rfl (by decide) rfl)
        have m133 : (sI H124 yd (X.1.2 8 4)).toInt = (sI H109 yd (X.1.2 8 4)).toInt := congrArg Int32.toInt (kp_I hp124 gyd (ci := 8) (k := 4) rfl (by decide) rfl)
        have m134 : (sI H124 yd (X.1.2 8 5)).toInt = (sI H109 yd (X.1.2 8 5)).toInt := congrArg Int32.toInt (kp_I hp124 gyd (ci := 8) (k := 5) rfl (by decide) rfl)
        have m135 : (sI H124 yd (X.1.2 8 6)).toInt = (sI H109 yd (X.1.2 8 6)).toInt := congrArg Int32.toInt (kp_I hp124 gyd (ci := 8) (k := 6) rfl (by decide) rfl)
        have m136 : SM H124 sn 36 = SM H109 sn 36 := SM_kp hp124 gsn rfl rfl
        have m137 : SM H124 wl 36 = SM H109 wl 36 := SM_kp hp124 gwl rfl rfl
        replace uhd : UHD H124 us hd := uhd.kp hp124 gus ghd rfl rfl
        obtain ⟨f124_0, f124_1, f124_2, f124_3, f124_4, f124_5⟩ := hr124
        have hv8 := f124_4 rfl
        clear f124_0
        clear f124_1
        clear f124_2
        clear f124_3
        replace f124_4 := f124_4 rfl
        clear f124_5
        refine lv_iadd hx hb dL_law_829 (lv_topi (fun v138 ev138 => ?_))
        have ev138i : v138.toInt = (((v80.toInt + v94.toInt) + v109.toInt) + v124.toInt) := i_add ev138 ev123i rfl (by omega) (by omega)
        refine lv_iload hx hb dL_law_830 (lv_at hl 2 rfl) ?_
        refine lv_aload_n hx hb dL_law_832 rfl (lv_at hl 5 rfl) ?_
        refine lv_bipush (v := 9) hx hb dL_law_833 rfl ?_
        refine r_goI (r_runV (As := [.int 9]) (rest := [.int v5, .int v138]) E hC124 hS124 (m_X11_many l X Γ H124 hC124 h0 g0 9 (a1 := 9) (by decide) yd ((kp_R hKp124 g0 (ci := 10) (k := 5) rfl (by decide) rfl).trans hyd) gyd sn wl su lw ic kn hd us br ar fi (yn.kp gyd hKp124 rfl) (by omega) (by omega)) cw_X11_many cl_RL_100 g0 ⟨rfl, rfl⟩ rfl hl.1 rfl (show _ ≤ _ from by simp [Value.category]) (by decide) dL_law_835) hS124 (fun v139 H139 locs139 hr139 hC139 hS139 => ?_)
        obtain ⟨hp139, hr139⟩ := hr139
        have hKp139 := hKp124.tr (hp139.mono rfl)
        have m140 : aI H139 ha (0) = aI H124 ha (0) := aI_kp hp139 gha rfl rfl
        have m141 : aI H139 ha (1) = aI H124 ha (1) := aI_kp hp139 gha rfl rfl
        have m142 : aI H139 ha (2) = aI H124 ha (2) := aI_kp hp139 gha rfl rfl
        have m143 : aI H139 br (1) = aI H124 br (1) := aI_kp hp139 gbr rfl rfl
        have m144 : (sI H139 yd (X.1.2 8 0)).toInt = (sI H124 yd (X.1.2 8 0)).toInt := congrArg Int32.toInt (kp_I hp139 gyd (ci := 8) (k := 0) rfl (by decide) rfl)
        have m145 : (sI H139 yd (X.1.2 8 1)).toInt = (sI H124 yd (X.1.2 8 1)).toInt := congrArg Int32.toInt (kp_I hp139 gyd (ci := 8) (k := 1) rfl (by decide) rfl)
        have m146 : (sI H139 yd (X.1.2 8 2)).toInt = (sI H124 yd (X.1.2 8 2)).toInt := congrArg Int32.toInt (kp_I hp139 gyd (ci := 8) (k := 2) rfl (by decide) rfl)
        have m147 : (sI H139 yd (X.1.2 8 3)).toInt = (sI H124 yd (X.1.2 8 3)).toInt := congrArg Int32.toInt (kp_I hp139 gyd (ci := 8) (k := 3) rfl (by decide) rfl)
        have m148 : (sI H139 yd (X.1.2 8 4)).toInt = (sI H124 yd (X.1.2 8 4)).toInt := congrArg Int32.toInt (kp_I hp139 gyd (ci := 8) (k := 4) rfl (by decide) rfl)
        have m149 : (sI H139 yd (X.1.2 8 5)).toInt = (sI H124 yd (X.1.2 8 5)).toInt := congrArg Int32.toInt (kp_I hp139 gyd (ci := 8) (k := 5) rfl (by decide) rfl)
        have m150 : (sI H139 yd (X.1.2 8 6)).toInt = (sI H124 yd (X.1.2 8 6)).toInt := congrArg Int32.toInt (kp_I hp139 gyd (ci := 8) (k := 6) rfl (by decide) rfl)
        have m151 : SM H139 sn 36 = SM H124 sn 36 := SM_kp hp139 gsn rfl rfl
        have m152 : SM H139 wl 36 = SM H124 wl 36 := SM_kp hp139 gwl rfl rfl
        replace uhd : UHD H139 us hd := uhd.kp hp139 gus ghd rfl rfl
        obtain ⟨f139_0, f139_1, f139_2, f139_3, f139_4, f139_5⟩ := hr139
        have hv9 := f139_5 rfl
        clear f139_0
        clear f139_1
        clear f139_2
        clear f139_3
        clear f139_4
        replace f139_5 := f139_5 rfl
        refine lv_iadd hx hb dL_law_838 (lv_topi (fun v153 ev153 => ?_))
        have ev153i : v153.toInt = (z5 + v139.toInt) := i_add ev153 ev5 rfl (by omega) (by omega)
        refine q_icmp_eq hx hb (a := (((v80.toInt + v94.toInt) + v109.toInt) + v124.toInt)) (b := (z5 + v139.toInt)) ev138i ev153i (tgt := 844) dL_law_839 rfl (fun c154 => ?_) (fun c154 => ?_)
        · refine lv_aload_n hx hb dL_law_844 rfl (lv_at hl 5 rfl) ?_
          refine lv_iconst (v := 4) hx hb dL_law_845 rfl ?_
          refine r_goI (r_runV (As := [.int 4]) (rest := []) E hC139 hS139 (m_X11_many l X Γ H139 hC139 h0 g0 4 (a1 := 4) (by decide) yd ((kp_R hKp139 g0 (ci := 10) (k := 5) rfl (by decide) rfl).trans hyd) gyd sn wl su lw ic kn hd us br ar fi (yn.kp gyd hKp139 rfl) (by omega) (by omega)) cw_X11_many cl_RL_100 g0 ⟨rfl, rfl⟩ rfl hl.1 rfl (Nat.zero_le _) (by decide) dL_law_846) hS139 (fun v155 H155 locs155 hr155 hC155 hS155 => ?_)
          obtain ⟨hp155, hr155⟩ := hr155
          have hKp155 := hKp139.tr (hp155.mono rfl)
          have m156 : aI H155 ha (0) = aI H139 ha (0) := aI_kp hp155 gha rfl rfl
          have m157 : aI H155 ha (1) = aI H139 ha (1) := aI_kp hp155 gha rfl rfl
          have m158 : aI H155 ha (2) = aI H139 ha (2) := aI_kp hp155 gha rfl rfl
          have m159 : aI H155 br (1) = aI H139 br (1) := aI_kp hp155 gbr rfl rfl
          have m160 : (sI H155 yd (X.1.2 8 0)).toInt = (sI H139 yd (X.1.2 8 0)).toInt := congrArg Int32.toInt (kp_I hp155 gyd (ci := 8) (k := 0) rfl (by decide) rfl)
          have m161 : (sI H155 yd (X.1.2 8 1)).toInt = (sI H139 yd (X.1.2 8 1)).toInt := congrArg Int32.toInt (kp_I hp155 gyd (ci := 8) (k := 1) rfl (by decide) rfl)
          have m162 : (sI H155 yd (X.1.2 8 2)).toInt = (sI H139 yd (X.1.2 8 2)).toInt := congrArg Int32.toInt (kp_I hp155 gyd (ci := 8) (k := 2) rfl (by decide) rfl)
          have m163 : (sI H155 yd (X.1.2 8 3)).toInt = (sI H139 yd (X.1.2 8 3)).toInt := congrArg Int32.toInt (kp_I hp155 gyd (ci := 8) (k := 3) rfl (by decide) rfl)
          have m164 : (sI H155 yd (X.1.2 8 4)).toInt = (sI H139 yd (X.1.2 8 4)).toInt := congrArg Int32.toInt (kp_I hp155 gyd (ci := 8) (k := 4) rfl (by decide) rfl)
          have m165 : (sI H155 yd (X.1.2 8 5)).toInt = (sI H139 yd (X.1.2 8 5)).toInt := congrArg Int32.toInt (kp_I hp155 gyd (ci := 8) (k := 5) rfl (by decide) rfl)
          have m166 : (sI H155 yd (X.1.2 8 6)).toInt = (sI H139 yd (X.1.2 8 6)).toInt := congrArg Int32.toInt (kp_I hp155 gyd (ci := 8) (k := 6) rfl (by decide) rfl)
          have m167 : SM H155 sn 36 = SM H139 sn 36 := SM_kp hp155 gsn rfl rfl
          have m168 : SM H155 wl 36 = SM H139 wl 36 := SM_kp hp155 gwl rfl rfl
          replace uhd : UHD H155 us hd := uhd.kp hp155 gus ghd rfl rfl
          obtain ⟨f155_0, f155_1, f155_2, f155_3, f155_4, f155_5⟩ := hr155
          have b4 : v155 = sI H155 br 0 + sI H155 br 1 := by rw [kp_aI hp155 0 gbr rfl rfl, kp_aI hp155 1 gbr rfl rfl]; exact f155_0 rfl
          obtain ⟨m4, hm4⟩ : ∃ z, v155 = z := ⟨_, rfl⟩
          have hm5 := congrArg Int32.toInt hm4
          have hz1 : s9 = 1 → sI H155 br 1 = 0 := fun q => Int32.toInt_inj.mp (show aI H155 br 1 = 0 by have hb9 := hbr q; clear hbr; omega)
          replace f155_0 := f155_0 rfl
          clear f155_1
          clear f155_2
          clear f155_3
          clear f155_4
          clear f155_5
          refine lv_aload_n hx hb dL_law_849 rfl (lv_at hl 5 rfl) ?_
          refine lv_iconst (v := 0) hx hb dL_law_850 rfl ?_
          refine lv_iconst (v := 2) hx hb dL_law_851 rfl ?_
          refine r_goI (r_runV (As := [.int 0, .int 2]) (rest := [.int v155]) E hC155 hS155 (m_X11_school l X Γ H155 hC155 h0 g0 0 (a1 := 0) (by decide) 2 (a2 := 2) (by decide) yd ((kp_R hKp155 g0 (ci := 10) (k := 5) rfl (by decide) rfl).trans hyd) gyd sn wl su lw ic kn hd us br ar fi (yn.kp gyd hKp155 rfl) (by omega) (by omega) (by omega) (by omega) (by omega)) cw_X11_school cl_RL_122 g0 ⟨rfl, rfl⟩ rfl hl.1 rfl (show _ ≤ _ from by simp [Value.category]) (by decide) dL_law_852) hS155 (fun v169 H169 locs169 hr169 hC169 hS169 => ?_)
          obtain ⟨hp169, hr169⟩ := hr169
          have hKp169 := hKp155.tr (hp169.mono rfl)
          have m170 : aI H169 ha (0) = aI H155 ha (0) := aI_kp hp169 gha rfl rfl
          have m171 : aI H169 ha (1) = aI H155 ha (1) := aI_kp hp169 gha rfl rfl
          have m172 : aI H169 ha (2) = aI H155 ha (2) := aI_kp hp169 gha rfl rfl
          have m173 : aI H169 br (1) = aI H155 br (1) := aI_kp hp169 gbr rfl rfl
          have m174 : (sI H169 yd (X.1.2 8 0)).toInt = (sI H155 yd (X.1.2 8 0)).toInt := congrArg Int32.toInt (kp_I hp169 gyd (ci := 8) (k := 0) rfl (by decide) rfl)
          have m175 : (sI H169 yd (X.1.2 8 1)).toInt = (sI H155 yd (X.1.2 8 1)).toInt := congrArg Int32.toInt (kp_I hp169 gyd (ci := 8) (k := 1) rfl (by decide) rfl)
          have m176 : (sI H169 yd (X.1.2 8 2)).toInt = (sI H155 yd (X.1.2 8 2)).toInt := congrArg Int32.toInt (kp_I hp169 gyd (ci := 8) (k := 2) rfl (by decide) rfl)
          have m177 : (sI H169 yd (X.1.2 8 3)).toInt = (sI H155 yd (X.1.2 8 3)).toInt := congrArg Int32.toInt (kp_I hp169 gyd (ci := 8) (k := 3) rfl (by decide) rfl)
          have m178 : (sI H169 yd (X.1.2 8 4)).toInt = (sI H155 yd (X.1.2 8 4)).toInt := congrArg Int32.toInt (kp_I hp169 gyd (ci := 8) (k := 4) rfl (by decide) rfl)
          have m179 : (sI H169 yd (X.1.2 8 5)).toInt = (sI H155 yd (X.1.2 8 5)).toInt := congrArg Int32.toInt (kp_I hp169 gyd (ci := 8) (k := 5) rfl (by decide) rfl)
          have m180 : (sI H169 yd (X.1.2 8 6)).toInt = (sI H155 yd (X.1.2 8 6)).toInt := congrArg Int32.toInt (kp_I hp169 gyd (ci := 8) (k := 6) rfl (by decide) rfl)
          have m181 : SM H169 sn 36 = SM H155 sn 36 := SM_kp hp169 gsn rfl rfl
          have m182 : SM H169 wl 36 = SM H155 wl 36 := SM_kp hp169 gwl rfl rfl
          replace uhd : UHD H169 us hd := uhd.kp hp169 gus ghd rfl rfl
          obtain ⟨f169_0, f169_1, f169_2, f169_3⟩ := hr169
          have b2 : v169 = sI H169 br 0 := by rw [kp_aI hp169 0 gbr rfl rfl]; exact f169_2 rfl
          have c0 := kp_aI hp169 0 gbr rfl rfl
          have c1 := kp_aI hp169 1 gbr rfl rfl
          clear f169_0
          clear f169_1
          replace f169_2 := f169_2 rfl
          clear f169_3
          refine lv_aload_n hx hb dL_law_855 rfl (lv_at hl 7 rfl) ?_
          refine lv_iconst (v := 2) hx hb dL_law_856 rfl ?_
          refine q_iald E hC169 gha rfl rfl (rl_91_2 (show (2 : Int32).toInt = 2 from by decide) (by omega) (by omega)) (i_in (a := 2) (show (2 : Int32).toInt = 2 from by decide) (by omega) (by omega)) dL_law_857 (fun v183 ev183 lv183 uv183 => ?_)
          have m184 : aI H169 ha (2) = v183.toInt := aI_of (show (2 : Int32).toInt = 2 from by decide) ev183
          refine lv_iconst (v := 1) hx hb dL_law_858 rfl ?_
          refine q_icmp_le hx hb (a := v183.toInt) (b := 1) rfl (by decide) (tgt := 871) dL_law_859 rfl (fun c185 => ?_) (fun c185 => ?_)
          · refine lv_iconst (v := 0) hx hb dL_law_871 rfl ?_
            refine lv_iadd hx hb dL_law_872 (lv_topi (fun v186 ev186 => ?_))
            have hz2 : v186 = m4 := by
              first
              | (rw [ev186, b2, b3, d1, c1, c0]; exact b4.symm.trans hm4)
              | (rw [ev186, b2, c0, ← hm4, b4, hz1 (by omega)])
            have hz3 := congrArg Int32.toInt hz2
            have c187 := i_rng v169; rw [show v169.toInt = v169.toInt from rfl] at c187
            have ev186i : v186.toInt = (v169.toInt + 0) := i_add ev186 rfl (by decide) (by omega) (by omega)
            have c188 := i_rng v155; rw [show v155.toInt = v155.toInt from rfl] at c188
            have c189 := i_rng v186; rw [show v186.toInt = (v169.toInt + 0) from ev186i] at c189
            refine q_icmp_eq hx hb (a := v155.toInt) (b := (v169.toInt + 0)) rfl ev186i (tgt := 878) dL_law_873 rfl (fun c190 => ?_) (fun c190 => ?_)
            · exact hk H169 locs169 ls hC169 hS169 hKp169 (uhd) (by omega) (by omega) (by omega) (by omega) (by omega) (by omega) (lv_sub hl [0, 1, 2, 3, 4, 5, 6, 7] rfl)
            · (exfalso; omega)
          · refine lv_aload_n hx hb dL_law_862 rfl (lv_at hl 5 rfl) ?_
            refine lv_iconst (v := 1) hx hb dL_law_863 rfl ?_
            refine lv_iconst (v := 2) hx hb dL_law_864 rfl ?_
            refine r_goI (r_runV (As := [.int 1, .int 2]) (rest := [.int v169, .int v155]) E hC169 hS169 (m_X11_school l X Γ H169 hC169 h0 g0 1 (a1 := 1) (by decide) 2 (a2 := 2) (by decide) yd ((kp_R hKp169 g0 (ci := 10) (k := 5) rfl (by decide) rfl).trans hyd) gyd sn wl su lw ic kn hd us br ar fi (yn.kp gyd hKp169 rfl) (by omega) (by omega) (by omega) (by omega) (by omega)) cw_X11_school cl_RL_122 g0 ⟨rfl, rfl⟩ rfl hl.1 rfl (show _ ≤ _ from by simp [Value.category]) (by decide) dL_law_865) hS169 (fun v191 H191 locs191 hr191 hC191 hS191 => ?_)
            obtain ⟨hp191, hr191⟩ := hr191
            have hKp191 := hKp169.tr (hp191.mono rfl)
            have m192 : aI H191 ha (0) = aI H169 ha (0) := aI_kp hp191 gha rfl rfl
            have m193 : aI H191 ha (1) = aI H169 ha (1) := aI_kp hp191 gha rfl rfl
            have m194 : aI H191 ha (2) = aI H169 ha (2) := aI_kp hp191 gha rfl rfl
            have m195 : aI H191 br (1) = aI H169 br (1) := aI_kp hp191 gbr rfl rfl
            have m196 : (sI H191 yd (X.1.2 8 0)).toInt = (sI H169 yd (X.1.2 8 0)).toInt := congrArg Int32.toInt (kp_I hp191 gyd (ci := 8) (k := 0) rfl (by decide) rfl)
            have m197 : (sI H191 yd (X.1.2 8 1)).toInt = (sI H169 yd (X.1.2 8 1)).toInt := congrArg Int32.toInt (kp_I hp191 gyd (ci := 8) (k := 1) rfl (by decide) rfl)
            have m198 : (sI H191 yd (X.1.2 8 2)).toInt = (sI H169 yd (X.1.2 8 2)).toInt := congrArg Int32.toInt (kp_I hp191 gyd (ci := 8) (k := 2) rfl (by decide) rfl)
            have m199 : (sI H191 yd (X.1.2 8 3)).toInt = (sI H169 yd (X.1.2 8 3)).toInt := congrArg Int32.toInt (kp_I hp191 gyd (ci := 8) (k := 3) rfl (by decide) rfl)
            have m200 : (sI H191 yd (X.1.2 8 4)).toInt = (sI H169 yd (X.1.2 8 4)).toInt := congrArg Int32.toInt (kp_I hp191 gyd (ci := 8) (k := 4) rfl (by decide) rfl)
            have m201 : (sI H191 yd (X.1.2 8 5)).toInt = (sI H169 yd (X.1.2 8 5)).toInt := congrArg Int32.toInt (kp_I hp191 gyd (ci := 8) (k := 5) rfl (by decide) rfl)
            have m202 : (sI H191 yd (X.1.2 8 6)).toInt = (sI H169 yd (X.1.2 8 6)).toInt := congrArg Int32.toInt (kp_I hp191 gyd (ci := 8) (k := 6) rfl (by decide) rfl)
            have m203 : SM H191 sn 36 = SM H169 sn 36 := SM_kp hp191 gsn rfl rfl
            have m204 : SM H191 wl 36 = SM H169 wl 36 := SM_kp hp191 gwl rfl rfl
            replace uhd : UHD H191 us hd := uhd.kp hp191 gus ghd rfl rfl
            obtain ⟨f191_0, f191_1, f191_2, f191_3⟩ := hr191
            have b3 : v191 = sI H191 br 1 := by rw [kp_aI hp191 1 gbr rfl rfl]; exact f191_2 rfl
            have d1 := kp_aI hp191 1 gbr rfl rfl
            clear f191_0
            clear f191_1
            replace f191_2 := f191_2 rfl
            clear f191_3
            refine lv_goto (tgt := 872) hx hb dL_law_868 rfl ?_
            refine lv_iadd hx hb dL_law_872 (lv_topi (fun v205 ev205 => ?_))
            have hz2 : v205 = m4 := by
              first
              | (rw [ev205, b2, b3, d1, c1, c0]; exact b4.symm.trans hm4)
              | (rw [ev205, b2, c0, ← hm4, b4, hz1 (by omega)])
            have hz3 := congrArg Int32.toInt hz2
            have c206 := i_rng v155; rw [show v155.toInt = v155.toInt from rfl] at c206
            have c207 := i_rng v205; rw [show v205.toInt = v205.toInt from rfl] at c207
            refine q_icmp_eq hx hb (a := v155.toInt) (b := v205.toInt) rfl rfl (tgt := 878) dL_law_873 rfl (fun c208 => ?_) (fun c208 => ?_)
            · exact hk H191 locs191 ls hC191 hS191 hKp191 (uhd) (by omega) (by omega) (by omega) (by omega) (by omega) (by omega) (lv_sub hl [0, 1, 2, 3, 4, 5, 6, 7] rfl)
            · (exfalso; omega)
        · (exfalso; omega)
      · refine lv_aload_n hx hb dL_law_767 rfl (lv_at hl 5 rfl) ?_
        refine r_goI (r_runV (As := []) (rest := []) E hC39 hS39 (m_X11_night l X Γ H39 hC39 h0 g0 yd ((kp_R hKp39 g0 (ci := 10) (k := 5) rfl (by decide) rfl).trans hyd) gyd sn wl su lw ic kn hd us br ar fi (yn.kp gyd hKp39 rfl) (by omega)) cw_X11_night cl_RL_150 g0 ⟨rfl, rfl⟩ rfl hl.1 rfl (Nat.zero_le _) (by decide) dL_law_768) hS39 (fun v209 H209 locs209 hr209 hC209 hS209 => ?_)
        obtain ⟨hp209, hr209⟩ := hr209
        have hKp209 := hKp39.tr (hp209.mono rfl)
        have m210 : aI H209 ha (0) = aI H39 ha (0) := aI_kp hp209 gha rfl rfl
        have m211 : aI H209 ha (1) = aI H39 ha (1) := aI_kp hp209 gha rfl rfl
        have m212 : aI H209 ha (2) = aI H39 ha (2) := aI_kp hp209 gha rfl rfl
        have m213 : aI H209 br (1) = aI H39 br (1) := aI_kp hp209 gbr rfl rfl
        have m214 : (sI H209 yd (X.1.2 8 0)).toInt = (sI H39 yd (X.1.2 8 0)).toInt := congrArg Int32.toInt (kp_I hp209 gyd (ci := 8) (k := 0) rfl (by decide) rfl)
        have m215 : (sI H209 yd (X.1.2 8 1)).toInt = (sI H39 yd (X.1.2 8 1)).toInt := congrArg Int32.toInt (kp_I hp209 gyd (ci := 8) (k := 1) rfl (by decide) rfl)
        have m216 : (sI H209 yd (X.1.2 8 2)).toInt = (sI H39 yd (X.1.2 8 2)).toInt := congrArg Int32.toInt (kp_I hp209 gyd (ci := 8) (k := 2) rfl (by decide) rfl)
        have m218 : (sI H209 yd (X.1.2 8 4)).toInt = (sI H39 yd (X.1.2 8 4)).toInt := congrArg Int32.toInt (kp_I hp209 gyd (ci := 8) (k := 4) rfl (by decide) rfl)
        have m219 : (sI H209 yd (X.1.2 8 5)).toInt = (sI H39 yd (X.1.2 8 5)).toInt := congrArg Int32.toInt (kp_I hp209 gyd (ci := 8) (k := 5) rfl (by decide) rfl)
        have m220 : (sI H209 yd (X.1.2 8 6)).toInt = (sI H39 yd (X.1.2 8 6)).toInt := congrArg Int32.toInt (kp_I hp209 gyd (ci := 8) (k := 6) rfl (by decide) rfl)
        have m221 : SM H209 sn 36 = SM H39 sn 36 := SM_kp hp209 gsn rfl rfl
        have m222 : SM H209 wl 36 = SM H39 wl 36 := SM_kp hp209 gwl rfl rfl
        obtain ⟨f209_0, f209_1, f209_2, f209_3⟩ := hr209
        have uhd : UHD H209 us hd := UHD.zero f209_2 f209_3 hC209 ghd
        refine lv_iconst (v := 1) hx hb dL_law_771 rfl ?_
        refine q_icmp_ge hx hb (a := v209.toInt) (b := 1) rfl (by decide) (tgt := 777) dL_law_772 rfl (fun c223 => ?_) (fun c223 => ?_)
        · refine lv_aload_n hx hb dL_law_777 rfl (lv_at hl 5 rfl) ?_
          refine lv_iconst (v := 0) hx hb dL_law_778 rfl ?_
          refine lv_iconst (v := 0) hx hb dL_law_779 rfl ?_
          refine lv_aload_n hx hb dL_law_780 rfl (lv_at hl 7 rfl) ?_
          refine lv_iconst (v := 0) hx hb dL_law_781 rfl ?_
          refine q_iald E hC209 gha rfl rfl (rl_91_0 (show (0 : Int32).toInt = 0 from by decide) (by omega) (by omega)) (i_in (a := 0) (show (0 : Int32).toInt = 0 from by decide) (by omega) (by omega)) dL_law_782 (fun v224 ev224 lv224 uv224 => ?_)
          have m225 : aI H209 ha (0) = v224.toInt := aI_of (show (0 : Int32).toInt = 0 from by decide) ev224
          refine lv_iconst (v := 1) hx hb dL_law_783 rfl ?_
          refine lv_isub hx hb dL_law_784 (lv_topi (fun v226 ev226 => ?_))
          have ev226i : v226.toInt = (v224.toInt - 1) := i_sub ev226 rfl (by decide) (by omega) (by omega)
          refine lv_aload_n hx hb dL_law_785 rfl (lv_at hl 7 rfl) ?_
          refine lv_iconst (v := 1) hx hb dL_law_786 rfl ?_
          refine q_iald E hC209 gha rfl rfl (rl_91_1 (show (1 : Int32).toInt = 1 from by decide) (by omega) (by omega)) (i_in (a := 1) (show (1 : Int32).toInt = 1 from by decide) (by omega) (by omega)) dL_law_787 (fun v227 ev227 lv227 uv227 => ?_)
          have m228 : aI H209 ha (1) = v227.toInt := aI_of (show (1 : Int32).toInt = 1 from by decide) ev227
          refine lv_iconst (v := 1) hx hb dL_law_788 rfl ?_
          refine lv_isub hx hb dL_law_789 (lv_topi (fun v229 ev229 => ?_))
          have ev229i : v229.toInt = (v227.toInt - 1) := i_sub ev229 rfl (by decide) (by omega) (by omega)
          refine lv_iconst (v := 1) hx hb dL_law_790 rfl ?_
          refine lv_iload hx hb dL_law_791 (lv_at hl 0 rfl) ?_
          refine lv_bipush (v := 8) hx hb dL_law_793 rfl ?_
          refine lv_ishr hx hb dL_law_795 (lv_topi (fun v230 ev230 => ?_))
          refine lv_bipush (v := 15) hx hb dL_law_796 rfl ?_
          refine lv_iand hx hb dL_law_798 (lv_topi (fun v231 ev231 => ?_))
          have bv231 := i_andc ev231 (show (15 : Int32).toInt = 15 from by decide) (by decide)
          refine lv_iadd hx hb dL_law_799 (lv_topi (fun v232 ev232 => ?_))
          have ev232i : v232.toInt = (1 + v231.toInt) := i_add ev232 (by decide) rfl (by omega) (by omega)
          have hus0 := uhd 0 (by decide) (by decide)
          refine r_goI (r_runV (As := [.int 0, .int 0, .int v226, .int v229, .int v232]) (rest := []) E hC209 hS209 (m_X11_steal l X Γ H209 hC209 h0 g0 0 (a1 := 0) (by decide) 0 (a2 := 0) (by decide) v226 (a3 := (v224.toInt - 1)) ev226i v229 (a4 := (v227.toInt - 1)) ev229i v232 (a5 := (1 + v231.toInt)) ev232i yd ((kp_R hKp209 g0 (ci := 10) (k := 5) rfl (by decide) rfl).trans hyd) gyd sn wl su lw ic kn hd us br ar fi (yn.kp gyd hKp209 rfl) 0 (by omega) (by omega) (by omega) (by omega) (by omega) (by omega) (by omega) (by omega) (by omega) (by omega) (by omega) (by omega) (by omega) (by omega) (by omega) (by omega) (by omega) (by omega) (by omega)) cw_X11_steal cl_RL_153 g0 ⟨rfl, rfl⟩ rfl hl.1 rfl (Nat.zero_le _) (by decide) dL_law_800) hS209 (fun v233 H233 locs233 hr233 hC233 hS233 => ?_)
          obtain ⟨hp233, hr233⟩ := hr233
          have hKp233 := hKp209.tr (hp233.mono rfl)
          have m234 : aI H233 ha (0) = aI H209 ha (0) := aI_kp hp233 gha rfl rfl
          have m235 : aI H233 ha (1) = aI H209 ha (1) := aI_kp hp233 gha rfl rfl
          have m236 : aI H233 ha (2) = aI H209 ha (2) := aI_kp hp233 gha rfl rfl
          have m238 : (sI H233 yd (X.1.2 8 0)).toInt = (sI H209 yd (X.1.2 8 0)).toInt := congrArg Int32.toInt (kp_I hp233 gyd (ci := 8) (k := 0) rfl (by decide) rfl)
          have m239 : (sI H233 yd (X.1.2 8 1)).toInt = (sI H209 yd (X.1.2 8 1)).toInt := congrArg Int32.toInt (kp_I hp233 gyd (ci := 8) (k := 1) rfl (by decide) rfl)
          have m240 : (sI H233 yd (X.1.2 8 2)).toInt = (sI H209 yd (X.1.2 8 2)).toInt := congrArg Int32.toInt (kp_I hp233 gyd (ci := 8) (k := 2) rfl (by decide) rfl)
          have m241 : (sI H233 yd (X.1.2 8 3)).toInt = (sI H209 yd (X.1.2 8 3)).toInt := congrArg Int32.toInt (kp_I hp233 gyd (ci := 8) (k := 3) rfl (by decide) rfl)
          have m242 : (sI H233 yd (X.1.2 8 4)).toInt = (sI H209 yd (X.1.2 8 4)).toInt := congrArg Int32.toInt (kp_I hp233 gyd (ci := 8) (k := 4) rfl (by decide) rfl)
          have m244 : (sI H233 yd (X.1.2 8 6)).toInt = (sI H209 yd (X.1.2 8 6)).toInt := congrArg Int32.toInt (kp_I hp233 gyd (ci := 8) (k := 6) rfl (by decide) rfl)
          have m246 : SM H233 wl 36 = SM H209 wl 36 := SM_kp hp233 gwl rfl rfl
          obtain ⟨f233_0, f233_1, f233_2, f233_3, f233_4, f233_5⟩ := hr233
          have uhd : UHD H233 us hd := uhd.set f233_2 (fun _ => aI_kp hp233 ghd rfl rfl) f233_1
          have hb1 : aI H233 br 1 = aI H209 br 1 := f233_3.el (by decide) (by decide)
          have hsb1 := SM_bd (n := 36) hC233 gsn rfl rfl (fun _ => rfl) (by decide)
          have hsb2 := SM_bd (n := 36) hC233 gwl rfl rfl (fun _ => rfl) (by decide)
          refine lv_pop hx hb dL_law_803 rfl ?_
          refine lv_aload_n hx hb dL_law_804 rfl (lv_at hl 5 rfl) ?_
          refine lv_iconst (v := 5) hx hb dL_law_805 rfl ?_
          refine r_goI (r_runV (As := [.int 5]) (rest := []) E hC233 hS233 (m_X11_many l X Γ H233 hC233 h0 g0 5 (a1 := 5) (by decide) yd ((kp_R hKp233 g0 (ci := 10) (k := 5) rfl (by decide) rfl).trans hyd) gyd sn wl su lw ic kn hd us br ar fi (yn.kp gyd hKp233 rfl) (by omega) (by omega)) cw_X11_many cl_RL_100 g0 ⟨rfl, rfl⟩ rfl hl.1 rfl (Nat.zero_le _) (by decide) dL_law_806) hS233 (fun v247 H247 locs247 hr247 hC247 hS247 => ?_)
          obtain ⟨hp247, hr247⟩ := hr247
          have hKp247 := hKp233.tr (hp247.mono rfl)
          have m248 : aI H247 ha (0) = aI H233 ha (0) := aI_kp hp247 gha rfl rfl
          have m249 : aI H247 ha (1) = aI H233 ha (1) := aI_kp hp247 gha rfl rfl
          have m250 : aI H247 ha (2) = aI H233 ha (2) := aI_kp hp247 gha rfl rfl
          have m251 : aI H247 br (1) = aI H233 br (1) := aI_kp hp247 gbr rfl rfl
          have m252 : (sI H247 yd (X.1.2 8 0)).toInt = (sI H233 yd (X.1.2 8 0)).toInt := congrArg Int32.toInt (kp_I hp247 gyd (ci := 8) (k := 0) rfl (by decide) rfl)
          have m253 : (sI H247 yd (X.1.2 8 1)).toInt = (sI H233 yd (X.1.2 8 1)).toInt := congrArg Int32.toInt (kp_I hp247 gyd (ci := 8) (k := 1) rfl (by decide) rfl)
          have m254 : (sI H247 yd (X.1.2 8 2)).toInt = (sI H233 yd (X.1.2 8 2)).toInt := congrArg Int32.toInt (kp_I hp247 gyd (ci := 8) (k := 2) rfl (by decide) rfl)
          have m255 : (sI H247 yd (X.1.2 8 3)).toInt = (sI H233 yd (X.1.2 8 3)).toInt := congrArg Int32.toInt (kp_I hp247 gyd (ci := 8) (k := 3) rfl (by decide) rfl)
          have m256 : (sI H247 yd (X.1.2 8 4)).toInt = (sI H233 yd (X.1.2 8 4)).toInt := congrArg Int32.toInt (kp_I hp247 gyd (ci := 8) (k := 4) rfl (by decide) rfl)
          have m257 : (sI H247 yd (X.1.2 8 5)).toInt = (sI H233 yd (X.1.2 8 5)).toInt := congrArg Int32.toInt (kp_I hp247 gyd (ci := 8) (k := 5) rfl (by decide) rfl)
          have m258 : (sI H247 yd (X.1.2 8 6)).toInt = (sI H233 yd (X.1.2 8 6)).toInt := congrArg Int32.toInt (kp_I hp247 gyd (ci := 8) (k := 6) rfl (by decide) rfl)
          have m259 : SM H247 sn 36 = SM H233 sn 36 := SM_kp hp247 gsn rfl rfl
          have m260 : SM H247 wl 36 = SM H233 wl 36 := SM_kp hp247 gwl rfl rfl
          replace uhd : UHD H247 us hd := uhd.kp hp247 gus ghd rfl rfl
          obtain ⟨f247_0, f247_1, f247_2, f247_3, f247_4, f247_5⟩ := hr247
          have hv5 := f247_1 rfl
          clear f247_0
          replace f247_1 := f247_1 rfl
          clear f247_2
          clear f247_3
          clear f247_4
          clear f247_5
          refine lv_aload_n hx hb dL_law_809 rfl (lv_at hl 5 rfl) ?_
          refine lv_bipush (v := 6) hx hb dL_law_810 rfl ?_
          refine r_goI (r_runV (As := [.int 6]) (rest := [.int v247]) E hC247 hS247 (m_X11_many l X Γ H247 hC247 h0 g0 6 (a1 := 6) (by decide) yd ((kp_R hKp247 g0 (ci := 10) (k := 5) rfl (by decide) rfl).trans hyd) gyd sn wl su lw ic kn hd us br ar fi (yn.kp gyd hKp247 rfl) (by omega) (by omega)) cw_X11_many cl_RL_100 g0 ⟨rfl, rfl⟩ rfl hl.1 rfl (show _ ≤ _ from by simp [Value.category]) (by decide) dL_law_812) hS247 (fun v261 H261 locs261 hr261 hC261 hS261 => ?_)
          obtain ⟨hp261, hr261⟩ := hr261
          have hKp261 := hKp247.tr (hp261.mono rfl)
          have m262 : aI H261 ha (0) = aI H247 ha (0) := aI_kp hp261 gha rfl rfl
          have m263 : aI H261 ha (1) = aI H247 ha (1) := aI_kp hp261 gha rfl rfl
          have m264 : aI H261 ha (2) = aI H247 ha (2) := aI_kp hp261 gha rfl rfl
          have m265 : aI H261 br (1) = aI H247 br (1) := aI_kp hp261 gbr rfl rfl
          have m266 : (sI H261 yd (X.1.2 8 0)).toInt = (sI H247 yd (X.1.2 8 0)).toInt := congrArg Int32.toInt (kp_I hp261 gyd (ci := 8) (k := 0) rfl (by decide) rfl)
          have m267 : (sI H261 yd (X.1.2 8 1)).toInt = (sI H247 yd (X.1.2 8 1)).toInt := congrArg Int32.toInt (kp_I hp261 gyd (ci := 8) (k := 1) rfl (by decide) rfl)
          have m268 : (sI H261 yd (X.1.2 8 2)).toInt = (sI H247 yd (X.1.2 8 2)).toInt := congrArg Int32.toInt (kp_I hp261 gyd (ci := 8) (k := 2) rfl (by decide) rfl)
          have m269 : (sI H261 yd (X.1.2 8 3)).toInt = (sI H247 yd (X.1.2 8 3)).toInt := congrArg Int32.toInt (kp_I hp261 gyd (ci := 8) (k := 3) rfl (by decide) rfl)
          have m270 : (sI H261 yd (X.1.2 8 4)).toInt = (sI H247 yd (X.1.2 8 4)).toInt := congrArg Int32.toInt (kp_I hp261 gyd (ci := 8) (k := 4) rfl (by decide) rfl)
          have m271 : (sI H261 yd (X.1.2 8 5)).toInt = (sI H247 yd (X.1.2 8 5)).toInt := congrArg Int32.toInt (kp_I hp261 gyd (ci := 8) (k := 5) rfl (by decide) rfl)
          have m272 : (sI H261 yd (X.1.2 8 6)).toInt = (sI H247 yd (X.1.2 8 6)).toInt := congrArg Int32.toInt (kp_I hp261 gyd (ci := 8) (k := 6) rfl (by decide) rfl)
          have m273 : SM H261 sn 36 = SM H247 sn 36 := SM_kp hp261 gsn rfl rfl
          have m274 : SM H261 wl 36 = SM H247 wl 36 := SM_kp hp261 gwl rfl rfl
          replace uhd : UHD H261 us hd := uhd.kp hp261 gus ghd rfl rfl
          obtain ⟨f261_0, f261_1, f261_2, f261_3, f261_4, f261_5⟩ := hr261
          have hv6 := f261_2 rfl
          clear f261_0
          clear f261_1
          replace f261_2 := f261_2 rfl
          clear f261_3
          clear f261_4
          clear f261_5
          refine lv_iadd hx hb dL_law_815 (lv_topi (fun v275 ev275 => ?_))
          have ev275i : v275.toInt = (v247.toInt + v261.toInt) := i_add ev275 rfl rfl (by omega) (by omega)
          refine lv_aload_n hx hb dL_law_816 rfl (lv_at hl 5 rfl) ?_
          refine lv_bipush (v := 7) hx hb dL_law_817 rfl ?_
          refine r_goI (r_runV (As := [.int 7]) (rest := [.int v275]) E hC261 hS261 (m_X11_many l X Γ H261 hC261 h0 g0 7 (a1 := 7) (by decide) yd ((kp_R hKp261 g0 (ci := 10) (k := 5) rfl (by decide) rfl).trans hyd) gyd sn wl su lw ic kn hd us br ar fi (yn.kp gyd hKp261 rfl) (by omega) (by omega)) cw_X11_many cl_RL_100 g0 ⟨rfl, rfl⟩ rfl hl.1 rfl (show _ ≤ _ from by simp [Value.category]) (by decide) dL_law_819) hS261 (fun v276 H276 locs276 hr276 hC276 hS276 => ?_)
          obtain ⟨hp276, hr276⟩ := hr276
          have hKp276 := hKp261.tr (hp276.mono rfl)
          have m277 : aI H276 ha (0) = aI H261 ha (0) := aI_kp hp276 gha rfl rfl
          have m278 : aI H276 ha (1) = aI H261 ha (1) := aI_kp hp276 gha rfl rfl
          have m279 : aI H276 ha (2) = aI H261 ha (2) := aI_kp hp276 gha rfl rfl
          have m280 : aI H276 br (1) = aI H261 br (1) := aI_kp hp276 gbr rfl rfl
          have m281 : (sI H276 yd (X.1.2 8 0)).toInt = (sI H261 yd (X.1.2 8 0)).toInt := congrArg Int32.toInt (kp_I hp276 gyd (ci := 8) (k := 0) rfl (by decide) rfl)
          have m282 : (sI H276 yd (X.1.2 8 1)).toInt = (sI H261 yd (X.1.2 8 1)).toInt := congrArg Int32.toInt (kp_I hp276 gyd (ci := 8) (k := 1) rfl (by decide) rfl)
          have m283 : (sI H276 yd (X.1.2 8 2)).toInt = (sI H261 yd (X.1.2 8 2)).toInt := congrArg Int32.toInt (kp_I hp276 gyd (ci := 8) (k := 2) rfl (by decide) rfl)
          have m284 : (sI H276 yd (X.1.2 8 3)).toInt = (sI H261 yd (X.1.2 8 3)).toInt := congrArg Int32.toInt (kp_I hp276 gyd (ci := 8) (k := 3) rfl (by decide) rfl)
          have m285 : (sI H276 yd (X.1.2 8 4)).toInt = (sI H261 yd (X.1.2 8 4)).toInt := congrArg Int32.toInt (kp_I hp276 gyd (ci := 8) (k := 4) rfl (by decide) rfl)
          have m286 : (sI H276 yd (X.1.2 8 5)).toInt = (sI H261 yd (X.1.2 8 5)).toInt := congrArg Int32.toInt (kp_I hp276 gyd (ci := 8) (k := 5) rfl (by decide) rfl)
          have m287 : (sI H276 yd (X.1.2 8 6)).toInt = (sI H261 yd (X.1.2 8 6)).toInt := congrArg Int32.toInt (kp_I hp276 gyd (ci := 8) (k := 6) rfl (by decide) rfl)
          have m288 : SM H276 sn 36 = SM H261 sn 36 := SM_kp hp276 gsn rfl rfl
          have m289 : SM H276 wl 36 = SM H261 wl 36 := SM_kp hp276 gwl rfl rfl
          replace uhd : UHD H276 us hd := uhd.kp hp276 gus ghd rfl rfl
          obtain ⟨f276_0, f276_1, f276_2, f276_3, f276_4, f276_5⟩ := hr276
          have hv7 := f276_3 rfl
          clear f276_0
          clear f276_1
          clear f276_2
          replace f276_3 := f276_3 rfl
          clear f276_4
          clear f276_5
          refine lv_iadd hx hb dL_law_822 (lv_topi (fun v290 ev290 => ?_))
          have ev290i : v290.toInt = ((v247.toInt + v261.toInt) + v276.toInt) := i_add ev290 ev275i rfl (by omega) (by omega)
          refine lv_aload_n hx hb dL_law_823 rfl (lv_at hl 5 rfl) ?_
          refine lv_bipush (v := 8) hx hb dL_law_824 rfl ?_
          refine r_goI (r_runV (As := [.int 8]) (rest := [.int v290]) E hC276 hS276 (m_X11_many l X Γ H276 hC276 h0 g0 8 (a1 := 8) (by decide) yd ((kp_R hKp276 g0 (ci := 10) (k := 5) rfl (by decide) rfl).trans hyd) gyd sn wl su lw ic kn hd us br ar fi (yn.kp gyd hKp276 rfl) (by omega) (by omega)) cw_X11_many cl_RL_100 g0 ⟨rfl, rfl⟩ rfl hl.1 rfl (show _ ≤ _ from by simp [Value.category]) (by decide) dL_law_826) hS276 (fun v291 H291 locs291 hr291 hC291 hS291 => ?_)
          obtain ⟨hp291, hr291⟩ := hr291
          have hKp291 := hKp276.tr (hp291.mono rfl)
          have m292 : aI H291 ha (0) = aI H276 ha (0) := aI_kp hp291 gha rfl rfl
          have m293 : aI H291 ha (1) = aI H276 ha (1) := aI_kp hp291 gha rfl rfl
          have m294 : aI H291 ha (2) = aI H276 ha (2) := aI_kp hp291 gha rfl rfl
          have m295 : aI H291 br (1) = aI H276 br (1) := aI_kp hp291 gbr rfl rfl
          have m296 : (sI H291 yd (X.1.2 8 0)).toInt = (sI H276 yd (X.1.2 8 0)).toInt := congrArg Int32.toInt (kp_I hp291 gyd (ci := 8) (k := 0) rfl (by decide) rfl)
          have m297 : (sI H291 yd (X.1.2 8 1)).toInt = (sI H276 yd (X.1.2 8 1)).toInt := congrArg Int32.toInt (kp_I hp291 gyd (ci := 8) (k := 1) rfl (by decide) rfl)
          have m298 : (sI H291 yd (X.1.2 8 2)).toInt = (sI H276 yd (X.1.2 8 2)).toInt := congrArg Int32.toInt (kp_I hp291 gyd (ci := 8) (k := 2) rfl (by decide) rfl)
          have m299 : (sI H291 yd (X.1.2 8 3)).toInt = (sI H276 yd (X.1.2 8 3)).toInt := congrArg Int32.toInt (kp_I hp291 gyd (ci := 8) (k := 3) rfl (by decide) rfl)
          have m300 : (sI H291 yd (X.1.2 8 4)).toInt = (sI H276 yd (X.1.2 8 4)).toInt := congrArg Int32.toInt (kp_I hp291 gyd (ci := 8) (k := 4) rfl (by decide) rfl)
          have m301 : (sI H291 yd (X.1.2 8 5)).toInt = (sI H276 yd (X.1.2 8 5)).toInt := congrArg Int32.toInt (kp_I hp291 gyd (ci := 8) (k := 5) rfl (by decide) rfl)
          have m302 : (sI H291 yd (X.1.2 8 6)).toInt = (sI H276 yd (X.1.2 8 6)).toInt := congrArg Int32.toInt (kp_I hp291 gyd (ci := 8) (k := 6) rfl (by decide) rfl)
          have m303 : SM H291 sn 36 = SM H276 sn 36 := SM_kp hp291 gsn rfl rfl
          have m304 : SM H291 wl 36 = SM H276 wl 36 := SM_kp hp291 gwl rfl rfl
          replace uhd : UHD H291 us hd := uhd.kp hp291 gus ghd rfl rfl
          obtain ⟨f291_0, f291_1, f291_2, f291_3, f291_4, f291_5⟩ := hr291
          have hv8 := f291_4 rfl
          clear f291_0
          clear f291_1
          clear f291_2
          clear f291_3
          replace f291_4 := f291_4 rfl
          clear f291_5
          refine lv_iadd hx hb dL_law_829 (lv_topi (fun v305 ev305 => ?_))
          have ev305i : v305.toInt = (((v247.toInt + v261.toInt) + v276.toInt) + v291.toInt) := i_add ev305 ev290i rfl (by omega) (by omega)
          refine lv_iload hx hb dL_law_830 (lv_at hl 2 rfl) ?_
          refine lv_aload_n hx hb dL_law_832 rfl (lv_at hl 5 rfl) ?_
          refine lv_bipush (v := 9) hx hb dL_law_833 rfl ?_
          refine r_goI (r_runV (As := [.int 9]) (rest := [.int v5, .int v305]) E hC291 hS291 (m_X11_many l X Γ H291 hC291 h0 g0 9 (a1 := 9) (by decide) yd ((kp_R hKp291 g0 (ci := 10) (k := 5) rfl (by decide) rfl).trans hyd) gyd sn wl su lw ic kn hd us br ar fi (yn.kp gyd hKp291 rfl) (by omega) (by omega)) cw_X11_many cl_RL_100 g0 ⟨rfl, rfl⟩ rfl hl.1 rfl (show _ ≤ _ from by simp [Value.category]) (by decide) dL_law_835) hS291 (fun v306 H306 locs306 hr306 hC306 hS306 => ?_)
          obtain ⟨hp306, hr306⟩ := hr306
          have hKp306 := hKp291.tr (hp306.mono rfl)
          have m307 : aI H306 ha (0) = aI H291 ha (0) := aI_kp hp306 gha rfl rfl
          have m308 : aI H306 ha (1) = aI H291 ha (1) := aI_kp hp306 gha rfl rfl
          have m309 : aI H306 ha (2) = aI H291 ha (2) := aI_kp hp306 gha rfl rfl
          have m310 : aI H306 br (1) = aI H291 br (1) := aI_kp hp306 gbr rfl rfl
          have m311 : (sI H306 yd (X.1.2 8 0)).toInt = (sI H291 yd (X.1.2 8 0)).toInt := congrArg Int32.toInt (kp_I hp306 gyd (ci := 8) (k := 0) rfl (by decide) rfl)
          have m312 : (sI H306 yd (X.1.2 8 1)).toInt = (sI H291 yd (X.1.2 8 1)).toInt := congrArg Int32.toInt (kp_I hp306 gyd (ci := 8) (k := 1) rfl (by decide) rfl)
          have m313 : (sI H306 yd (X.1.2 8 2)).toInt = (sI H291 yd (X.1.2 8 2)).toInt := congrArg Int32.toInt (kp_I hp306 gyd (ci := 8) (k := 2) rfl (by decide) rfl)
          have m314 : (sI H306 yd (X.1.2 8 3)).toInt = (sI H291 yd (X.1.2 8 3)).toInt := congrArg Int32.toInt (kp_I hp306 gyd (ci := 8) (k := 3) rfl (by decide) rfl)
          have m315 : (sI H306 yd (X.1.2 8 4)).toInt = (sI H291 yd (X.1.2 8 4)).toInt := congrArg Int32.toInt (kp_I hp306 gyd (ci := 8) (k := 4) rfl (by decide) rfl)
          have m316 : (sI H306 yd (X.1.2 8 5)).toInt = (sI H291 yd (X.1.2 8 5)).toInt := congrArg Int32.toInt (kp_I hp306 gyd (ci := 8) (k := 5) rfl (by decide) rfl)
          have m317 : (sI H306 yd (X.1.2 8 6)).toInt = (sI H291 yd (X.1.2 8 6)).toInt := congrArg Int32.toInt (kp_I hp306 gyd (ci := 8) (k := 6) rfl (by decide) rfl)
          have m318 : SM H306 sn 36 = SM H291 sn 36 := SM_kp hp306 gsn rfl rfl
          have m319 : SM H306 wl 36 = SM H291 wl 36 := SM_kp hp306 gwl rfl rfl
          replace uhd : UHD H306 us hd := uhd.kp hp306 gus ghd rfl rfl
          obtain ⟨f306_0, f306_1, f306_2, f306_3, f306_4, f306_5⟩ := hr306
          have hv9 := f306_5 rfl
          clear f306_0
          clear f306_1
          clear f306_2
          clear f306_3
          clear f306_4
          replace f306_5 := f306_5 rfl
          refine lv_iadd hx hb dL_law_838 (lv_topi (fun v320 ev320 => ?_))
          have ev320i : v320.toInt = (z5 + v306.toInt) := i_add ev320 ev5 rfl (by omega) (by omega)
          refine q_icmp_eq hx hb (a := (((v247.toInt + v261.toInt) + v276.toInt) + v291.toInt)) (b := (z5 + v306.toInt)) ev305i ev320i (tgt := 844) dL_law_839 rfl (fun c321 => ?_) (fun c321 => ?_)
          · refine lv_aload_n hx hb dL_law_844 rfl (lv_at hl 5 rfl) ?_
            refine lv_iconst (v := 4) hx hb dL_law_845 rfl ?_
            refine r_goI (r_runV (As := [.int 4]) (rest := []) E hC306 hS306 (m_X11_many l X Γ H306 hC306 h0 g0 4 (a1 := 4) (by decide) yd ((kp_R hKp306 g0 (ci := 10) (k := 5) rfl (by decide) rfl).trans hyd) gyd sn wl su lw ic kn hd us br ar fi (yn.kp gyd hKp306 rfl) (by omega) (by omega)) cw_X11_many cl_RL_100 g0 ⟨rfl, rfl⟩ rfl hl.1 rfl (Nat.zero_le _) (by decide) dL_law_846) hS306 (fun v322 H322 locs322 hr322 hC322 hS322 => ?_)
            obtain ⟨hp322, hr322⟩ := hr322
            have hKp322 := hKp306.tr (hp322.mono rfl)
            have m323 : aI H322 ha (0) = aI H306 ha (0) := aI_kp hp322 gha rfl rfl
            have m324 : aI H322 ha (1) = aI H306 ha (1) := aI_kp hp322 gha rfl rfl
            have m325 : aI H322 ha (2) = aI H306 ha (2) := aI_kp hp322 gha rfl rfl
            have m326 : aI H322 br (1) = aI H306 br (1) := aI_kp hp322 gbr rfl rfl
            have m327 : (sI H322 yd (X.1.2 8 0)).toInt = (sI H306 yd (X.1.2 8 0)).toInt := congrArg Int32.toInt (kp_I hp322 gyd (ci := 8) (k := 0) rfl (by decide) rfl)
            have m328 : (sI H322 yd (X.1.2 8 1)).toInt = (sI H306 yd (X.1.2 8 1)).toInt := congrArg Int32.toInt (kp_I hp322 gyd (ci := 8) (k := 1) rfl (by decide) rfl)
            have m329 : (sI H322 yd (X.1.2 8 2)).toInt = (sI H306 yd (X.1.2 8 2)).toInt := congrArg Int32.toInt (kp_I hp322 gyd (ci := 8) (k := 2) rfl (by decide) rfl)
            have m330 : (sI H322 yd (X.1.2 8 3)).toInt = (sI H306 yd (X.1.2 8 3)).toInt := congrArg Int32.toInt (kp_I hp322 gyd (ci := 8) (k := 3) rfl (by decide) rfl)
            have m331 : (sI H322 yd (X.1.2 8 4)).toInt = (sI H306 yd (X.1.2 8 4)).toInt := congrArg Int32.toInt (kp_I hp322 gyd (ci := 8) (k := 4) rfl (by decide) rfl)
            have m332 : (sI H322 yd (X.1.2 8 5)).toInt = (sI H306 yd (X.1.2 8 5)).toInt := congrArg Int32.toInt (kp_I hp322 gyd (ci := 8) (k := 5) rfl (by decide) rfl)
            have m333 : (sI H322 yd (X.1.2 8 6)).toInt = (sI H306 yd (X.1.2 8 6)).toInt := congrArg Int32.toInt (kp_I hp322 gyd (ci := 8) (k := 6) rfl (by decide) rfl)
            have m334 : SM H322 sn 36 = SM H306 sn 36 := SM_kp hp322 gsn rfl rfl
            have m335 : SM H322 wl 36 = SM H306 wl 36 := SM_kp hp322 gwl rfl rfl
            replace uhd : UHD H322 us hd := uhd.kp hp322 gus ghd rfl rfl
            obtain ⟨f322_0, f322_1, f322_2, f322_3, f322_4, f322_5⟩ := hr322
            have b4 : v322 = sI H322 br 0 + sI H322 br 1 := by rw [kp_aI hp322 0 gbr rfl rfl, kp_aI hp322 1 gbr rfl rfl]; exact f322_0 rfl
            obtain ⟨m4, hm4⟩ : ∃ z, v322 = z := ⟨_, rfl⟩
            have hm5 := congrArg Int32.toInt hm4
            have hz1 : s9 = 1 → sI H322 br 1 = 0 := fun q => Int32.toInt_inj.mp (show aI H322 br 1 = 0 by have hb9 := hbr q; clear hbr; omega)
            replace f322_0 := f322_0 rfl
            clear f322_1
            clear f322_2
            clear f322_3
            clear f322_4
            clear f322_5
            refine lv_aload_n hx hb dL_law_849 rfl (lv_at hl 5 rfl) ?_
            refine lv_iconst (v := 0) hx hb dL_law_850 rfl ?_
            refine lv_iconst (v := 2) hx hb dL_law_851 rfl ?_
            refine r_goI (r_runV (As := [.int 0, .int 2]) (rest := [.int v322]) E hC322 hS322 (m_X11_school l X Γ H322 hC322 h0 g0 0 (a1 := 0) (by decide) 2 (a2 := 2) (by decide) yd ((kp_R hKp322 g0 (ci := 10) (k := 5) rfl (by decide) rfl).trans hyd) gyd sn wl su lw ic kn hd us br ar fi (yn.kp gyd hKp322 rfl) (by omega) (by omega) (by omega) (by omega) (by omega)) cw_X11_school cl_RL_122 g0 ⟨rfl, rfl⟩ rfl hl.1 rfl (show _ ≤ _ from by simp [Value.category]) (by decide) dL_law_852) hS322 (fun v336 H336 locs336 hr336 hC336 hS336 => ?_)
            obtain ⟨hp336, hr336⟩ := hr336
            have hKp336 := hKp322.tr (hp336.mono rfl)
            have m337 : aI H336 ha (0) = aI H322 ha (0) := aI_kp hp336 gha rfl rfl
            have m338 : aI H336 ha (1) = aI H322 ha (1) := aI_kp hp336 gha rfl rfl
            have m339 : aI H336 ha (2) = aI H322 ha (2) := aI_kp hp336 gha rfl rfl
            have m340 : aI H336 br (1) = aI H322 br (1) := aI_kp hp336 gbr rfl rfl
            have m341 : (sI H336 yd (X.1.2 8 0)).toInt = (sI H322 yd (X.1.2 8 0)).toInt := congrArg Int32.toInt (kp_I hp336 gyd (ci := 8) (k := 0) rfl (by decide) rfl)
            have m342 : (sI H336 yd (X.1.2 8 1)).toInt = (sI H322 yd (X.1.2 8 1)).toInt := congrArg Int32.toInt (kp_I hp336 gyd (ci := 8) (k := 1) rfl (by decide) rfl)
            have m343 : (sI H336 yd (X.1.2 8 2)).toInt = (sI H322 yd (X.1.2 8 2)).toInt := congrArg Int32.toInt (kp_I hp336 gyd (ci := 8) (k := 2) rfl (by decide) rfl)
            have m344 : (sI H336 yd (X.1.2 8 3)).toInt = (sI H322 yd (X.1.2 8 3)).toInt := congrArg Int32.toInt (kp_I hp336 gyd (ci := 8) (k := 3) rfl (by decide) rfl)
            have m345 : (sI H336 yd (X.1.2 8 4)).toInt = (sI H322 yd (X.1.2 8 4)).toInt := congrArg Int32.toInt (kp_I hp336 gyd (ci := 8) (k := 4) rfl (by decide) rfl)
            have m346 : (sI H336 yd (X.1.2 8 5)).toInt = (sI H322 yd (X.1.2 8 5)).toInt := congrArg Int32.toInt (kp_I hp336 gyd (ci := 8) (k := 5) rfl (by decide) rfl)
            have m347 : (sI H336 yd (X.1.2 8 6)).toInt = (sI H322 yd (X.1.2 8 6)).toInt := congrArg Int32.toInt (kp_I hp336 gyd (ci := 8) (k := 6) rfl (by decide) rfl)
            have m348 : SM H336 sn 36 = SM H322 sn 36 := SM_kp hp336 gsn rfl rfl
            have m349 : SM H336 wl 36 = SM H322 wl 36 := SM_kp hp336 gwl rfl rfl
            replace uhd : UHD H336 us hd := uhd.kp hp336 gus ghd rfl rfl
            obtain ⟨f336_0, f336_1, f336_2, f336_3⟩ := hr336
            have b2 : v336 = sI H336 br 0 := by rw [kp_aI hp336 0 gbr rfl rfl]; exact f336_2 rfl
            have c0 := kp_aI hp336 0 gbr rfl rfl
            have c1 := kp_aI hp336 1 gbr rfl rfl
            clear f336_0
            clear f336_1
            replace f336_2 := f336_2 rfl
            clear f336_3
            refine lv_aload_n hx hb dL_law_855 rfl (lv_at hl 7 rfl) ?_
            refine lv_iconst (v := 2) hx hb dL_law_856 rfl ?_
            refine q_iald E hC336 gha rfl rfl (rl_91_2 (show (2 : Int32).toInt = 2 from by decide) (by omega) (by omega)) (i_in (a := 2) (show (2 : Int32).toInt = 2 from by decide) (by omega) (by omega)) dL_law_857 (fun v350 ev350 lv350 uv350 => ?_)
            have m351 : aI H336 ha (2) = v350.toInt := aI_of (show (2 : Int32).toInt = 2 from by decide) ev350
            refine lv_iconst (v := 1) hx hb dL_law_858 rfl ?_
            refine q_icmp_le hx hb (a := v350.toInt) (b := 1) rfl (by decide) (tgt := 871) dL_law_859 rfl (fun c352 => ?_) (fun c352 => ?_)
            · refine lv_iconst (v := 0) hx hb dL_law_871 rfl ?_
              refine lv_iadd hx hb dL_law_872 (lv_topi (fun v353 ev353 => ?_))
              have hz2 : v353 = m4 := by
                first
                | (rw [ev353, b2, b3, d1, c1, c0]; exact b4.symm.trans hm4)
                | (rw [ev353, b2, c0, ← hm4, b4, hz1 (by omega)])
              have hz3 := congrArg Int32.toInt hz2
              have c354 := i_rng v336; rw [show v336.toInt = v336.toInt from rfl] at c354
              have ev353i : v353.toInt = (v336.toInt + 0) := i_add ev353 rfl (by decide) (by omega) (by omega)
              have c355 := i_rng v322; rw [show v322.toInt = v322.toInt from rfl] at c355
              have c356 := i_rng v353; rw [show v353.toInt = (v336.toInt + 0) from ev353i] at c356
              refine q_icmp_eq hx hb (a := v322.toInt) (b := (v336.toInt + 0)) rfl ev353i (tgt := 878) dL_law_873 rfl (fun c357 => ?_) (fun c357 => ?_)
              · exact hk H336 locs336 ls hC336 hS336 hKp336 (uhd) (by omega) (by omega) (by omega) (by omega) (by omega) (by omega) (lv_sub hl [0, 1, 2, 3, 4, 5, 6, 7] rfl)
              · (exfalso; omega)
            · refine lv_aload_n hx hb dL_law_862 rfl (lv_at hl 5 rfl) ?_
              refine lv_iconst (v := 1) hx hb dL_law_863 rfl ?_
              refine lv_iconst (v := 2) hx hb dL_law_864 rfl ?_
              refine r_goI (r_runV (As := [.int 1, .int 2]) (rest := [.int v336, .int v322]) E hC336 hS336 (m_X11_school l X Γ H336 hC336 h0 g0 1 (a1 := 1) (by decide) 2 (a2 := 2) (by decide) yd ((kp_R hKp336 g0 (ci := 10) (k := 5) rfl (by decide) rfl).trans hyd) gyd sn wl su lw ic kn hd us br ar fi (yn.kp gyd hKp336 rfl) (by omega) (by omega) (by omega) (by omega) (by omega)) cw_X11_school cl_RL_122 g0 ⟨rfl, rfl⟩ rfl hl.1 rfl (show _ ≤ _ from by simp [Value.category]) (by decide) dL_law_865) hS336 (fun v358 H358 locs358 hr358 hC358 hS358 => ?_)
              obtain ⟨hp358, hr358⟩ := hr358
              have hKp358 := hKp336.tr (hp358.mono rfl)
              have m359 : aI H358 ha (0) = aI H336 ha (0) := aI_kp hp358 gha rfl rfl
              have m360 : aI H358 ha (1) = aI H336 ha (1) := aI_kp hp358 gha rfl rfl
              have m361 : aI H358 ha (2) = aI H336 ha (2) := aI_kp hp358 gha rfl rfl
              have m362 : aI H358 br (1) = aI H336 br (1) := aI_kp hp358 gbr rfl rfl
              have m363 : (sI H358 yd (X.1.2 8 0)).toInt = (sI H336 yd (X.1.2 8 0)).toInt := congrArg Int32.toInt (kp_I hp358 gyd (ci := 8) (k := 0) rfl (by decide) rfl)
              have m364 : (sI H358 yd (X.1.2 8 1)).toInt = (sI H336 yd (X.1.2 8 1)).toInt := congrArg Int32.toInt (kp_I hp358 gyd (ci := 8) (k := 1) rfl (by decide) rfl)
              have m365 : (sI H358 yd (X.1.2 8 2)).toInt = (sI H336 yd (X.1.2 8 2)).toInt := congrArg Int32.toInt (kp_I hp358 gyd (ci := 8) (k := 2) rfl (by decide) rfl)
              have m366 : (sI H358 yd (X.1.2 8 3)).toInt = (sI H336 yd (X.1.2 8 3)).toInt := congrArg Int32.toInt (kp_I hp358 gyd (ci := 8) (k := 3) rfl (by decide) rfl)
              have m367 : (sI H358 yd (X.1.2 8 4)).toInt = (sI H336 yd (X.1.2 8 4)).toInt := congrArg Int32.toInt (kp_I hp358 gyd (ci := 8) (k := 4) rfl (by decide) rfl)
              have m368 : (sI H358 yd (X.1.2 8 5)).toInt = (sI H336 yd (X.1.2 8 5)).toInt := congrArg Int32.toInt (kp_I hp358 gyd (ci := 8) (k := 5) rfl (by decide) rfl)
              have m369 : (sI H358 yd (X.1.2 8 6)).toInt = (sI H336 yd (X.1.2 8 6)).toInt := congrArg Int32.toInt (kp_I hp358 gyd (ci := 8) (k := 6) rfl (by decide) rfl)
              have m370 : SM H358 sn 36 = SM H336 sn 36 := SM_kp hp358 gsn rfl rfl
              have m371 : SM H358 wl 36 = SM H336 wl 36 := SM_kp hp358 gwl rfl rfl
              replace uhd : UHD H358 us hd := uhd.kp hp358 gus ghd rfl rfl
              obtain ⟨f358_0, f358_1, f358_2, f358_3⟩ := hr358
              have b3 : v358 = sI H358 br 1 := by rw [kp_aI hp358 1 gbr rfl rfl]; exact f358_2 rfl
              have d1 := kp_aI hp358 1 gbr rfl rfl
              clear f358_0
              clear f358_1
              replace f358_2 := f358_2 rfl
              clear f358_3
              refine lv_goto (tgt := 872) hx hb dL_law_868 rfl ?_
              refine lv_iadd hx hb dL_law_872 (lv_topi (fun v372 ev372 => ?_))
              have hz2 : v372 = m4 := by
                first
                | (rw [ev372, b2, b3, d1, c1, c0]; exact b4.symm.trans hm4)
                | (rw [ev372, b2, c0, ← hm4, b4, hz1 (by omega)])
              have hz3 := congrArg Int32.toInt hz2
              have c373 := i_rng v322; rw [show v322.toInt = v322.toInt from rfl] at c373
              have c374 := i_rng v372; rw [show v372.toInt = v372.toInt from rfl] at c374
              refine q_icmp_eq hx hb (a := v322.toInt) (b := v372.toInt) rfl rfl (tgt := 878) dL_law_873 rfl (fun c375 => ?_) (fun c375 => ?_)
              · exact hk H358 locs358 ls hC358 hS358 hKp358 (uhd) (by omega) (by omega) (by omega) (by omega) (by omega) (by omega) (lv_sub hl [0, 1, 2, 3, 4, 5, 6, 7] rfl)
              · (exfalso; omega)
          · (exfalso; omega)
        · (exfalso; omega)
