set_option maxRecDepth 100000 in
set_option maxHeartbeats 8000000 in
theorem sg_day1 (l : Launch) {p : Program} {e : Env} {s : State} {m : MethodId} {args : Array Value} {below : List Frame} {meth : Method} {c : Code} {X : xW} {Γ : Nat → Option Nat} {Qz : State → Prop} (E : Ev p s m args meth c cL_law 15 "SnowFortsLaw" ret X Γ s.heap) (H0 : Heap) (hC0 : Conf X Γ H0) (locs0 : List Loc) (hS0 : va_S (AΓ Γ) s.heap H0 locs0) (h0 : Nat) (g0 : Γ h0 = some 0) (mm ha : Nat) (gmm : Γ mm = some 90) (gha : Γ ha = some 91) (yd : Nat) (hyd : sR H0 h0 (X.1.2 10 5) = some yd) (gyd : Γ yd = some 5) (sn wl su lw ic kn hd us br ar fi : Nat) (yn : YN X Γ H0 yd sn wl su lw ic kn hd us br ar fi) (wk : Nat) (hwk : sR H0 h0 (X.1.2 10 12) = some wk) (gwk : Γ wk = some 7) (pa hh wt : Nat) (wn : WN X Γ H0 wk pa hh wt) (w9 h9 s9 : Int) (qw : w9 = 2 ∨ w9 = 4) (qh : 1 ≤ h9 ∧ h9 ≤ 3) (qs : s9 = 1 ∨ s9 = 2) (qa0 : aI H0 ha 0 = w9) (qa1 : aI H0 ha 1 = h9) (qa2 : aI H0 ha 2 = s9) (qy0 : (sI H0 yd (X.1.2 8 0)).toInt = w9) (qy1 : (sI H0 yd (X.1.2 8 1)).toInt = h9) (qy2 : (sI H0 yd (X.1.2 8 2)).toInt = s9) (v7 : Int32) {z7 : Int} (ev7 : v7.toInt = z7) (v6 : Int32) {z6 : Int} (ev6 : v6.toInt = z6) (v5 : Int32) {z5 : Int} (ev5 : v5.toInt = z5) (v4 : Int32) {z4 : Int} (ev4 : v4.toInt = z4) (uhd : UHD H0 us hd) (hbr : s9 = 1 → aI H0 br 1 = 0) (hz6 : 0 ≤ z6 ∧ z6 ≤ 4) (hz5 : 0 ≤ z5 ∧ z5 ≤ 7128) (hcn : SM H0 sn 36 + SM H0 wl 36 + (sI H0 yd (X.1.2 8 4)).toInt + (sI H0 yd (X.1.2 8 5)).toInt = z5 + (sI H0 yd (X.1.2 8 6)).toInt) (hr1 : 0 ≤ (sI H0 yd (X.1.2 8 5)).toInt ∧ (sI H0 yd (X.1.2 8 5)).toInt ≤ 10000 * z6) (hr2 : 0 ≤ (sI H0 yd (X.1.2 8 6)).toInt ∧ (sI H0 yd (X.1.2 8 6)).toInt ≤ 10000 * z6) (hr3 : 0 ≤ (sI H0 yd (X.1.2 8 4)).toInt ∧ (sI H0 yd (X.1.2 8 4)).toInt ≤ 10000 * z6) (hr4 : (sI H0 yd (X.1.2 8 3)).toInt ≤ z6) {ls : Array Slot} (hl : lv_has ls 15 [(7, .int v7), (6, .int v6), (5, .int v5), (4, .int v4), (0, .ref (sad X)), (1, .ref h0), (2, .ref mm), (3, .ref ha)]) (hk : ∀ (H1 : Heap) (locs1 : List Loc) (ls : Array Slot), Conf X Γ H1 → va_S (AΓ Γ) s.heap H1 locs1 → Kp X Γ [3, 29, 31, 32, 33, 34, 37, 39, 40, 50, 57, 61, 67, 68, 69, 70, 71] H0 H1 → (UHD H1 us hd) → (s9 = 1 → aI H1 br 1 = 0) → (0 ≤ (sI H1 yd (X.1.2 8 5)).toInt ∧ (sI H1 yd (X.1.2 8 5)).toInt ≤ 10000 * (z6 + 1)) → (0 ≤ (sI H1 yd (X.1.2 8 6)).toInt ∧ (sI H1 yd (X.1.2 8 6)).toInt ≤ 10000 * (z6 + 1)) → (0 ≤ (sI H1 yd (X.1.2 8 4)).toInt ∧ (sI H1 yd (X.1.2 8 4)).toInt ≤ 10000 * (z6 + 1)) → ((sI H1 yd (X.1.2 8 3)).toInt ≤ z6 + 1) → (SM H1 sn 36 + SM H1 wl 36 + (sI H1 yd (X.1.2 8 4)).toInt + (sI H1 yd (X.1.2 8 5)).toInt = z5 + (sI H1 yd (X.1.2 8 6)).toInt) → lv_has ls 15 [(7, .int v7), (6, .int v6), (5, .int v5), (4, .int v4), (0, .ref (sad X)), (1, .ref h0), (2, .ref mm), (3, .ref ha)] → W p l e room_1 s m args below meth c H1 locs1 133 8682 Qz (F0 m 804 ls [])) : W p l e room_1 s m args below meth c H0 locs0 133 8682 Qz (F0 m 731 ls []) := by
  have hx := E.1; have hb := E.2.1
  have hKp0 : Kp X Γ [3, 29, 31, 32, 33, 34, 37, 39, 40, 50, 57, 61, 67, 68, 69, 70, 71] H0 H0 := Kp.rf
  have gsn := yn.sn.2; have gwl := yn.wl.2; have gsu := yn.su.2; have glw := yn.lw.2; have gic := yn.ic.2; have gkn := yn.kn.2; have ghd := yn.hd.2; have gus := yn.us.2; have gbr := yn.br.2; have gar := yn.ar.2; have gfi := yn.fi.2
  have gpa := wn.pa.2; have ghh := wn.hh.2; have gwt := wn.wt.2
  have qw1 : 2 ≤ w9 ∧ w9 ≤ 4 := by first | omega (config := {splitDisjunctions := false}) | (refine Int.le_antisymm ?_ ?_ <;> omega (config := {splitDisjunctions := false})) | omega
  have qs1 : 1 ≤ s9 ∧ s9 ≤ 2 := by first | omega (config := {splitDisjunctions := false}) | (refine Int.le_antisymm ?_ ?_ <;> omega (config := {splitDisjunctions := false})) | omega
  clear qw qs
  have uhd : UHD H0 us hd := uhd
  refine lv_aload_n hx hb dL_law_731 rfl (lv_at hl 5 rfl) ?_
  refine lv_iload hx hb dL_law_732 (lv_at hl 0 rfl) ?_
  refine lv_bipush (v := 15) hx hb dL_law_734 rfl ?_
  refine lv_iand hx hb dL_law_736 (lv_topi (fun v21 ev21 => ?_))
  have bv21 := i_andc ev21 (show (15 : Int32).toInt = 15 from by decide) (by decide)
  refine r_goI (r_runV (As := [.int v21]) (rest := []) E hC0 hS0 (m_X11_fall l X Γ H0 hC0 h0 g0 v21 (a1 := v21.toInt) rfl yd hyd gyd sn wl su lw ic kn hd us br ar fi yn (by first | omega (config := {splitDisjunctions := false}) | (refine Int.le_antisymm ?_ ?_ <;> omega (config := {splitDisjunctions := false})) | omega) (by first | omega (config := {splitDisjunctions := false}) | (refine Int.le_antisymm ?_ ?_ <;> omega (config := {splitDisjunctions := false})) | omega) (by first | omega (config := {splitDisjunctions := false}) | (refine Int.le_antisymm ?_ ?_ <;> omega (config := {splitDisjunctions := false})) | omega) (by first | omega (config := {splitDisjunctions := false}) | (refine Int.le_antisymm ?_ ?_ <;> omega (config := {splitDisjunctions := false})) | omega) (by first | omega (config := {splitDisjunctions := false}) | (refine Int.le_antisymm ?_ ?_ <;> omega (config := {splitDisjunctions := false})) | omega) (by first | omega (config := {splitDisjunctions := false}) | (refine Int.le_antisymm ?_ ?_ <;> omega (config := {splitDisjunctions := false})) | omega)) cw_X11_fall cl_RL_144 g0 ⟨rfl, rfl⟩ rfl hl.1 rfl (Nat.zero_le _) (by decide) dL_law_737) hS0 (fun v22 H22 locs22 hr22 hC22 hS22 => ?_)
  obtain ⟨hp22, hr22⟩ := hr22
  have hKp22 := hKp0.tr (hp22.mono rfl)
  have m23 : aI H22 ha (0) = aI H0 ha (0) := aI_kp hp22 gha rfl rfl
  have m24 : aI H22 ha (1) = aI H0 ha (1) := aI_kp hp22 gha rfl rfl
  have m25 : aI H22 ha (2) = aI H0 ha (2) := aI_kp hp22 gha rfl rfl
  have m26 : aI H22 br (1) = aI H0 br (1) := aI_kp hp22 gbr rfl rfl
  have m27 : (sI H22 yd (X.1.2 8 0)).toInt = (sI H0 yd (X.1.2 8 0)).toInt := congrArg Int32.toInt (kp_I hp22 gyd (ci := 8) (k := 0) rfl (by decide) rfl)
  have m28 : (sI H22 yd (X.1.2 8 1)).toInt = (sI H0 yd (X.1.2 8 1)).toInt := congrArg Int32.toInt (kp_I hp22 gyd (ci := 8) (k := 1) rfl (by decide) rfl)
  have m29 : (sI H22 yd (X.1.2 8 2)).toInt = (sI H0 yd (X.1.2 8 2)).toInt := congrArg Int32.toInt (kp_I hp22 gyd (ci := 8) (k := 2) rfl (by decide) rfl)
  have m30 : (sI H22 yd (X.1.2 8 3)).toInt = (sI H0 yd (X.1.2 8 3)).toInt := congrArg Int32.toInt (kp_I hp22 gyd (ci := 8) (k := 3) rfl (by decide) rfl)
  have m31 : (sI H22 yd (X.1.2 8 4)).toInt = (sI H0 yd (X.1.2 8 4)).toInt := congrArg Int32.toInt (kp_I hp22 gyd (ci := 8) (k := 4) rfl (by decide) rfl)
  have m35 : SM H22 wl 36 = SM H0 wl 36 := SM_kp hp22 gwl rfl rfl
  replace uhd : UHD H22 us hd := uhd.kp hp22 gus ghd rfl rfl
  obtain ⟨f22_0, f22_1, f22_2, f22_3, f22_4, f22_5⟩ := hr22
  refine q_if_lt hx hb (a := v22.toInt) rfl (tgt := 775) dL_law_740 rfl (fun c36 => ?_) (fun c36 => ?_)
  · (exfalso; omega)
  · refine lv_aload_n hx hb dL_law_743 rfl (lv_at hl 5 rfl) ?_
    refine lv_iload hx hb dL_law_744 (lv_at hl 0 rfl) ?_
    refine lv_iconst (v := 4) hx hb dL_law_746 rfl ?_
    refine lv_ishr hx hb dL_law_747 (lv_topi (fun v37 ev37 => ?_))
    refine lv_bipush (v := 7) hx hb dL_law_748 rfl ?_
    refine lv_iand hx hb dL_law_750 (lv_topi (fun v38 ev38 => ?_))
    have bv38 := i_andc ev38 (show (7 : Int32).toInt = 7 from by decide) (by decide)
    refine r_goI (r_runV (As := [.int v38]) (rest := []) E hC22 hS22 (m_X11_thaw l X Γ H22 hC22 h0 g0 v38 (a1 := v38.toInt) rfl yd ((kp_R hKp22 g0 (ci := 10) (k := 5) rfl (by decide) rfl).trans hyd) gyd sn wl su lw ic kn hd us br ar fi (yn.kp gyd hKp22 rfl) (by first | omega (config := {splitDisjunctions := false}) | (refine Int.le_antisymm ?_ ?_ <;> omega (config := {splitDisjunctions := false})) | omega) (by first | omega (config := {splitDisjunctions := false}) | (refine Int.le_antisymm ?_ ?_ <;> omega (config := {splitDisjunctions := false})) | omega) (by first | omega (config := {splitDisjunctions := false}) | (refine Int.le_antisymm ?_ ?_ <;> omega (config := {splitDisjunctions := false})) | omega) (by first | omega (config := {splitDisjunctions := false}) | (refine Int.le_antisymm ?_ ?_ <;> omega (config := {splitDisjunctions := false})) | omega)) cw_X11_thaw cl_RL_147 g0 ⟨rfl, rfl⟩ rfl hl.1 rfl (Nat.zero_le _) (by decide) dL_law_751) hS22 (fun v39 H39 locs39 hr39 hC39 hS39 => ?_)
    obtain ⟨hp39, hr39⟩ := hr39
    have hKp39 := hKp22.tr (hp39.mono rfl)
    have m40 : aI H39 ha (0) = aI H22 ha (0) := aI_kp hp39 gha rfl rfl
    have m41 : aI H39 ha (1) = aI H22 ha (1) := aI_kp hp39 gha rfl rfl
    have m42 : aI H39 ha (2) = aI H22 ha (2) := aI_kp hp39 gha rfl rfl
    have m43 : aI H39 br (1) = aI H22 br (1) := aI_kp hp39 gbr rfl rfl
    have m44 : (sI H39 yd (X.1.2 8 0)).toInt = (sI H22 yd (X.1.2 8 0)).toInt := congrArg Int32.toInt (kp_I hp39 gyd (ci := 8) (k := 0) rfl (by decide) rfl)
    have m45 : (sI H39 yd (X.1.2 8 1)).toInt = (sI H22 yd (X.1.2 8 1)).toInt := congrArg Int32.toInt (kp_I hp39 gyd (ci := 8) (k := 1) rfl (by decide) rfl)
    have m46 : (sI H39 yd (X.1.2 8 2)).toInt = (sI H22 yd (X.1.2 8 2)).toInt := congrArg Int32.toInt (kp_I hp39 gyd (ci := 8) (k := 2) rfl (by decide) rfl)
    have m47 : (sI H39 yd (X.1.2 8 3)).toInt = (sI H22 yd (X.1.2 8 3)).toInt := congrArg Int32.toInt (kp_I hp39 gyd (ci := 8) (k := 3) rfl (by decide) rfl)
    have m49 : (sI H39 yd (X.1.2 8 5)).toInt = (sI H22 yd (X.1.2 8 5)).toInt := congrArg Int32.toInt (kp_I hp39 gyd (ci := 8) (k := 5) rfl (by decide) rfl)
    have m50 : (sI H39 yd (X.1.2 8 6)).toInt = (sI H22 yd (X.1.2 8 6)).toInt := congrArg Int32.toInt (kp_I hp39 gyd (ci := 8) (k := 6) rfl (by decide) rfl)
    replace uhd : UHD H39 us hd := uhd.kp hp39 gus ghd rfl rfl
    obtain ⟨f39_0, f39_1, f39_2, f39_3⟩ := hr39
    refine q_if_lt hx hb (a := v39.toInt) rfl (tgt := 775) dL_law_754 rfl (fun c53 => ?_) (fun c53 => ?_)
    · (exfalso; omega)
    · refine lv_iload hx hb dL_law_757 (lv_at hl 0 rfl) ?_
      refine lv_bipush (v := 7) hx hb dL_law_759 rfl ?_
      refine lv_ishr hx hb dL_law_761 (lv_topi (fun v54 ev54 => ?_))
      refine lv_iconst (v := 1) hx hb dL_law_762 rfl ?_
      refine lv_iand hx hb dL_law_763 (lv_topi (fun v55 ev55 => ?_))
      have bv55 := i_andc ev55 (show (1 : Int32).toInt = 1 from by decide) (by decide)
      refine q_if_ne hx hb (a := v55.toInt) rfl (tgt := 777) dL_law_764 rfl (fun c56 => ?_) (fun c56 => ?_)
      · refine lv_aload_n hx hb dL_law_777 rfl (lv_at hl 5 rfl) ?_
        refine lv_iconst (v := 0) hx hb dL_law_778 rfl ?_
        refine lv_iconst (v := 0) hx hb dL_law_779 rfl ?_
        refine lv_aload_n hx hb dL_law_780 rfl (lv_at hl 7 rfl) ?_
        refine lv_iconst (v := 0) hx hb dL_law_781 rfl ?_
        refine q_iald E hC39 gha rfl rfl (rl_91_0 (show (0 : Int32).toInt = 0 from by decide) (by first | omega (config := {splitDisjunctions := false}) | (refine Int.le_antisymm ?_ ?_ <;> omega (config := {splitDisjunctions := false})) | omega) (by first | omega (config := {splitDisjunctions := false}) | (refine Int.le_antisymm ?_ ?_ <;> omega (config := {splitDisjunctions := false})) | omega)) (i_in (a := 0) (show (0 : Int32).toInt = 0 from by decide) (by first | omega (config := {splitDisjunctions := false}) | (refine Int.le_antisymm ?_ ?_ <;> omega (config := {splitDisjunctions := false})) | omega) (by first | omega (config := {splitDisjunctions := false}) | (refine Int.le_antisymm ?_ ?_ <;> omega (config := {splitDisjunctions := false})) | omega)) dL_law_782 (fun v57 ev57 lv57 uv57 => ?_)
        have m58 : aI H39 ha (0) = v57.toInt := aI_of (show (0 : Int32).toInt = 0 from by decide) ev57
        refine lv_iconst (v := 1) hx hb dL_law_783 rfl ?_
        refine lv_isub hx hb dL_law_784 (lv_topi (fun v59 ev59 => ?_))
        have ev59i : v59.toInt = (v57.toInt - 1) := i_sub ev59 rfl (by decide) (by first | omega (config := {splitDisjunctions := false}) | (refine Int.le_antisymm ?_ ?_ <;> omega (config := {splitDisjunctions := false})) | omega) (by first | omega (config := {splitDisjunctions := false}) | (refine Int.le_antisymm ?_ ?_ <;> omega (config := {splitDisjunctions := false})) | omega)
        refine lv_aload_n hx hb dL_law_785 rfl (lv_at hl 7 rfl) ?_
        refine lv_iconst (v := 1) hx hb dL_law_786 rfl ?_
        refine q_iald E hC39 gha rfl rfl (rl_91_1 (show (1 : Int32).toInt = 1 from by decide) (by first | omega (config := {splitDisjunctions := false}) | (refine Int.le_antisymm ?_ ?_ <;> omega (config := {splitDisjunctions := false})) | omega) (by first | omega (config := {splitDisjunctions := false}) | (refine Int.le_antisymm ?_ ?_ <;> omega (config := {splitDisjunctions := false})) | omega)) (i_in (a := 1) (show (1 : Int32).toInt = 1 from by decide) (by first | omega (config := {splitDisjunctions := false}) | (refine Int.le_antisymm ?_ ?_ <;> omega (config := {splitDisjunctions := false})) | omega) (by first | omega (config := {splitDisjunctions := false}) | (refine Int.le_antisymm ?_ ?_ <;> omega (config := {splitDisjunctions := false})) | omega)) dL_law_787 (fun v60 ev60 lv60 uv60 => ?_)
        have m61 : aI H39 ha (1) = v60.toInt := aI_of (show (1 : Int32).toInt = 1 from by decide) ev60
        refine lv_iconst (v := 1) hx hb dL_law_788 rfl ?_
        refine lv_isub hx hb dL_law_789 (lv_topi (fun v62 ev62 => ?_))
        have ev62i : v62.toInt = (v60.toInt - 1) := i_sub ev62 rfl (by decide) (by first | omega (config := {splitDisjunctions := false}) | (refine Int.le_antisymm ?_ ?_ <;> omega (config := {splitDisjunctions := false})) | omega) (by first | omega (config := {splitDisjunctions := false}) | (refine Int.le_antisymm ?_ ?_ <;> omega (config := {splitDisjunctions := false})) | omega)
        refine lv_iconst (v := 1) hx hb dL_law_790 rfl ?_
        refine lv_iload hx hb dL_law_791 (lv_at hl 0 rfl) ?_
        refine lv_bipush (v := 8) hx hb dL_law_793 rfl ?_
        refine lv_ishr hx hb dL_law_795 (lv_topi (fun v63 ev63 => ?_))
        refine lv_bipush (v := 15) hx hb dL_law_796 rfl ?_
        refine lv_iand hx hb dL_law_798 (lv_topi (fun v64 ev64 => ?_))
        have bv64 := i_andc ev64 (show (15 : Int32).toInt = 15 from by decide) (by decide)
        refine lv_iadd hx hb dL_law_799 (lv_topi (fun v65 ev65 => ?_))
        have ev65i : v65.toInt = (1 + v64.toInt) := i_add ev65 (by decide) rfl (by first | omega (config := {splitDisjunctions := false}) | (refine Int.le_antisymm ?_ ?_ <;> omega (config := {splitDisjunctions := false})) | omega) (by first | omega (config := {splitDisjunctions := false}) | (refine Int.le_antisymm ?_ ?_ <;> omega (config := {splitDisjunctions := false})) | omega)
        have hus0 := uhd 0 (by decide) (by decide)
        refine r_goI (r_runV (As := [.int 0, .int 0, .int v59, .int v62, .int v65]) (rest := []) E hC39 hS39 (m_X11_steal l X Γ H39 hC39 h0 g0 0 (a1 := 0) (by decide) 0 (a2 := 0) (by decide) v59 (a3 := (v57.toInt - 1)) ev59i v62 (a4 := (v60.toInt - 1)) ev62i v65 (a5 := (1 + v64.toInt)) ev65i yd ((kp_R hKp39 g0 (ci := 10) (k := 5) rfl (by decide) rfl).trans hyd) gyd sn wl su lw ic kn hd us br ar fi (yn.kp gyd hKp39 rfl) 0 (by first | omega (config := {splitDisjunctions := false}) | (refine Int.le_antisymm ?_ ?_ <;> omega (config := {splitDisjunctions := false})) | omega) (by first | omega (config := {splitDisjunctions := false}) | (refine Int.le_antisymm ?_ ?_ <;> omega (config := {splitDisjunctions := false})) | omega) (by first | omega (config := {splitDisjunctions := false}) | (refine Int.le_antisymm ?_ ?_ <;> omega (config := {splitDisjunctions := false})) | omega) (by first | omega (config := {splitDisjunctions := false}) | (refine Int.le_antisymm ?_ ?_ <;> omega (config := {splitDisjunctions := false})) | omega) (by first | omega (config := {splitDisjunctions := false}) | (refine Int.le_antisymm ?_ ?_ <;> omega (config := {splitDisjunctions := false})) | omega) (by first | omega (config := {splitDisjunctions := false}) | (refine Int.le_antisymm ?_ ?_ <;> omega (config := {splitDisjunctions := false})) | omega) (by first | omega (config := {splitDisjunctions := false}) | (refine Int.le_antisymm ?_ ?_ <;> omega (config := {splitDisjunctions := false})) | omega) (by first | omega (config := {splitDisjunctions := false}) | (refine Int.le_antisymm ?_ ?_ <;> omega (config := {splitDisjunctions := false})) | omega) (by first | omega (config := {splitDisjunctions := false}) | (refine Int.le_antisymm ?_ ?_ <;> omega (config := {splitDisjunctions := false})) | omega) (by first | omega (config := {splitDisjunctions := false}) | (refine Int.le_antisymm ?_ ?_ <;> omega (config := {splitDisjunctions := false})) | omega) (by first | omega (config := {splitDisjunctions := false}) | (refine Int.le_antisymm ?_ ?_ <;> omega (config := {splitDisjunctions := false})) | omega) (by first | omega (config := {splitDisjunctions := false}) | (refine Int.le_antisymm ?_ ?_ <;> omega (config := {splitDisjunctions := false})) | omega) (by first | omega (config := {splitDisjunctions := false}) | (refine Int.le_antisymm ?_ ?_ <;> omega (config := {splitDisjunctions := false})) | omega) (by first | omega (config := {splitDisjunctions := false}) | (refine Int.le_antisymm ?_ ?_ <;> omega (config := {splitDisjunctions := false})) | omega) (by first | omega (config := {splitDisjunctions := false}) | (refine Int.le_antisymm ?_ ?_ <;> omega (config := {splitDisjunctions := false})) | omega) (by first | omega (config := {splitDisjunctions := false}) | (refine Int.le_antisymm ?_ ?_ <;> omega (config := {splitDisjunctions := false})) | omega) (by first | omega (config := {splitDisjunctions := false}) | (refine Int.le_antisymm ?_ ?_ <;> omega (config := {splitDisjunctions := false})) | omega) (by first | omega (config := {splitDisjunctions := false}) | (refine Int.le_antisymm ?_ ?_ <;> omega (config := {splitDisjunctions := false})) | omega) (by first | omega (config := {splitDisjunctions := false}) | (refine Int.le_antisymm ?_ ?_ <;> omega (config := {splitDisjunctions := false})) | omega)) cw_X11_steal cl_RL_153 g0 ⟨rfl, rfl⟩ rfl hl.1 rfl (Nat.zero_le _) (by decide) dL_law_800) hS39 (fun v66 H66 locs66 hr66 hC66 hS66 => ?_)
        obtain ⟨hp66, hr66⟩ := hr66
        have hKp66 := hKp39.tr (hp66.mono rfl)
        have m67 : aI H66 ha (0) = aI H39 ha (0) := aI_kp hp66 gha rfl rfl
        have m68 : aI H66 ha (1) = aI H39 ha (1) := aI_kp hp66 gha rfl rfl
        have m69 : aI H66 ha (2) = aI H39 ha (2) := aI_kp hp66 gha rfl rfl
        have m71 : (sI H66 yd (X.1.2 8 0)).toInt = (sI H39 yd (X.1.2 8 0)).toInt := congrArg Int32.toInt (kp_I hp66 gyd (ci := 8) (k := 0) rfl (by decide) rfl)
        have m72 : (sI H66 yd (X.1.2 8 1)).toInt = (sI H39 yd (X.1.2 8 1)).toInt := congrArg Int32.toInt (kp_I hp66 gyd (ci := 8) (k := 1) rfl (by decide) rfl)
        have m73 : (sI H66 yd (X.1.2 8 2)).toInt = (sI H39 yd (X.1.2 8 2)).toInt := congrArg Int32.toInt (kp_I hp66 gyd (ci := 8) (k := 2) rfl (by decide) rfl)
        have m74 : (sI H66 yd (X.1.2 8 3)).toInt = (sI H39 yd (X.1.2 8 3)).toInt := congrArg Int32.toInt (kp_I hp66 gyd (ci := 8) (k := 3) rfl (by decide) rfl)
        have m75 : (sI H66 yd (X.1.2 8 4)).toInt = (sI H39 yd (X.1.2 8 4)).toInt := congrArg Int32.toInt (kp_I hp66 gyd (ci := 8) (k := 4) rfl (by decide) rfl)
        have m77 : (sI H66 yd (X.1.2 8 6)).toInt = (sI H39 yd (X.1.2 8 6)).toInt := congrArg Int32.toInt (kp_I hp66 gyd (ci := 8) (k := 6) rfl (by decide) rfl)
        have m79 : SM H66 wl 36 = SM H39 wl 36 := SM_kp hp66 gwl rfl rfl
        obtain ⟨f66_0, f66_1, f66_2, f66_3, f66_4, f66_5⟩ := hr66
        have uhd : UHD H66 us hd := uhd.set f66_2 (fun _ => aI_kp hp66 ghd rfl rfl) f66_1
        have hb1 : aI H66 br 1 = aI H39 br 1 := f66_3.el (by decide) (by decide)
        have hsb1 := SM_bd (n := 36) hC66 gsn rfl rfl (fun _ => rfl) (by decide)
        have hsb2 := SM_bd (n := 36) hC66 gwl rfl rfl (fun _ => rfl) (by decide)
        refine lv_pop hx hb dL_law_803 rfl ?_
        exact hk H66 locs66 ls hC66 hS66 hKp66 (uhd) (fun q => by have hb9 := hbr q; clear hbr; omega) (by first | omega (config := {splitDisjunctions := false}) | (refine Int.le_antisymm ?_ ?_ <;> omega (config := {splitDisjunctions := false})) | omega) (by first | omega (config := {splitDisjunctions := false}) | (refine Int.le_antisymm ?_ ?_ <;> omega (config := {splitDisjunctions := false})) | omega) (by first | omega (config := {splitDisjunctions := false}) | (refine Int.le_antisymm ?_ ?_ <;> omega (config := {splitDisjunctions := false})) | omega) (by first | omega (config := {splitDisjunctions := false}) | (refine Int.le_antisymm ?_ ?_ <;> omega (config := {splitDisjunctions := false})) | omega) (by first | omega (config := {splitDisjunctions := false}) | (refine Int.le_antisymm ?_ ?_ <;> omega (config := {splitDisjunctions := false})) | omega) (lv_sub hl [0, 1, 2, 3, 4, 5, 6, 7] rfl)
      · refine lv_aload_n hx hb dL_law_767 rfl (lv_at hl 5 rfl) ?_
        refine r_goI (r_runV (As := []) (rest := []) E hC39 hS39 (m_X11_night l X Γ H39 hC39 h0 g0 yd ((kp_R hKp39 g0 (ci := 10) (k := 5) rfl (by decide) rfl).trans hyd) gyd sn wl su lw ic kn hd us br ar fi (yn.kp gyd hKp39 rfl) (by first | omega (config := {splitDisjunctions := false}) | (refine Int.le_antisymm ?_ ?_ <;> omega (config := {splitDisjunctions := false})) | omega)) cw_X11_night cl_RL_150 g0 ⟨rfl, rfl⟩ rfl hl.1 rfl (Nat.zero_le _) (by decide) dL_law_768) hS39 (fun v80 H80 locs80 hr80 hC80 hS80 => ?_)
        obtain ⟨hp80, hr80⟩ := hr80
        have hKp80 := hKp39.tr (hp80.mono rfl)
        have m81 : aI H80 ha (0) = aI H39 ha (0) := aI_kp hp80 gha rfl rfl
        have m82 : aI H80 ha (1) = aI H39 ha (1) := aI_kp hp80 gha rfl rfl
        have m83 : aI H80 ha (2) = aI H39 ha (2) := aI_kp hp80 gha rfl rfl
        have m84 : aI H80 br (1) = aI H39 br (1) := aI_kp hp80 gbr rfl rfl
        have m85 : (sI H80 yd (X.1.2 8 0)).toInt = (sI H39 yd (X.1.2 8 0)).toInt := congrArg Int32.toInt (kp_I hp80 gyd (ci := 8) (k := 0) rfl (by decide) rfl)
        have m86 : (sI H80 yd (X.1.2 8 1)).toInt = (sI H39 yd (X.1.2 8 1)).toInt := congrArg Int32.toInt (kp_I hp80 gyd (ci := 8) (k := 1) rfl (by decide) rfl)
        have m87 : (sI H80 yd (X.1.2 8 2)).toInt = (sI H39 yd (X.1.2 8 2)).toInt := congrArg Int32.toInt (kp_I hp80 gyd (ci := 8) (k := 2) rfl (by decide) rfl)
        have m89 : (sI H80 yd (X.1.2 8 4)).toInt = (sI H39 yd (X.1.2 8 4)).toInt := congrArg Int32.toInt (kp_I hp80 gyd (ci := 8) (k := 4) rfl (by decide) rfl)
        have m90 : (sI H80 yd (X.1.2 8 5)).toInt = (sI H39 yd (X.1.2 8 5)).toInt := congrArg Int32.toInt (kp_I hp80 gyd (ci := 8) (k := 5) rfl (by decide) rfl)
        have m91 : (sI H80 yd (X.1.2 8 6)).toInt = (sI H39 yd (X.1.2 8 6)).toInt := congrArg Int32.toInt (kp_I hp80 gyd (ci := 8) (k := 6) rfl (by decide) rfl)
        have m92 : SM H80 sn 36 = SM H39 sn 36 := SM_kp hp80 gsn rfl rfl
        have m93 : SM H80 wl 36 = SM H39 wl 36 := SM_kp hp80 gwl rfl rfl
        obtain ⟨f80_0, f80_1, f80_2, f80_3⟩ := hr80
        have uhd : UHD H80 us hd := UHD.zero f80_2 f80_3 hC80 ghd
        refine lv_iconst (v := 1) hx hb dL_law_771 rfl ?_
        refine q_icmp_ge hx hb (a := v80.toInt) (b := 1) rfl (by decide) (tgt := 777) dL_law_772 rfl (fun c94 => ?_) (fun c94 => ?_)
        · refine lv_aload_n hx hb dL_law_777 rfl (lv_at hl 5 rfl) ?_
          refine lv_iconst (v := 0) hx hb dL_law_778 rfl ?_
          refine lv_iconst (v := 0) hx hb dL_law_779 rfl ?_
          refine lv_aload_n hx hb dL_law_780 rfl (lv_at hl 7 rfl) ?_
          refine lv_iconst (v := 0) hx hb dL_law_781 rfl ?_
          refine q_iald E hC80 gha rfl rfl (rl_91_0 (show (0 : Int32).toInt = 0 from by decide) (by first | omega (config := {splitDisjunctions := false}) | (refine Int.le_antisymm ?_ ?_ <;> omega (config := {splitDisjunctions := false})) | omega) (by first | omega (config := {splitDisjunctions := false}) | (refine Int.le_antisymm ?_ ?_ <;> omega (config := {splitDisjunctions := false})) | omega)) (i_in (a := 0) (show (0 : Int32).toInt = 0 from by decide) (by first | omega (config := {splitDisjunctions := false}) | (refine Int.le_antisymm ?_ ?_ <;> omega (config := {splitDisjunctions := false})) | omega) (by first | omega (config := {splitDisjunctions := false}) | (refine Int.le_antisymm ?_ ?_ <;> omega (config := {splitDisjunctions := false})) | omega)) dL_law_782 (fun v95 ev95 lv95 uv95 => ?_)
          have m96 : aI H80 ha (0) = v95.toInt := aI_of (show (0 : Int32).toInt = 0 from by decide) ev95
          refine lv_iconst (v := 1) hx hb dL_law_783 rfl ?_
          refine lv_isub hx hb dL_law_784 (lv_topi (fun v97 ev97 => ?_))
          have ev97i : v97.toInt = (v95.toInt - 1) := i_sub ev97 rfl (by decide) (by first | omega (config := {splitDisjunctions := false}) | (refine Int.le_antisymm ?_ ?_ <;> omega (config := {splitDisjunctions := false})) | omega) (by first | omega (config := {splitDisjunctions := false}) | (refine Int.le_antisymm ?_ ?_ <;> omega (config := {splitDisjunctions := false})) | omega)
          refine lv_aload_n hx hb dL_law_785 rfl (lv_at hl 7 rfl) ?_
          refine lv_iconst (v := 1) hx hb dL_law_786 rfl ?_
          refine q_iald E hC80 gha rfl rfl (rl_91_1 (show (1 : Int32).toInt = 1 from by decide) (by first | omega (config := {splitDisjunctions := false}) | (refine Int.le_antisymm ?_ ?_ <;> omega (config := {splitDisjunctions := false})) | omega) (by first | omega (config := {splitDisjunctions := false}) | (refine Int.le_antisymm ?_ ?_ <;> omega (config := {splitDisjunctions := false})) | omega)) (i_in (a := 1) (show (1 : Int32).toInt = 1 from by decide) (by first | omega (config := {splitDisjunctions := false}) | (refine Int.le_antisymm ?_ ?_ <;> omega (config := {splitDisjunctions := false})) | omega) (by first | omega (config := {splitDisjunctions := false}) | (refine Int.le_antisymm ?_ ?_ <;> omega (config := {splitDisjunctions := false})) | omega)) dL_law_787 (fun v98 ev98 lv98 uv98 => ?_)
          have m99 : aI H80 ha (1) = v98.toInt := aI_of (show (1 : Int32).toInt = 1 from by decide) ev98
          refine lv_iconst (v := 1) hx hb dL_law_788 rfl ?_
          refine lv_isub hx hb dL_law_789 (lv_topi (fun v100 ev100 => ?_))
          have ev100i : v100.toInt = (v98.toInt - 1) := i_sub ev100 rfl (by decide) (by first | omega (config := {splitDisjunctions := false}) | (refine Int.le_antisymm ?_ ?_ <;> omega (config := {splitDisjunctions := false})) | omega) (by first | omega (config := {splitDisjunctions := false}) | (refine Int.le_antisymm ?_ ?_ <;> omega (config := {splitDisjunctions := false})) | omega)
          refine lv_iconst (v := 1) hx hb dL_law_790 rfl ?_
          refine lv_iload hx hb dL_law_791 (lv_at hl 0 rfl) ?_
          refine lv_bipush (v := 8) hx hb dL_law_793 rfl ?_
          refine lv_ishr hx hb dL_law_795 (lv_topi (fun v101 ev101 => ?_))
          refine lv_bipush (v := 15) hx hb dL_law_796 rfl ?_
          refine lv_iand hx hb dL_law_798 (lv_topi (fun v102 ev102 => ?_))
          have bv102 := i_andc ev102 (show (15 : Int32).toInt = 15 from by decide) (by decide)
          refine lv_iadd hx hb dL_law_799 (lv_topi (fun v103 ev103 => ?_))
          have ev103i : v103.toInt = (1 + v102.toInt) := i_add ev103 (by decide) rfl (by first | omega (config := {splitDisjunctions := false}) | (refine Int.le_antisymm ?_ ?_ <;> omega (config := {splitDisjunctions := false})) | omega) (by first | omega (config := {splitDisjunctions := false}) | (refine Int.le_antisymm ?_ ?_ <;> omega (config := {splitDisjunctions := false})) | omega)
          have hus0 := uhd 0 (by decide) (by decide)
          refine r_goI (r_runV (As := [.int 0, .int 0, .int v97, .int v100, .int v103]) (rest := []) E hC80 hS80 (m_X11_steal l X Γ H80 hC80 h0 g0 0 (a1 := 0) (by decide) 0 (a2 := 0) (by decide) v97 (a3 := (v95.toInt - 1)) ev97i v100 (a4 := (v98.toInt - 1)) ev100i v103 (a5 := (1 + v102.toInt)) ev103i yd ((kp_R hKp80 g0 (ci := 10) (k := 5) rfl (by decide) rfl).trans hyd) gyd sn wl su lw ic kn hd us br ar fi (yn.kp gyd hKp80 rfl) 0 (by first | omega (config := {splitDisjunctions := false}) | (refine Int.le_antisymm ?_ ?_ <;> omega (config := {splitDisjunctions := false})) | omega) (by first | omega (config := {splitDisjunctions := false}) | (refine Int.le_antisymm ?_ ?_ <;> omega (config := {splitDisjunctions := false})) | omega) (by first | omega (config := {splitDisjunctions := false}) | (refine Int.le_antisymm ?_ ?_ <;> omega (config := {splitDisjunctions := false})) | omega) (by first | omega (config := {splitDisjunctions := false}) | (refine Int.le_antisymm ?_ ?_ <;> omega (config := {splitDisjunctions := false})) | omega) (by first | omega (config := {splitDisjunctions := false}) | (refine Int.le_antisymm ?_ ?_ <;> omega (config := {splitDisjunctions := false})) | omega) (by first | omega (config := {splitDisjunctions := false}) | (refine Int.le_antisymm ?_ ?_ <;> omega (config := {splitDisjunctions := false})) | omega) (by first | omega (config := {splitDisjunctions := false}) | (refine Int.le_antisymm ?_ ?_ <;> omega (config := {splitDisjunctions := false})) | omega) (by first | omega (config := {splitDisjunctions := false}) | (refine Int.le_antisymm ?_ ?_ <;> omega (config := {splitDisjunctions := false})) | omega) (by first | omega (config := {splitDisjunctions := false}) | (refine Int.le_antisymm ?_ ?_ <;> omega (config := {splitDisjunctions := false})) | omega) (by first | omega (config := {splitDisjunctions := false}) | (refine Int.le_antisymm ?_ ?_ <;> omega (config := {splitDisjunctions := false})) | omega) (by first | omega (config := {splitDisjunctions := false}) | (refine Int.le_antisymm ?_ ?_ <;> omega (config := {splitDisjunctions := false})) | omega) (by first | omega (config := {splitDisjunctions := false}) | (refine Int.le_antisymm ?_ ?_ <;> omega (config := {splitDisjunctions := false})) | omega) (by first | omega (config := {splitDisjunctions := false}) | (refine Int.le_antisymm ?_ ?_ <;> omega (config := {splitDisjunctions := false})) | omega) (by first | omega (config := {splitDisjunctions := false}) | (refine Int.le_antisymm ?_ ?_ <;> omega (config := {splitDisjunctions := false})) | omega) (by first | omega (config := {splitDisjunctions := false}) | (refine Int.le_antisymm ?_ ?_ <;> omega (config := {splitDisjunctions := false})) | omega) (by first | omega (config := {splitDisjunctions := false}) | (refine Int.le_antisymm ?_ ?_ <;> omega (config := {splitDisjunctions := false})) | omega) (by first | omega (config := {splitDisjunctions := false}) | (refine Int.le_antisymm ?_ ?_ <;> omega (config := {splitDisjunctions := false})) | omega) (by first | omega (config := {splitDisjunctions := false}) | (refine Int.le_antisymm ?_ ?_ <;> omega (config := {splitDisjunctions := false})) | omega) (by first | omega (config := {splitDisjunctions := false}) | (refine Int.le_antisymm ?_ ?_ <;> omega (config := {splitDisjunctions := false})) | omega)) cw_X11_steal cl_RL_153 g0 ⟨rfl, rfl⟩ rfl hl.1 rfl (Nat.zero_le _) (by decide) dL_law_800) hS80 (fun v104 H104 locs104 hr104 hC104 hS104 => ?_)
          obtain ⟨hp104, hr104⟩ := hr104
          have hKp104 := hKp80.tr (hp104.mono rfl)
          have m105 : aI H104 ha (0) = aI H80 ha (0) := aI_kp hp104 gha rfl rfl
          have m106 : aI H104 ha (1) = aI H80 ha (1) := aI_kp hp104 gha rfl rfl
          have m107 : aI H104 ha (2) = aI H80 ha (2) := aI_kp hp104 gha rfl rfl
          have m109 : (sI H104 yd (X.1.2 8 0)).toInt = (sI H80 yd (X.1.2 8 0)).toInt := congrArg Int32.toInt (kp_I hp104 gyd (ci := 8) (k := 0) rfl (by decide) rfl)
          have m110 : (sI H104 yd (X.1.2 8 1)).toInt = (sI H80 yd (X.1.2 8 1)).toInt := congrArg Int32.toInt (kp_I hp104 gyd (ci := 8) (k := 1) rfl (by decide) rfl)
          have m111 : (sI H104 yd (X.1.2 8 2)).toInt = (sI H80 yd (X.1.2 8 2)).toInt := congrArg Int32.toInt (kp_I hp104 gyd (ci := 8) (k := 2) rfl (by decide) rfl)
          have m112 : (sI H104 yd (X.1.2 8 3)).toInt = (sI H80 yd (X.1.2 8 3)).toInt := congrArg Int32.toInt (kp_I hp104 gyd (ci := 8) (k := 3) rfl (by decide) rfl)
          have m113 : (sI H104 yd (X.1.2 8 4)).toInt = (sI H80 yd (X.1.2 8 4)).toInt := congrArg Int32.toInt (kp_I hp104 gyd (ci := 8) (k := 4) rfl (by decide) rfl)
          have m115 : (sI H104 yd (X.1.2 8 6)).toInt = (sI H80 yd (X.1.2 8 6)).toInt := congrArg Int32.toInt (kp_I hp104 gyd (ci := 8) (k := 6) rfl (by decide) rfl)
          have m117 : SM H104 wl 36 = SM H80 wl 36 := SM_kp hp104 gwl rfl rfl
          obtain ⟨f104_0, f104_1, f104_2, f104_3, f104_4, f104_5⟩ := hr104
          have uhd : UHD H104 us hd := uhd.set f104_2 (fun _ => aI_kp hp104 ghd rfl rfl) f104_1
          have hb1 : aI H104 br 1 = aI H80 br 1 := f104_3.el (by decide) (by decide)
          have hsb1 := SM_bd (n := 36) hC104 gsn rfl rfl (fun _ => rfl) (by decide)
          have hsb2 := SM_bd (n := 36) hC104 gwl rfl rfl (fun _ => rfl) (by decide)
          refine lv_pop hx hb dL_law_803 rfl ?_
          exact hk H104 locs104 ls hC104 hS104 hKp104 (uhd) (fun q => by have hb9 := hbr q; clear hbr; omega) (by first | omega (config := {splitDisjunctions := false}) | (refine Int.le_antisymm ?_ ?_ <;> omega (config := {splitDisjunctions := false})) | omega) (by first | omega (config := {splitDisjunctions := false}) | (refine Int.le_antisymm ?_ ?_ <;> omega (config := {splitDisjunctions := false})) | omega) (by first | omega (config := {splitDisjunctions := false}) | (refine Int.le_antisymm ?_ ?_ <;> omega (config := {splitDisjunctions := false})) | omega) (by first | omega (config := {splitDisjunctions := false}) | (refine Int.le_antisymm ?_ ?_ <;> omega (config := {splitDisjunctions := false})) | omega) (by first | omega (config := {splitDisjunctions := false}) | (refine Int.le_antisymm ?_ ?_ <;> omega (config := {splitDisjunctions := false})) | omega) (lv_sub hl [0, 1, 2, 3, 4, 5, 6, 7] rfl)
        · (exfalso; omega)
