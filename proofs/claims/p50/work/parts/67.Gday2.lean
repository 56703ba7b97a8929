set_option maxRecDepth 100000 in
set_option maxHeartbeats 8000000 in
theorem sg_day2 (l : Launch) {p : Program} {e : Env} {s : State} {m : MethodId} {args : Array Value} {below : List Frame} {meth : Method} {c : Code} {X : xW} {Γ : Nat → Option Nat} {Qz : State → Prop} (E : Ev p s m args meth c cL_law 15 "SnowFortsLaw" ret X Γ s.heap) (H0 : Heap) (hC0 : Conf X Γ H0) (locs0 : List Loc) (hS0 : va_S (AΓ Γ) s.heap H0 locs0) (h0 : Nat) (g0 : Γ h0 = some 0) (mm ha : Nat) (gmm : Γ mm = some 90) (gha : Γ ha = some 91) (yd : Nat) (hyd : sR H0 h0 (X.1.2 10 5) = some yd) (gyd : Γ yd = some 5) (sn wl su lw ic kn hd us br ar fi : Nat) (yn : YN X Γ H0 yd sn wl su lw ic kn hd us br ar fi) (wk : Nat) (hwk : sR H0 h0 (X.1.2 10 12) = some wk) (gwk : Γ wk = some 7) (pa hh wt : Nat) (wn : WN X Γ H0 wk pa hh wt) (w9 h9 s9 : Int) (qw : w9 = 2 ∨ w9 = 4) (qh : 1 ≤ h9 ∧ h9 ≤ 3) (qs : s9 = 1 ∨ s9 = 2) (qa0 : aI H0 ha 0 = w9) (qa1 : aI H0 ha 1 = h9) (qa2 : aI H0 ha 2 = s9) (qy0 : (sI H0 yd (X.1.2 8 0)).toInt = w9) (qy1 : (sI H0 yd (X.1.2 8 1)).toInt = h9) (qy2 : (sI H0 yd (X.1.2 8 2)).toInt = s9) (v7 : Int32) {z7 : Int} (ev7 : v7.toInt = z7) (v6 : Int32) {z6 : Int} (ev6 : v6.toInt = z6) (v5 : Int32) {z5 : Int} (ev5 : v5.toInt = z5) (v4 : Int32) {z4 : Int} (ev4 : v4.toInt = z4) (hz5 : 0 ≤ z5 ∧ z5 ≤ 7128) (hcn : SM H0 sn 36 + SM H0 wl 36 + (sI H0 yd (X.1.2 8 4)).toInt + (sI H0 yd (X.1.2 8 5)).toInt = z5 + (sI H0 yd (X.1.2 8 6)).toInt) (hr1 : 0 ≤ (sI H0 yd (X.1.2 8 5)).toInt ∧ (sI H0 yd (X.1.2 8 5)).toInt ≤ 60000) (hr2 : 0 ≤ (sI H0 yd (X.1.2 8 6)).toInt ∧ (sI H0 yd (X.1.2 8 6)).toInt ≤ 60000) (hr3 : 0 ≤ (sI H0 yd (X.1.2 8 4)).toInt ∧ (sI H0 yd (X.1.2 8 4)).toInt ≤ 60000) {ls : Array Slot} (hl : lv_has ls 15 [(7, .int v7), (6, .int v6), (5, .int v5), (4, .int v4), (0, .ref (sad X)), (1, .ref h0), (2, .ref mm), (3, .ref ha)]) (hk : ∀ (H1 : Heap) (locs1 : List Loc) (ls : Array Slot), Conf X Γ H1 → va_S (AΓ Γ) s.heap H1 locs1 → Kp X Γ [3, 29, 31, 32, 33, 34, 37, 39, 40, 50, 51, 52, 53, 54, 55, 56, 57, 58, 59, 60, 61, 62, 63, 65, 67, 68, 69, 70, 71] H0 H1 → lv_has ls 15 [(7, .int v7), (6, .int v6), (5, .int v5), (4, .int v4), (0, .ref (sad X)), (1, .ref h0), (2, .ref mm), (3, .ref ha)] → W p l e room_1 s m args below meth c H1 locs1 133 8682 Qz (F0 m 844 ls [])) : W p l e room_1 s m args below meth c H0 locs0 133 8682 Qz (F0 m 804 ls []) := by
  have hx := E.1; have hb := E.2.1
  have hKp0 : Kp X Γ [3, 29, 31, 32, 33, 34, 37, 39, 40, 50, 51, 52, 53, 54, 55, 56, 57, 58, 59, 60, 61, 62, 63, 65, 67, 68, 69, 70, 71] H0 H0 := Kp.rf
  have gsn := yn.sn.2; have gwl := yn.wl.2; have gsu := yn.su.2; have glw := yn.lw.2; have gic := yn.ic.2; have gkn := yn.kn.2; have ghd := yn.hd.2; have gus := yn.us.2; have gbr := yn.br.2; have gar := yn.ar.2; have gfi := yn.fi.2
  have gpa := wn.pa.2; have ghh := wn.hh.2; have gwt := wn.wt.2
  have qw1 : 2 ≤ w9 ∧ w9 ≤ 4 := by first | omega (config := {splitDisjunctions := false}) | (refine Int.le_antisymm ?_ ?_ <;> omega (config := {splitDisjunctions := false})) | omega
  have qs1 : 1 ≤ s9 ∧ s9 ≤ 2 := by first | omega (config := {splitDisjunctions := false}) | (refine Int.le_antisymm ?_ ?_ <;> omega (config := {splitDisjunctions := false})) | omega
  clear qw qs
  have hsb1 := SM_bd (n := 36) hC0 gsn rfl rfl (fun _ => rfl) (by decide)
  have hsb2 := SM_bd (n := 36) hC0 gwl rfl rfl (fun _ => rfl) (by decide)
  refine lv_aload_n hx hb dL_law_804 rfl (lv_at hl 5 rfl) ?_
  refine lv_iconst (v := 5) hx hb dL_law_805 rfl ?_
  refine r_goI (r_runV (As := [.int 5]) (rest := []) E hC0 hS0 (m_X11_many l X Γ H0 hC0 h0 g0 5 (a1 := 5) (by decide) yd hyd gyd sn wl su lw ic kn hd us br ar fi yn (by first | omega (config := {splitDisjunctions := false}) | (refine Int.le_antisymm ?_ ?_ <;> omega (config := {splitDisjunctions := false})) | omega) (by first | omega (config := {splitDisjunctions := false}) | (refine Int.le_antisymm ?_ ?_ <;> omega (config := {splitDisjunctions := false})) | omega)) cw_X11_many cl_RL_100 g0 ⟨rfl, rfl⟩ rfl hl.1 rfl (Nat.zero_le _) (by decide) dL_law_806) hS0 (fun v21 H21 locs21 hr21 hC21 hS21 => ?_)
  obtain ⟨hp21, hr21⟩ := hr21
  have hKp21 := hKp0.tr (hp21.mono rfl)
  have m22 : (sI H21 yd (X.1.2 8 0)).toInt = (sI H0 yd (X.1.2 8 0)).toInt := congrArg Int32.toInt (kp_I hp21 gyd (ci := 8) (k := 0) rfl (by decide) rfl)
  have m23 : (sI H21 yd (X.1.2 8 1)).toInt = (sI H0 yd (X.1.2 8 1)).toInt := congrArg Int32.toInt (kp_I hp21 gyd (ci := 8) (k := 1) rfl (by decide) rfl)
  have m24 : (sI H21 yd (X.1.2 8 2)).toInt = (sI H0 yd (X.1.2 8 2)).toInt := congrArg Int32.toInt (kp_I hp21 gyd (ci := 8) (k := 2) rfl (by decide) rfl)
  have m25 : (sI H21 yd (X.1.2 8 4)).toInt = (sI H0 yd (X.1.2 8 4)).toInt := congrArg Int32.toInt (kp_I hp21 gyd (ci := 8) (k := 4) rfl (by decide) rfl)
  have m26 : (sI H21 yd (X.1.2 8 5)).toInt = (sI H0 yd (X.1.2 8 5)).toInt := congrArg Int32.toInt (kp_I hp21 gyd (ci := 8) (k := 5) rfl (by decide) rfl)
  have m27 : (sI H21 yd (X.1.2 8 6)).toInt = (sI H0 yd (X.1.2 8 6)).toInt := congrArg Int32.toInt (kp_I hp21 gyd (ci := 8) (k := 6) rfl (by decide) rfl)
  have m28 : SM H21 sn 36 = SM H0 sn 36 := SM_kp hp21 gsn rfl rfl
  have m29 : SM H21 wl 36 = SM H0 wl 36 := SM_kp hp21 gwl rfl rfl
  obtain ⟨f21_0, f21_1, f21_2, f21_3, f21_4, f21_5⟩ := hr21
  have hv5 := f21_1 rfl
  clear f21_0
  replace f21_1 := f21_1 rfl
  clear f21_2
  clear f21_3
  clear f21_4
  clear f21_5
  refine lv_aload_n hx hb dL_law_809 rfl (lv_at hl 5 rfl) ?_
  refine lv_bipush (v := 6) hx hb dL_law_810 rfl ?_
  refine r_goI (r_runV (As := [.int 6]) (rest := [.int v21]) E hC21 hS21 (m_X11_many l X Γ H21 hC21 h0 g0 6 (a1 := 6) (by decide) yd ((kp_R hKp21 g0 (ci := 10) (k := 5) rfl (by decide) rfl).trans hyd) gyd sn wl su lw ic kn hd us br ar fi (yn.kp gyd hKp21 rfl) (by first | omega (config := {splitDisjunctions := false}) | (refine Int.le_antisymm ?_ ?_ <;> omega (config := {splitDisjunctions := false})) | omega) (by first | omega (config := {splitDisjunctions := false}) | (refine Int.le_antisymm ?_ ?_ <;> omega (config := {splitDisjunctions := false})) | omega)) cw_X11_many cl_RL_100 g0 ⟨rfl, rfl⟩ rfl hl.1 rfl (show _ ≤ _ from by simp [Value.category]) (by decide) dL_law_812) hS21 (fun v30 H30 locs30 hr30 hC30 hS30 => ?_)
  obtain ⟨hp30, hr30⟩ := hr30
  have hKp30 := hKp21.tr (hp30.mono rfl)
  have m31 : (sI H30 yd (X.1.2 8 0)).toInt = (sI H21 yd (X.1.2 8 0)).toInt := congrArg Int32.toInt (kp_I hp30 gyd (ci := 8) (k := 0) rfl (by decide) rfl)
  have m32 : (sI H30 yd (X.1.2 8 1)).toInt = (sI H21 yd (X.1.2 8 1)).toInt := congrArg Int32.toInt (kp_I hp30 gyd (ci := 8) (k := 1) rfl (by decide) rfl)
  have m33 : (sI H30 yd (X.1.2 8 2)).toInt = (sI H21 yd (X.1.2 8 2)).toInt := congrArg Int32.toInt (kp_I hp30 gyd (ci := 8) (k := 2) rfl (by decide) rfl)
  have m34 : (sI H30 yd (X.1.2 8 4)).toInt = (sI H21 yd (X.1.2 8 4)).toInt := congrArg Int32.toInt (kp_I hp30 gyd (ci := 8) (k := 4) rfl (by decide) rfl)
  have m35 : (sI H30 yd (X.1.2 8 5)).toInt = (sI H21 yd (X.1.2 8 5)).toInt := congrArg Int32.toInt (kp_I hp30 gyd (ci := 8) (k := 5) rfl (by decide) rfl)
  have m36 : (sI H30 yd (X.1.2 8 6)).toInt = (sI H21 yd (X.1.2 8 6)).toInt := congrArg Int32.toInt (kp_I hp30 gyd (ci := 8) (k := 6) rfl (by decide) rfl)
  have m37 : SM H30 sn 36 = SM H21 sn 36 := SM_kp hp30 gsn rfl rfl
  have m38 : SM H30 wl 36 = SM H21 wl 36 := SM_kp hp30 gwl rfl rfl
  obtain ⟨f30_0, f30_1, f30_2, f30_3, f30_4, f30_5⟩ := hr30
  have hv6 := f30_2 rfl
  clear f30_0
  clear f30_1
  replace f30_2 := f30_2 rfl
  clear f30_3
  clear f30_4
  clear f30_5
  refine lv_iadd hx hb dL_law_815 (lv_topi (fun v39 ev39 => ?_))
  have ev39i : v39.toInt = (v21.toInt + v30.toInt) := i_add ev39 rfl rfl (by first | omega (config := {splitDisjunctions := false}) | (refine Int.le_antisymm ?_ ?_ <;> omega (config := {splitDisjunctions := false})) | omega) (by first | omega (config := {splitDisjunctions := false}) | (refine Int.le_antisymm ?_ ?_ <;> omega (config := {splitDisjunctions := false})) | omega)
  refine lv_aload_n hx hb dL_law_816 rfl (lv_at hl 5 rfl) ?_
  refine lv_bipush (v := 7) hx hb dL_law_817 rfl ?_
  refine r_goI (r_runV (As := [.int 7]) (rest := [.int v39]) E hC30 hS30 (m_X11_many l X Γ H30 hC30 h0 g0 7 (a1 := 7) (by decide) yd ((kp_R hKp30 g0 (ci := 10) (k := 5) rfl (by decide) rfl).trans hyd) gyd sn wl su lw ic kn hd us br ar fi (yn.kp gyd hKp30 rfl) (by first | omega (config := {splitDisjunctions := false}) | (refine Int.le_antisymm ?_ ?_ <;> omega (config := {splitDisjunctions := false})) | omega) (by first | omega (config := {splitDisjunctions := false}) | (refine Int.le_antisymm ?_ ?_ <;> omega (config := {splitDisjunctions := false})) | omega)) cw_X11_many cl_RL_100 g0 ⟨rfl, rfl⟩ rfl hl.1 rfl (show _ ≤ _ from by simp [Value.category]) (by decide) dL_law_819) hS30 (fun v40 H40 locs40 hr40 hC40 hS40 => ?_)
  obtain ⟨hp40, hr40⟩ := hr40
  have hKp40 := hKp30.tr (hp40.mono rfl)
  have m41 : (sI H40 yd (X.1.2 8 0)).toInt = (sI H30 yd (X.1.2 8 0)).toInt := congrArg Int32.toInt (kp_I hp40 gyd (ci := 8) (k := 0) rfl (by decide) rfl)
  have m42 : (sI H40 yd (X.1.2 8 1)).toInt = (sI H30 yd (X.1.2 8 1)).toInt := congrArg Int32.toInt (kp_I hp40 gyd (ci := 8) (k := 1) rfl (by decide) rfl)
  have m43 : (sI H40 yd (X.1.2 8 2)).toInt = (sI H30 yd (X.1.2 8 2)).toInt := congrArg Int32.toInt (kp_I hp40 gyd (ci := 8) (k := 2) rfl (by decide) rfl)
  have m44 : (sI H40 yd (X.1.2 8 4)).toInt = (sI H30 yd (X.1.2 8 4)).toInt := congrArg Int32.toInt (kp_I hp40 gyd (ci := 8) (k := 4) rfl (by decide) rfl)
  have m45 : (sI H40 yd (X.1.2 8 5)).toInt = (sI H30 yd (X.1.2 8 5)).toInt := congrArg Int32.toInt (kp_I hp40 gyd (ci := 8) (k := 5) rfl (by decide) rfl)
  have m46 : (sI H40 yd (X.1.2 8 6)).toInt = (sI H30 yd (X.1.2 8 6)).toInt := congrArg Int32.toInt (kp_I hp40 gyd (ci := 8) (k := 6) rfl (by decide) rfl)
  have m47 : SM H40 sn 36 = SM H30 sn 36 := SM_kp hp40 gsn rfl rfl
  have m48 : SM H40 wl 36 = SM H30 wl 36 := SM_kp hp40 gwl rfl rfl
  obtain ⟨f40_0, f40_1, f40_2, f40_3, f40_4, f40_5⟩ := hr40
  have hv7 := f40_3 rfl
  clear f40_0
  clear f40_1
  clear f40_2
  replace f40_3 := f40_3 rfl
  clear f40_4
  clear f40_5
  refine lv_iadd hx hb dL_law_822 (lv_topi (fun v49 ev49 => ?_))
  have ev49i : v49.toInt = ((v21.toInt + v30.toInt) + v40.toInt) := i_add ev49 ev39i rfl (by first | omega (config := {splitDisjunctions := false}) | (refine Int.le_antisymm ?_ ?_ <;> omega (config := {splitDisjunctions := false})) | omega) (by first | omega (config := {splitDisjunctions := false}) | (refine Int.le_antisymm ?_ ?_ <;> omega (config := {splitDisjunctions := false})) | omega)
  refine lv_aload_n hx hb dL_law_823 rfl (lv_at hl 5 rfl) ?_
  refine lv_bipush (v := 8) hx hb dL_law_824 rfl ?_
  refine r_goI (r_runV (As := [.int 8]) (rest := [.int v49]) E hC40 hS40 (m_X11_many l X Γ H40 hC40 h0 g0 8 (a1 := 8) (by decide) yd ((kp_R hKp40 g0 (ci := 10) (k := 5) rfl (by decide) rfl).trans hyd) gyd sn wl su lw ic kn hd us br ar fi (yn.kp gyd hKp40 rfl) (by first | omega (config := {splitDisjunctions := false}) | (refine Int.le_antisymm ?_ ?_ <;> omega (config := {splitDisjunctions := false})) | omega) (by first | omega (config := {splitDisjunctions := false}) | (refine Int.le_antisymm ?_ ?_ <;> omega (config := {splitDisjunctions := false})) | omega)) cw_X11_many cl_RL_100 g0 ⟨rfl, rfl⟩ rfl hl.1 rfl (show _ ≤ _ from by simp [Value.category]) (by decide) dL_law_826) hS40 (fun v50 H50 locs50 hr50 hC50 hS50 => ?_)
  obtain ⟨hp50, hr50⟩ := hr50
  have hKp50 := hKp40.tr (hp50.mono rfl)
  have m51 : (sI H50 yd (X.1.2 8 0)).toInt = (sI H40 yd (X.1.2 8 0)).toInt := congrArg Int32.toInt (kp_I hp50 gyd (ci := 8) (k := 0) rfl (by decide) rfl)
  have m52 : (sI H50 yd (X.1.2 8 1)).toInt = (sI H40 yd (X.1.2 8 1)).toInt := congrArg Int32.toInt (kp_I hp50 gyd (ci := 8) (k := 1) rfl (by decide) rfl)
  have m53 : (sI H50 yd (X.1.2 8 2)).toInt = (sI H40 yd (X.1.2 8 2)).toInt := congrArg Int32.toInt (kp_I hp50 gyd (ci := 8) (k := 2) rfl (by decide) rfl)
  have m54 : (sI H50 yd (X.1.2 8 4)).toInt = (sI H40 yd (X.1.2 8 4)).toInt := congrArg Int32.toInt (kp_I hp50 gyd (ci := 8) (k := 4) rfl (by decide) rfl)
  have m55 : (sI H50 yd (X.1.2 8 5)).toInt = (sI H40 yd (X.1.2 8 5)).toInt := congrArg Int32.toInt (kp_I hp50 gyd (ci := 8) (k := 5) rfl (by decide) rfl)
  have m56 : (sI H50 yd (X.1.2 8 6)).toInt = (sI H40 yd (X.1.2 8 6)).toInt := congrArg Int32.toInt (kp_I hp50 gyd (ci := 8) (k := 6) rfl (by decide) rfl)
  have m57 : SM H50 sn 36 = SM H40 sn 36 := SM_kp hp50 gsn rfl rfl
  have m58 : SM H50 wl 36 = SM H40 wl 36 := SM_kp hp50 gwl rfl rfl
  obtain ⟨f50_0, f50_1, f50_2, f50_3, f50_4, f50_5⟩ := hr50
  have hv8 := f50_4 rfl
  clear f50_0
  clear f50_1
  clear f50_2
  clear f50_3
  replace f50_4 := f50_4 rfl
  clear f50_5
  refine lv_iadd hx hb dL_law_829 (lv_topi (fun v59 ev59 => ?_))
  have ev59i : v59.toInt = (((v21.toInt + v30.toInt) + v40.toInt) + v50.toInt) := i_add ev59 ev49i rfl (by first | omega (config := {splitDisjunctions := false}) | (refine Int.le_antisymm ?_ ?_ <;> omega (config := {splitDisjunctions := false})) | omega) (by first | omega (config := {splitDisjunctions := false}) | (refine Int.le_antisymm ?_ ?_ <;> omega (config := {splitDisjunctions := false})) | omega)
  refine lv_iload hx hb dL_law_830 (lv_at hl 2 rfl) ?_
  refine lv_aload_n hx hb dL_law_832 rfl (lv_at hl 5 rfl) ?_
  refine lv_bipush (v := 9) hx hb dL_law_833 rfl ?_
  refine r_goI (r_runV (As := [.int 9]) (rest := [.int v5, .int v59]) E hC50 hS50 (m_X11_many l X Γ H50 hC50 h0 g0 9 (a1 := 9) (by decide) yd ((kp_R hKp50 g0 (ci := 10) (k := 5) rfl (by decide) rfl).trans hyd) gyd sn wl su lw ic kn hd us br ar fi (yn.kp gyd hKp50 rfl) (by first | omega (config := {splitDisjunctions := false}) | (refine Int.le_antisymm ?_ ?_ <;> omega (config := {splitDisjunctions := false})) | omega) (by first | omega (config := {splitDisjunctions := false}) | (refine Int.le_antisymm ?_ ?_ <;> omega (config := {splitDisjunctions := false})) | omega)) cw_X11_many cl_RL_100 g0 ⟨rfl, rfl⟩ rfl hl.1 rfl (show _ ≤ _ from by simp [Value.category]) (by decide) dL_law_835) hS50 (fun v60 H60 locs60 hr60 hC60 hS60 => ?_)
  obtain ⟨hp60, hr60⟩ := hr60
  have hKp60 := hKp50.tr (hp60.mono rfl)
  have m61 : (sI H60 yd (X.1.2 8 0)).toInt = (sI H50 yd (X.1.2 8 0)).toInt := congrArg Int32.toInt (kp_I hp60 gyd (ci := 8) (k := 0) rfl (by decide) rfl)
  have m62 : (sI H60 yd (X.1.2 8 1)).toInt = (sI H50 yd (X.1.2 8 1)).toInt := congrArg Int32.toInt (kp_I hp60 gyd (ci := 8) (k := 1) rfl (by decide) rfl)
  have m63 : (sI H60 yd (X.1.2 8 2)).toInt = (sI H50 yd (X.1.2 8 2)).toInt := congrArg Int32.toInt (kp_I hp60 gyd (ci := 8) (k := 2) rfl (by decide) rfl)
  have m64 : (sI H60 yd (X.1.2 8 4)).toInt = (sI H50 yd (X.1.2 8 4)).toInt := congrArg Int32.toInt (kp_I hp60 gyd (ci := 8) (k := 4) rfl (by decide) rfl)
  have m65 : (sI H60 yd (X.1.2 8 5)).toInt = (sI H50 yd (X.1.2 8 5)).toInt := congrArg Int32.toInt (kp_I hp60 gyd (ci := 8) (k := 5) rfl (by decide) rfl)
  have m66 : (sI H60 yd (X.1.2 8 6)).toInt = (sI H50 yd (X.1.2 8 6)).toInt := congrArg Int32.toInt (kp_I hp60 gyd (ci := 8) (k := 6) rfl (by decide) rfl)
  have m67 : SM H60 sn 36 = SM H50 sn 36 := SM_kp hp60 gsn rfl rfl
  have m68 : SM H60 wl 36 = SM H50 wl 36 := SM_kp hp60 gwl rfl rfl
  obtain ⟨f60_0, f60_1, f60_2, f60_3, f60_4, f60_5⟩ := hr60
  have hv9 := f60_5 rfl
  clear f60_0
  clear f60_1
  clear f60_2
  clear f60_3
  clear f60_4
  replace f60_5 := f60_5 rfl
  refine lv_iadd hx hb dL_law_838 (lv_topi (fun v69 ev69 => ?_))
  have ev69i : v69.toInt = (z5 + v60.toInt) := i_add ev69 ev5 rfl (by first | omega (config := {splitDisjunctions := false}) | (refine Int.le_antisymm ?_ ?_ <;> omega (config := {splitDisjunctions := false})) | omega) (by first | omega (config := {splitDisjunctions := false}) | (refine Int.le_antisymm ?_ ?_ <;> omega (config := {splitDisjunctions := false})) | omega)
  refine q_icmp_eq hx hb (a := (((v21.toInt + v30.toInt) + v40.toInt) + v50.toInt)) (b := (z5 + v60.toInt)) ev59i ev69i (tgt := 844) dL_law_839 rfl (fun c70 => ?_) (fun c70 => ?_)
  · exact hk H60 locs60 ls hC60 hS60 hKp60 (lv_sub hl [0, 1, 2, 3, 4, 5, 6, 7] rfl)
  · (exfalso; omega)
