set_option maxRecDepth 100000 in
set_option maxHeartbeats 8000000 in
theorem sg_day3 (l : Launch) {p : Program} {e : Env} {s : State} {m : MethodId} {args : Array Value} {below : List Frame} {meth : Method} {c : Code} {X : xW} {Γ : Nat → Option Nat} {Qz : State → Prop} (E : Ev p s m args meth c cL_law 15 "SnowFortsLaw" ret X Γ s.heap) (H0 : Heap) (hC0 : Conf X Γ H0) (locs0 : List Loc) (hS0 : va_S (AΓ Γ) s.heap H0 locs0) (h0 : Nat) (g0 : Γ h0 = some 0) (mm ha : Nat) (gmm : Γ mm = some 90) (gha : Γ ha = some 91) (yd : Nat) (hyd : sR H0 h0 (X.1.2 10 5) = some yd) (gyd : Γ yd = some 5) (sn wl su lw ic kn hd us br ar fi : Nat) (yn : YN X Γ H0 yd sn wl su lw ic kn hd us br ar fi) (wk : Nat) (hwk : sR H0 h0 (X.1.2 10 12) = some wk) (gwk : Γ wk = some 7) (pa hh wt : Nat) (wn : WN X Γ H0 wk pa hh wt) (w9 h9 s9 : Int) (qw : w9 = 2 ∨ w9 = 4) (qh : 1 ≤ h9 ∧ h9 ≤ 3) (qs : s9 = 1 ∨ s9 = 2) (qa0 : aI H0 ha 0 = w9) (qa1 : aI H0 ha 1 = h9) (qa2 : aI H0 ha 2 = s9) (qy0 : (sI H0 yd (X.1.2 8 0)).toInt = w9) (qy1 : (sI H0 yd (X.1.2 8 1)).toInt = h9) (qy2 : (sI H0 yd (X.1.2 8 2)).toInt = s9) (v7 : Int32) {z7 : Int} (ev7 : v7.toInt = z7) (v6 : Int32) {z6 : Int} (ev6 : v6.toInt = z6) (v5 : Int32) {z5 : Int} (ev5 : v5.toInt = z5) (v4 : Int32) {z4 : Int} (ev4 : v4.toInt = z4) (hbr : s9 = 1 → aI H0 br 1 = 0) {ls : Array Slot} (hl : lv_has ls 15 [(7, .int v7), (6, .int v6), (5, .int v5), (4, .int v4), (0, .ref (sad X)), (1, .ref h0), (2, .ref mm), (3, .ref ha)]) (hk : ∀ (H1 : Heap) (locs1 : List Loc) (ls : Array Slot), Conf X Γ H1 → va_S (AΓ Γ) s.heap H1 locs1 → Kp X Γ [3, 29, 31, 32, 33, 34, 37, 39, 40, 50, 51, 52, 53, 54, 55, 56, 57, 58, 59, 60, 61, 62, 63, 65, 67, 68, 69, 70, 71] H0 H1 → lv_has ls 15 [(7, .int v7), (6, .int v6), (5, .int v5), (4, .int v4), (0, .ref (sad X)), (1, .ref h0), (2, .ref mm), (3, .ref ha)] → W p l e room_1 s m args below meth c H1 locs1 133 8682 Qz (F0 m 878 ls [])) : W p l e room_1 s m args below meth c H0 locs0 133 8682 Qz (F0 m 844 ls []) := by
  have hx := E.1; have hb := E.2.1
  have hKp0 : Kp X Γ [3, 29, 31, 32, 33, 34, 37, 39, 40, 50, 51, 52, 53, 54, 55, 56, 57, 58, 59, 60, 61, 62, 63, 65, 67, 68, 69, 70, 71] H0 H0 := Kp.rf
  have gsn := yn.sn.2; have gwl := yn.wl.2; have gsu := yn.su.2; have glw := yn.lw.2; have gic := yn.ic.2; have gkn := yn.kn.2; have ghd := yn.hd.2; have gus := yn.us.2; have gbr := yn.br.2; have gar := yn.ar.2; have gfi := yn.fi.2
  have gpa := wn.pa.2; have ghh := wn.hh.2; have gwt := wn.wt.2
  have qw1 : 2 ≤ w9 ∧ w9 ≤ 4 := by first | omega (config := {splitDisjunctions := false}) | (refine Int.le_antisymm ?_ ?_ <;> omega (config := {splitDisjunctions := false})) | omega
  have qs1 : 1 ≤ s9 ∧ s9 ≤ 2 := by first | omega (config := {splitDisjunctions := false}) | (refine Int.le_antisymm ?_ ?_ <;> omega (config := {splitDisjunctions := false})) | omega
  clear qw qs
  refine lv_aload_n hx hb dL_law_844 rfl (lv_at hl 5 rfl) ?_
  refine lv_iconst (v := 4) hx hb dL_law_845 rfl ?_
  refine r_goI (r_runV (As := [.int 4]) (rest := []) E hC0 hS0 (m_X11_many l X Γ H0 hC0 h0 g0 4 (a1 := 4) (by decide) yd hyd gyd sn wl su lw ic kn hd us br ar fi yn (by first | omega (config := {splitDisjunctions := false}) | (refine Int.le_antisymm ?_ ?_ <;> omega (config := {splitDisjunctions := false})) | omega) (by first | omega (config := {splitDisjunctions := false}) | (refine Int.le_antisymm ?_ ?_ <;> omega (config := {splitDisjunctions := false})) | omega)) cw_X11_many cl_RL_100 g0 ⟨rfl, rfl⟩ rfl hl.1 rfl (Nat.zero_le _) (by decide) dL_law_846) hS0 (fun v21 H21 locs21 hr21 hC21 hS21 => ?_)
  obtain ⟨hp21, hr21⟩ := hr21
  have hKp21 := hKp0.tr (hp21.mono rfl)
  have m22 : aI H21 ha (0) = aI H0 ha (0) := aI_kp hp21 gha rfl rfl
  have m23 : aI H21 ha (1) = aI H0 ha (1) := aI_kp hp21 gha rfl rfl
  have m24 : aI H21 ha (2) = aI H0 ha (2) := aI_kp hp21 gha rfl rfl
  have m25 : aI H21 br (1) = aI H0 br (1) := aI_kp hp21 gbr rfl rfl
  have m26 : (sI H21 yd (X.1.2 8 0)).toInt = (sI H0 yd (X.1.2 8 0)).toInt := congrArg Int32.toInt (kp_I hp21 gyd (ci := 8) (k := 0) rfl (by decide) rfl)
  have m27 : (sI H21 yd (X.1.2 8 1)).toInt = (sI H0 yd (X.1.2 8 1)).toInt := congrArg Int32.toInt (kp_I hp21 gyd (ci := 8) (k := 1) rfl (by decide) rfl)
  have m28 : (sI H21 yd (X.1.2 8 2)).toInt = (sI H0 yd (X.1.2 8 2)).toInt := congrArg Int32.toInt (kp_I hp21 gyd (ci := 8) (k := 2) rfl (by decide) rfl)
  obtain ⟨f21_0, f21_1, f21_2, f21_3, f21_4, f21_5⟩ := hr21
  have b4 : v21 = sI H21 br 0 + sI H21 br 1 := by rw [kp_aI hp21 0 gbr rfl rfl, kp_aI hp21 1 gbr rfl rfl]; exact f21_0 rfl
  obtain ⟨m4, hm4⟩ : ∃ z, v21 = z := ⟨_, rfl⟩
  have hm5 := congrArg Int32.toInt hm4
  have hz1 : s9 = 1 → sI H21 br 1 = 0 := fun q => Int32.toInt_inj.mp (show aI H21 br 1 = 0 by have hb9 := hbr q; clear hbr; omega)
  replace f21_0 := f21_0 rfl
  clear f21_1
  clear f21_2
  clear f21_3
  clear f21_4
  clear f21_5
  refine lv_aload_n hx hb dL_law_849 rfl (lv_at hl 5 rfl) ?_
  refine lv_iconst (v := 0) hx hb dL_law_850 rfl ?_
  refine lv_iconst (v := 2) hx hb dL_law_851 rfl ?_
  refine r_goI (r_runV (As := [.int 0, .int 2]) (rest := [.int v21]) E hC21 hS21 (m_X11_school l X Γ H21 hC21 h0 g0 0 (a1 := 0) (by decide) 2 (a2 := 2) (by decide) yd ((kp_R hKp21 g0 (ci := 10) (k := 5) rfl (by decide) rfl).trans hyd) gyd sn wl su lw ic kn hd us br ar fi (yn.kp gyd hKp21 rfl) (by first | omega (config := {splitDisjunctions := false}) | (refine Int.le_antisymm ?_ ?_ <;> omega (config := {splitDisjunctions := false})) | omega) (by first | omega (config := {splitDisjunctions := false}) | (refine Int.le_antisymm ?_ ?_ <;> omega (config := {splitDisjunctions := false})) | omega) (by first | omega (config := {splitDisjunctions := false}) | (refine Int.le_antisymm ?_ ?_ <;> omega (config := {splitDisjunctions := false})) | omega) (by first | omega (config := {splitDisjunctions := false}) | (refine Int.le_antisymm ?_ ?_ <;> omega (config := {splitDisjunctions := false})) | omega) (by first | omega (config := {splitDisjunctions := false}) | (refine Int.le_antisymm ?_ ?_ <;> omega (config := {splitDisjunctions := false})) | omega)) cw_X11_school cl_RL_122 g0 ⟨rfl, rfl⟩ rfl hl.1 rfl (show _ ≤ _ from by simp [Value.category]) (by decide) dL_law_852) hS21 (fun v29 H29 locs29 hr29 hC29 hS29 => ?_)
  obtain ⟨hp29, hr29⟩ := hr29
  have hKp29 := hKp21.tr (hp29.mono rfl)
  have m30 : aI H29 ha (0) = aI H21 ha (0) := aI_kp hp29 gha rfl rfl
  have m31 : aI H29 ha (1) = aI H21 ha (1) := aI_kp hp29 gha rfl rfl
  have m32 : aI H29 ha (2) = aI H21 ha (2) := aI_kp hp29 gha rfl rfl
  have m33 : aI H29 br (1) = aI H21 br (1) := aI_kp hp29 gbr rfl rfl
  have m34 : (sI H29 yd (X.1.2 8 0)).toInt = (sI H21 yd (X.1.2 8 0)).toInt := congrArg Int32.toInt (kp_I hp29 gyd (ci := 8) (k := 0) rfl (by decide) rfl)
  have m35 : (sI H29 yd (X.1.2 8 1)).toInt = (sI H21 yd (X.1.2 8 1)).toInt := congrArg Int32.toInt (kp_I hp29 gyd (ci := 8) (k := 1) rfl (by decide) rfl)
  have m36 : (sI H29 yd (X.1.2 8 2)).toInt = (sI H21 yd (X.1.2 8 2)).toInt := congrArg Int32.toInt (kp_I hp29 gyd (ci := 8) (k := 2) rfl (by decide) rfl)
  obtain ⟨f29_0, f29_1, f29_2, f29_3⟩ := hr29
  have b2 : v29 = sI H29 br 0 := by rw [kp_aI hp29 0 gbr rfl rfl]; exact f29_2 rfl
  have c0 := kp_aI hp29 0 gbr rfl rfl
  have c1 := kp_aI hp29 1 gbr rfl rfl
  clear f29_0
  clear f29_1
  replace f29_2 := f29_2 rfl
  clear f29_3
  refine lv_aload_n hx hb dL_law_855 rfl (lv_at hl 7 rfl) ?_
  refine lv_iconst (v := 2) hx hb dL_law_856 rfl ?_
  refine q_iald E hC29 gha rfl rfl (rl_91_2 (show (2 : Int32).toInt = 2 from by decide) (by first | omega (config := {splitDisjunctions := false}) | (refine Int.le_antisymm ?_ ?_ <;> omega (config := {splitDisjunctions := false})) | omega) (by first | omega (config := {splitDisjunctions := false}) | (refine Int.le_antisymm ?_ ?_ <;> omega (config := {splitDisjunctions := false})) | omega)) (i_in (a := 2) (show (2 : Int32).toInt = 2 from by decide) (by first | omega (config := {splitDisjunctions := false}) | (refine Int.le_antisymm ?_ ?_ <;> omega (config := {splitDisjunctions := false})) | omega) (by first | omega (config := {splitDisjunctions := false}) | (refine Int.le_antisymm ?_ ?_ <;> omega (config := {splitDisjunctions := false})) | omega)) dL_law_857 (fun v37 ev37 lv37 uv37 => ?_)
  have m38 : aI H29 ha (2) = v37.toInt := aI_of (show (2 : Int32).toInt = 2 from by decide) ev37
  refine lv_iconst (v := 1) hx hb dL_law_858 rfl ?_
  refine q_icmp_le hx hb (a := v37.toInt) (b := 1) rfl (by decide) (tgt := 871) dL_law_859 rfl (fun c39 => ?_) (fun c39 => ?_)
  · refine lv_iconst (v := 0) hx hb dL_law_871 rfl ?_
    refine lv_iadd hx hb dL_law_872 (lv_topi (fun v40 ev40 => ?_))
    have hz2 : v40 = m4 := by
      first
      | (rw [ev40, b2, b3, d1, c1, c0]; exact b4.symm.trans hm4)
      | (rw [ev40, b2, c0, ← hm4, b4, hz1 (by first | omega (config := {splitDisjunctions := false}) | (refine Int.le_antisymm ?_ ?_ <;> omega (config := {splitDisjunctions := false})) | omega)])
    have hz3 := congrArg Int32.toInt hz2
    have c41 := i_rng v29; rw [show v29.toInt = v29.toInt from rfl] at c41
    have ev40i : v40.toInt = (v29.toInt + 0) := i_add ev40 rfl (by decide) (by first | omega (config := {splitDisjunctions := false}) | (refine Int.le_antisymm ?_ ?_ <;> omega (config := {splitDisjunctions := false})) | omega) (by first | omega (config := {splitDisjunctions := false}) | (refine Int.le_antisymm ?_ ?_ <;> omega (config := {splitDisjunctions := false})) | omega)
    have c42 := i_rng v21; rw [show v21.toInt = v21.toInt from rfl] at c42
    have c43 := i_rng v40; rw [show v40.toInt = (v29.toInt + 0) from ev40i] at c43
    refine q_icmp_eq hx hb (a := v21.toInt) (b := (v29.toInt + 0)) rfl ev40i (tgt := 878) dL_law_873 rfl (fun c44 => ?_) (fun c44 => ?_)
    · exact hk H29 locs29 ls hC29 hS29 hKp29 (lv_sub hl [0, 1, 2, 3, 4, 5, 6, 7] rfl)
    · (exfalso; omega)
  · refine lv_aload_n hx hb dL_law_862 rfl (lv_at hl 5 rfl) ?_
    refine lv_iconst (v := 1) hx hb dL_law_863 rfl ?_
    refine lv_iconst (v := 2) hx hb dL_law_864 rfl ?_
    refine r_goI (r_runV (As := [.int 1, .int 2]) (rest := [.int v29, .int v21]) E hC29 hS29 (m_X11_school l X Γ H29 hC29 h0 g0 1 (a1 := 1) (by decide) 2 (a2 := 2) (by decide) yd ((kp_R hKp29 g0 (ci := 10) (k := 5) rfl (by decide) rfl).trans hyd) gyd sn wl su lw ic kn hd us br ar fi (yn.kp gyd hKp29 rfl) (by first | omega (config := {splitDisjunctions := false}) | (refine Int.le_antisymm ?_ ?_ <;> omega (config := {splitDisjunctions := false})) | omega) (by first | omega (config := {splitDisjunctions := false}) | (refine Int.le_antisymm ?_ ?_ <;> omega (config := {splitDisjunctions := false})) | omega) (by first | omega (config := {splitDisjunctions := false}) | (refine Int.le_antisymm ?_ ?_ <;> omega (config := {splitDisjunctions := false})) | omega) (by first | omega (config := {splitDisjunctions := false}) | (refine Int.le_antisymm ?_ ?_ <;> omega (config := {splitDisjunctions := false})) | omega) (by first | omega (config := {splitDisjunctions := false}) | (refine Int.le_antisymm ?_ ?_ <;> omega (config := {splitDisjunctions := false})) | omega)) cw_X11_school cl_RL_122 g0 ⟨rfl, rfl⟩ rfl hl.1 rfl (show _ ≤ _ from by simp [Value.category]) (by decide) dL_law_865) hS29 (fun v45 H45 locs45 hr45 hC45 hS45 => ?_)
    obtain ⟨hp45, hr45⟩ := hr45
    have hKp45 := hKp29.tr (hp45.mono rfl)
    have m46 : aI H45 ha (0) = aI H29 ha (0) := aI_kp hp45 gha rfl rfl
    have m47 : aI H45 ha (1) = aI H29 ha (1) := aI_kp hp45 gha rfl rfl
    have m48 : aI H45 ha (2) = aI H29 ha (2) := aI_kp hp45 gha rfl rfl
    have m49 : aI H45 br (1) = aI H29 br (1) := aI_kp hp45 gbr rfl rfl
    have m50 : (sI H45 yd (X.1.2 8 0)).toInt = (sI H29 yd (X.1.2 8 0)).toInt := congrArg Int32.toInt (kp_I hp45 gyd (ci := 8) (k := 0) rfl (by decide) rfl)
    have m51 : (sI H45 yd (X.1.2 8 1)).toInt = (sI H29 yd (X.1.2 8 1)).toInt := congrArg Int32.toInt (kp_I hp45 gyd (ci := 8) (k := 1) rfl (by decide) rfl)
    have m52 : (sI H45 yd (X.1.2 8 2)).toInt = (sI H29 yd (X.1.2 8 2)).toInt := congrArg Int32.toInt (kp_I hp45 gyd (ci := 8) (k := 2) rfl (by decide) rfl)
    obtain ⟨f45_0, f45_1, f45_2, f45_3⟩ := hr45
    have b3 : v45 = sI H45 br 1 := by rw [kp_aI hp45 1 gbr rfl rfl]; exact f45_2 rfl
    have d1 := kp_aI hp45 1 gbr rfl rfl
    clear f45_0
    clear f45_1
    replace f45_2 := f45_2 rfl
    clear f45_3
    refine lv_goto (tgt := 872) hx hb dL_law_868 rfl ?_
    refine lv_iadd hx hb dL_law_872 (lv_topi (fun v53 ev53 => ?_))
    have hz2 : v53 = m4 := by
      first
      | (rw [ev53, b2, b3, d1, c1, c0]; exact b4.symm.trans hm4)
      | (rw [ev53, b2, c0, ← hm4, b4, hz1 (by first | omega (config := {splitDisjunctions := false}) | (refine Int.le_antisymm ?_ ?_ <;> omega (config := {splitDisjunctions := false})) | omega)])
    have hz3 := congrArg Int32.toInt hz2
    have c54 := i_rng v21; rw [show v21.toInt = v21.toInt from rfl] at c54
    have c55 := i_rng v53; rw [show v53.toInt = v53.toInt from rfl] at c55
    refine q_icmp_eq hx hb (a := v21.toInt) (b := v53.toInt) rfl rfl (tgt := 878) dL_law_873 rfl (fun c56 => ?_) (fun c56 => ?_)
    · exact hk H45 locs45 ls hC45 hS45 hKp45 (lv_sub hl [0, 1, 2, 3, 4, 5, 6, 7] rfl)
    · (exfalso; omega)
