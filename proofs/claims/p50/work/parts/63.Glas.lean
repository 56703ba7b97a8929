set_option maxRecDepth 100000 in
set_option maxHeartbeats 8000000 in
theorem sg_las (l : Launch) {p : Program} {e : Env} {s : State} {m : MethodId} {args : Array Value} {below : List Frame} {meth : Method} {c : Code} {X : xW} {Γ : Nat → Option Nat} {Qz : State → Prop} (E : Ev p s m args meth c cL_law 15 "SnowFortsLaw" ret X Γ s.heap) (H0 : Heap) (hC0 : Conf X Γ H0) (locs0 : List Loc) (hS0 : va_S (AΓ Γ) s.heap H0 locs0) (h0 : Nat) (g0 : Γ h0 = some 0) (mm ha : Nat) (gmm : Γ mm = some 90) (gha : Γ ha = some 91) (yd : Nat) (hyd : sR H0 h0 (X.1.2 10 5) = some yd) (gyd : Γ yd = some 5) (sn wl su lw ic kn hd us br ar fi : Nat) (yn : YN X Γ H0 yd sn wl su lw ic kn hd us br ar fi) (wk : Nat) (hwk : sR H0 h0 (X.1.2 10 12) = some wk) (gwk : Γ wk = some 7) (pa hh wt : Nat) (wn : WN X Γ H0 wk pa hh wt) (w9 h9 s9 : Int) (qw : w9 = 2 ∨ w9 = 4) (qh : 1 ≤ h9 ∧ h9 ≤ 3) (qs : s9 = 1 ∨ s9 = 2) (qa0 : aI H0 ha 0 = w9) (qa1 : aI H0 ha 1 = h9) (qa2 : aI H0 ha 2 = s9) (qy0 : (sI H0 yd (X.1.2 8 0)).toInt = w9) (qy1 : (sI H0 yd (X.1.2 8 1)).toInt = h9) (qy2 : (sI H0 yd (X.1.2 8 2)).toInt = s9) (K9 : Int) (v7 : Int32) {z7 : Int} (ev7 : v7.toInt = z7) (v6 : Int32) {z6 : Int} (ev6 : v6.toInt = z6) (v5 : Int32) {z5 : Int} (ev5 : v5.toInt = z5) (v4 : Int32) {z4 : Int} (ev4 : v4.toInt = z4) (uhd : UHD H0 us hd) (hcs : SM H0 sn 36 + SM H0 wl 36 = K9) (hbr : s9 = 1 → aI H0 br 1 = 0) {ls : Array Slot} (hl : lv_has ls 15 [(7, .int v7), (6, .int v6), (5, .int v5), (4, .int v4), (0, .ref (sad X)), (1, .ref h0), (2, .ref mm), (3, .ref ha)]) (hk : ∀ (H1 : Heap) (locs1 : List Loc) (ls : Array Slot), Conf X Γ H1 → va_S (AΓ Γ) s.heap H1 locs1 → Kp X Γ [3, 29, 31, 32, 33, 34, 37, 39, 40, 50, 51, 52, 53, 54, 55, 56, 57, 58, 61, 67, 68, 69, 70, 71] H0 H1 → (UHD H1 us hd) → (SM H1 sn 36 + SM H1 wl 36 = K9) → (s9 = 1 → aI H1 br 1 = 0) → lv_has ls 15 [(7, .int v7), (6, .int v6), (5, .int v5), (4, .int v4), (0, .ref (sad X)), (1, .ref h0), (2, .ref mm), (3, .ref ha)] → W p l e room_1 s m args below meth c H1 locs1 133 8682 Qz (F0 m 475 ls [])) : W p l e room_1 s m args below meth c H0 locs0 133 8682 Qz (F0 m 326 ls []) := by
  have hx := E.1; have hb := E.2.1
  have hKp0 : Kp X Γ [3, 29, 31, 32, 33, 34, 37, 39, 40, 50, 51, 52, 53, 54, 55, 56, 57, 58, 61, 67, 68, 69, 70, 71] H0 H0 := Kp.rf
  have gsn := yn.sn.2; have gwl := yn.wl.2; have gsu := yn.su.2; have glw := yn.lw.2; have gic := yn.ic.2; have gkn := yn.kn.2; have ghd := yn.hd.2; have gus := yn.us.2; have gbr := yn.br.2; have gar := yn.ar.2; have gfi := yn.fi.2
  have gpa := wn.pa.2; have ghh := wn.hh.2; have gwt := wn.wt.2
  have qw1 : 2 ≤ w9 ∧ w9 ≤ 4 := by omega
  have qs1 : 1 ≤ s9 ∧ s9 ≤ 2 := by omega
  clear qw qs
  have uhd : UHD H0 us hd := uhd
  refine lv_iconst (v := 0) hx hb dL_law_326 rfl ?_
  refine lv_istore hx hb dL_law_327 hl (by decide) rfl (fun ls hl => ?_)
  replace hl : lv_has ls 15 [(8, .int 0), (7, .int v7), (6, .int v6), (5, .int v5), (4, .int v4), (0, .ref (sad X)), (1, .ref h0), (2, .ref mm), (3, .ref ha)] := hl
  have L329 : ∀ (n22 : Nat) (H22 : Heap) (locs22 : List Loc) (v21 : Int32) (z21 : Int) (ls : Array Slot), (2 - z21).toNat < n22 → v21.toInt = z21 → 0 ≤ z21 → aI H22 ha 0 = w9 → aI H22 ha 1 = h9 → aI H22 ha 2 = s9 → (sI H22 yd (X.1.2 8 0)).toInt = w9 → (sI H22 yd (X.1.2 8 1)).toInt = h9 → (sI H22 yd (X.1.2 8 2)).toInt = s9 → 0 ≤ z21 → z21 ≤ s9 → SM H22 sn 36 + SM H22 wl 36 = K9 → (s9 = 1 → aI H22 br 1 = 0) → Conf X Γ H22 → va_S (AΓ Γ) s.heap H22 locs22 → Kp X Γ [3, 29, 31, 32, 33, 34, 37, 39, 40, 50, 51, 52, 53, 54, 55, 56, 57, 58, 61, 67, 68, 69, 70, 71] H0 H22 → (UHD H22 us hd) → lv_has ls 15 [(8, .int v21), (7, .int v7), (6, .int v6), (5, .int v5), (4, .int v4), (0, .ref (sad X)), (1, .ref h0), (2, .ref mm), (3, .ref ha)] → W p l e room_1 s m args below meth c H22 locs22 133 8682 Qz (F0 m 329 ls []) := by
    intro n22
    induction n22 with
    | zero => intro H22 locs22 v21 z21 ls hm22 ev21 iv22_0 iv22_1 iv22_2 iv22_3 iv22_4 iv22_5 iv22_6 iv22_7 iv22_8 iv22_9 iv22_10 hC22 hS22 hKp22 uhd hl; exact absurd hm22 (Nat.not_lt_zero _)
    | succ n22 ih22 =>
      intro H22 locs22 v21 z21 ls hm22 ev21 iv22_0 iv22_1 iv22_2 iv22_3 iv22_4 iv22_5 iv22_6 iv22_7 iv22_8 iv22_9 iv22_10 hC22 hS22 hKp22 uhd hl
      obtain ⟨fs, hfs⟩ : ∃ f, aI H22 sn = f := ⟨_, rfl⟩
      obtain ⟨fw, hfw⟩ : ∃ f, aI H22 wl = f := ⟨_, rfl⟩
      obtain ⟨fu, hfu⟩ : ∃ f, aI H22 su = f := ⟨_, rfl⟩
      obtain ⟨fi9, hfi⟩ : ∃ f, aI H22 ic = f := ⟨_, rfl⟩
      have hsf := hs_of hC22 gsn gwl gsu hfs hfw hfu
      have asn : aI H22 sn = fs := hfs
      have awl : aI H22 wl = fw := hfw
      have asu : aI H22 su = fu := hfu
      have aic : aI H22 ic = fi9 := hfi
      refine lv_iload hx hb dL_law_329 (lv_at hl 0 rfl) ?_
      refine lv_aload_n hx hb dL_law_331 rfl (lv_at hl 8 rfl) ?_
      refine lv_iconst (v := 2) hx hb dL_law_332 rfl ?_
      refine q_iald E hC22 gha rfl rfl (rl_91_2 (show (2 : Int32).toInt = 2 from by decide) (by omega) (by omega)) (i_in (a := 2) (show (2 : Int32).toInt = 2 from by decide) (by omega) (by omega)) dL_law_333 (fun v23 ev23 lv23 uv23 => ?_)
      have m24 : aI H22 ha (2) = v23.toInt := aI_of (show (2 : Int32).toInt = 2 from by decide) ev23
      refine q_icmp_ge hx hb (a := z21) (b := v23.toInt) ev21 rfl (tgt := 475) dL_law_334 rfl (fun c25 => ?_) (fun c25 => ?_)
      · exact hk H22 locs22 ls hC22 hS22 hKp22 (uhd) (by omega) (by omega) (lv_sub hl [1, 2, 3, 4, 5, 6, 7, 8] rfl)
      · refine lv_aload_n hx hb dL_law_337 rfl (lv_at hl 6 rfl) ?_
        refine lv_iload hx hb dL_law_338 (lv_at hl 0 rfl) ?_
        refine lv_iconst (v := 0) hx hb dL_law_340 rfl ?_
        refine lv_iconst (v := 5) hx hb dL_law_341 rfl ?_
        refine r_goI (r_runV (As := [.int v21, .int 0, .int 5]) (rest := []) E hC22 hS22 (m_X11_lasting l X Γ H22 hC22 h0 g0 v21 (a1 := z21) ev21 0 (a2 := 0) (by decide) 5 (a3 := 5) (by decide) yd ((kp_R hKp22 g0 (ci := 10) (k := 5) rfl (by decide) rfl).trans hyd) gyd sn wl su lw ic kn hd us br ar fi (yn.kp gyd hKp22 rfl) (by omega) (by omega) (by omega) (by omega) (by omega) (by omega) (by omega)) cw_X11_lasting cl_RL_125 g0 ⟨rfl, rfl⟩ rfl hl.1 rfl (Nat.zero_le _) (by decide) dL_law_342) hS22 (fun v26 H26 locs26 hr26 hC26 hS26 => ?_)
        obtain ⟨hp26, hr26⟩ := hr26
        have hKp26 := hKp22.tr (hp26.mono rfl)
        have m27 : aI H26 ha (0) = aI H22 ha (0) := aI_kp hp26 gha rfl rfl
        have m28 : aI H26 ha (1) = aI H22 ha (1) := aI_kp hp26 gha rfl rfl
        have m29 : aI H26 ha (2) = aI H22 ha (2) := aI_kp hp26 gha rfl rfl
        have m30 : aI H26 br (1) = aI H22 br (1) := aI_kp hp26 gbr rfl rfl
        have m31 : (sI H26 yd (X.1.2 8 0)).toInt = (sI H22 yd (X.1.2 8 0)).toInt := congrArg Int32.toInt (kp_I hp26 gyd (ci := 8) (k := 0) rfl (by decide) rfl)
        have m32 : (sI H26 yd (X.1.2 8 1)).toInt = (sI H22 yd (X.1.2 8 1)).toInt := congrArg Int32.toInt (kp_I hp26 gyd (ci := 8) (k := 1) rfl (by decide) rfl)
        have m33 : (sI H26 yd (X.1.2 8 2)).toInt = (sI H22 yd (X.1.2 8 2)).toInt := congrArg Int32.toInt (kp_I hp26 gyd (ci := 8) (k := 2) rfl (by decide) rfl)
        have m34 : SM H26 sn 36 = SM H22 sn 36 := SM_kp hp26 gsn rfl rfl
        have m35 : SM H26 wl 36 = SM H22 wl 36 := SM_kp hp26 gwl rfl rfl
        replace uhd : UHD H26 us hd := uhd.kp hp26 gus ghd rfl rfl
        replace asn : aI H26 sn = fs := (funext fun _ => aI_kp hp26 gsn rfl rfl).trans asn
        replace awl : aI H26 wl = fw := (funext fun _ => aI_kp hp26 gwl rfl rfl).trans awl
        replace asu : aI H26 su = fu := (funext fun _ => aI_kp hp26 gsu rfl rfl).trans asu
        replace aic : aI H26 ic = fi9 := (funext fun _ => aI_kp hp26 gic rfl rfl).trans aic
        have f26_0 := hr26
        have hl0 : v26.toInt = lwF fs fw fu fi9 w9 h9 z21 0 5 := by rw [f26_0, lwS_F, show (sI H22 yd (X.1.2 8 0)).toInt = w9 by omega, show (sI H22 yd (X.1.2 8 1)).toInt = h9 by omega, ← (show aI H26 sn = aI H22 sn from funext fun _ => aI_kp hp26 gsn rfl rfl), ← (show aI H26 wl = aI H22 wl from funext fun _ => aI_kp hp26 gwl rfl rfl), ← (show aI H26 su = aI H22 su from funext fun _ => aI_kp hp26 gsu rfl rfl), ← (show aI H26 ic = aI H22 ic from funext fun _ => aI_kp hp26 gic rfl rfl), asn, awl, asu, aic]
        have hl1 : lwF fs fw fu fi9 w9 h9 z21 0 5 = sumF (inS w9 h9 z21 fw) 36 := lwF_0
        refine lv_aload_n hx hb dL_law_345 rfl (lv_at hl 6 rfl) ?_
        refine lv_iload hx hb dL_law_346 (lv_at hl 0 rfl) ?_
        refine lv_iconst (v := 4) hx hb dL_law_348 rfl ?_
        refine r_goI (r_runV (As := [.int v21, .int 4]) (rest := [.int v26]) E hC26 hS26 (m_X11_school l X Γ H26 hC26 h0 g0 v21 (a1 := z21) ev21 4 (a2 := 4) (by decide) yd ((kp_R hKp26 g0 (ci := 10) (k := 5) rfl (by decide) rfl).trans hyd) gyd sn wl su lw ic kn hd us br ar fi (yn.kp gyd hKp26 rfl) (by omega) (by omega) (by omega) (by omega) (by omega)) cw_X11_school cl_RL_122 g0 ⟨rfl, rfl⟩ rfl hl.1 rfl (show _ ≤ _ from by simp [Value.category]) (by decide) dL_law_349) hS26 (fun v36 H36 locs36 hr36 hC36 hS36 => ?_)
        obtain ⟨hp36, hr36⟩ := hr36
        have hKp36 := hKp26.tr (hp36.mono rfl)
        have m37 : aI H36 ha (0) = aI H26 ha (0) := aI_kp hp36 gha rfl rfl
        have m38 : aI H36 ha (1) = aI H26 ha (1) := aI_kp hp36 gha rfl rfl
        have m39 : aI H36 ha (2) = aI H26 ha (2) := aI_kp hp36 gha rfl rfl
        have m40 : aI H36 br (1) = aI H26 br (1) := aI_kp hp36 gbr rfl rfl
        have m41 : (sI H36 yd (X.1.2 8 0)).toInt = (sI H26 yd (X.1.2 8 0)).toInt := congrArg Int32.toInt (kp_I hp36 gyd (ci := 8) (k := 0) rfl (by decide) rfl)
        have m42 : (sI H36 yd (X.1.2 8 1)).toInt = (sI H26 yd (X.1.2 8 1)).toInt := congrArg Int32.toInt (kp_I hp36 gyd (ci := 8) (k := 1) rfl (by decide) rfl)
        have m43 : (sI H36 yd (X.1.2 8 2)).toInt = (sI H26 yd (X.1.2 8 2)).toInt := congrArg Int32.toInt (kp_I hp36 gyd (ci := 8) (k := 2) rfl (by decide) rfl)
        have m44 : SM H36 sn 36 = SM H26 sn 36 := SM_kp hp36 gsn rfl rfl
        have m45 : SM H36 wl 36 = SM H26 wl 36 := SM_kp hp36 gwl rfl rfl
        replace uhd : UHD H36 us hd := uhd.kp hp36 gus ghd rfl rfl
        replace asn : aI H36 sn = fs := (funext fun _ => aI_kp hp36 gsn rfl rfl).trans asn
        replace awl : aI H36 wl = fw := (funext fun _ => aI_kp hp36 gwl rfl rfl).trans awl
        replace asu : aI H36 su = fu := (funext fun _ => aI_kp hp36 gsu rfl rfl).trans asu
        replace aic : aI H36 ic = fi9 := (funext fun _ => aI_kp hp36 gic rfl rfl).trans aic
        obtain ⟨f36_0, f36_1, f36_2, f36_3⟩ := hr36
        have hs4 : v36.toInt = sumF (inS w9 h9 z21 fw) 36 := by rw [f36_3 rfl, show (sI H26 yd (X.1.2 8 0)).toInt = w9 by omega, show (sI H26 yd (X.1.2 8 1)).toInt = h9 by omega, ← (show aI H36 wl = aI H26 wl from funext fun _ => aI_kp hp36 gwl rfl rfl), awl]
        clear f36_0
        clear f36_1
        clear f36_2
        replace f36_3 := f36_3 rfl
        have c46 := i_rng v26; rw [show v26.toInt = v26.toInt from rfl] at c46
        have c47 := i_rng v36; rw [show v36.toInt = v36.toInt from rfl] at c47
        refine q_icmp_eq hx hb (a := v26.toInt) (b := v36.toInt) rfl rfl (tgt := 357) dL_law_352 rfl (fun c48 => ?_) (fun c48 => ?_)
        · refine lv_iconst (v := 0) hx hb dL_law_357 rfl ?_
          refine lv_istore hx hb dL_law_358 hl (by decide) rfl (fun ls hl => ?_)
          replace hl : lv_has ls 15 [(9, .int 0), (8, .int v21), (7, .int v7), (6, .int v6), (5, .int v5), (4, .int v4), (0, .ref (sad X)), (1, .ref h0), (2, .ref mm), (3, .ref ha)] := hl
          have L360 : ∀ (n50 : Nat) (H50 : Heap) (locs50 : List Loc) (v49 : Int32) (z49 : Int) (ls : Array Slot), (4 - z49).toNat < n50 → v49.toInt = z49 → z49 ≤ 4 → 0 ≤ z49 → aI H50 ha 0 = w9 → aI H50 ha 1 = h9 → aI H50 ha 2 = s9 → (sI H50 yd (X.1.2 8 0)).toInt = w9 → (sI H50 yd (X.1.2 8 1)).toInt = h9 → (sI H50 yd (X.1.2 8 2)).toInt = s9 → SM H50 sn 36 + SM H50 wl 36 = K9 → (s9 = 1 → aI H50 br 1 = 0) → Conf X Γ H50 → va_S (AΓ Γ) s.heap H50 locs50 → Kp X Γ [3, 29, 31, 32, 33, 34, 37, 39, 40, 50, 51, 52, 53, 54, 55, 56, 57, 58, 61, 67, 68, 69, 70, 71] H0 H50 → (UHD H50 us hd) → (aI H50 sn = fs) → (aI H50 wl = fw) → (aI H50 su = fu) → (aI H50 ic = fi9) → lv_has ls 15 [(9, .int v49), (8, .int v21), (7, .int v7), (6, .int v6), (5, .int v5), (4, .int v4), (0, .ref (sad X)), (1, .ref h0), (2, .ref mm), (3, .ref ha)] → W p l e room_1 s m args below meth c H50 locs50 133 8682 Qz (F0 m 360 ls []) := by
            intro n50
            induction n50 with
            | zero => intro H50 locs50 v49 z49 ls hm50 ev49 iv50_0 iv50_1 iv50_2 iv50_3 iv50_4 iv50_5 iv50_6 iv50_7 iv50_8 iv50_9 hC50 hS50 hKp50 uhd asn awl asu aic hl; exact absurd hm50 (Nat.not_lt_zero _)
            | succ n50 ih50 =>
              intro H50 locs50 v49 z49 ls hm50 ev49 iv50_0 iv50_1 iv50_2 iv50_3 iv50_4 iv50_5 iv50_6 iv50_7 iv50_8 iv50_9 hC50 hS50 hKp50 uhd asn awl asu aic hl
              refine lv_iload hx hb dL_law_360 (lv_at hl 0 rfl) ?_
              refine lv_iconst (v := 4) hx hb dL_law_362 rfl ?_
              refine q_icmp_ge hx hb (a := z49) (b := 4) ev49 (by decide) (tgt := 418) dL_law_363 rfl (fun c51 => ?_) (fun c51 => ?_)
              · refine lv_aload_n hx hb dL_law_418 rfl (lv_at hl 7 rfl) ?_
                refine lv_iload hx hb dL_law_419 (lv_at hl 1 rfl) ?_
                refine lv_iconst (v := 2) hx hb dL_law_421 rfl ?_
                refine lv_iconst (v := 3) hx hb dL_law_422 rfl ?_
                refine r_goI (r_runV (As := [.int v21, .int 2, .int 3]) (rest := []) E hC50 hS50 (m_X11_lasting l X Γ H50 hC50 h0 g0 v21 (a1 := z21) ev21 2 (a2 := 2) (by decide) 3 (a3 := 3) (by decide) yd ((kp_R hKp50 g0 (ci := 10) (k := 5) rfl (by decide) rfl).trans hyd) gyd sn wl su lw ic kn hd us br ar fi (yn.kp gyd hKp50 rfl) (by omega) (by omega) (by omega) (by omega) (by omega) (by omega) (by omega)) cw_X11_lasting cl_RL_125 g0 ⟨rfl, rfl⟩ rfl hl.1 rfl (Nat.zero_le _) (by decide) dL_law_423) hS50 (fun v52 H52 locs52 hr52 hC52 hS52 => ?_)
                obtain ⟨hp52, hr52⟩ := hr52
                have hKp52 := hKp50.tr (hp52.mono rfl)
                have m53 : aI H52 ha (0) = aI H50 ha (0) := aI_kp hp52 gha rfl rfl
                have m54 : aI H52 ha (1) = aI H50 ha (1) := aI_kp hp52 gha rfl rfl
                have m55 : aI H52 ha (2) = aI H50 ha (2) := aI_kp hp52 gha rfl rfl
                have m56 : aI H52 br (1) = aI H50 br (1) := aI_kp hp52 gbr rfl rfl
                have m57 : (sI H52 yd (X.1.2 8 0)).toInt = (sI H50 yd (X.1.2 8 0)).toInt := congrArg Int32.toInt (kp_I hp52 gyd (ci := 8) (k := 0) rfl (by decide) rfl)
                have m58 : (sI H52 yd (X.1.2 8 1)).toInt = (sI H50 yd (X.1.2 8 1)).toInt := congrArg Int32.toInt (kp_I hp52 gyd (ci := 8) (k := 1) rfl (by decide) rfl)
                have m59 : (sI H52 yd (X.1.2 8 2)).toInt = (sI H50 yd (X.1.2 8 2)).toInt := congrArg Int32.toInt (kp_I hp52 gyd (ci := 8) (k := 2) rfl (by decide) rfl)
                have m60 : SM H52 sn 36 = SM H50 sn 36 := SM_kp hp52 gsn rfl rfl
                have m61 : SM H52 wl 36 = SM H50 wl 36 := SM_kp hp52 gwl rfl rfl
                replace uhd : UHD H52 us hd := uhd.kp hp52 gus ghd rfl rfl
                replace asn : aI H52 sn = fs := (funext fun _ => aI_kp hp52 gsn rfl rfl).trans asn
                replace awl : aI H52 wl = fw := (funext fun _ => aI_kp hp52 gwl rfl rfl).trans awl
                replace asu : aI H52 su = fu := (funext fun _ => aI_kp hp52 gsu rfl rfl).trans asu
                replace aic : aI H52 ic = fi9 := (funext fun _ => aI_kp hp52 gic rfl rfl).trans aic
                have f52_0 := hr52
                have hle : v52.toInt = lwF fs fw fu fi9 w9 h9 z21 2 3 := by rw [f52_0, lwS_F, show (sI H50 yd (X.1.2 8 0)).toInt = w9 by omega, show (sI H50 yd (X.1.2 8 1)).toInt = h9 by omega, ← (show aI H52 sn = aI H50 sn from funext fun _ => aI_kp hp52 gsn rfl rfl), ← (show aI H52 wl = aI H50 wl from funext fun _ => aI_kp hp52 gwl rfl rfl), ← (show aI H52 su = aI H50 su from funext fun _ => aI_kp hp52 gsu rfl rfl), ← (show aI H52 ic = aI H50 ic from funext fun _ => aI_kp hp52 gic rfl rfl), asn, awl, asu, aic]
                refine lv_istore hx hb dL_law_426 hl (by decide) rfl (fun ls hl => ?_)
                replace hl : lv_has ls 15 [(9, .int v52), (8, .int v21), (7, .int v7), (6, .int v6), (5, .int v5), (4, .int v4), (0, .ref (sad X)), (1, .ref h0), (2, .ref mm), (3, .ref ha)] := hl
                refine lv_iload hx hb dL_law_428 (lv_at hl 1 rfl) ?_
                refine q_if_ne hx hb (a := z21) ev21 (tgt := 437) dL_law_430 rfl (fun c62 => ?_) (fun c62 => ?_)
                · refine lv_aload_n hx hb dL_law_437 rfl (lv_at hl 9 rfl) ?_
                  refine lv_iconst (v := 0) hx hb dL_law_438 rfl ?_
                  refine q_iald E hC52 gha rfl rfl (rl_91_0 (show (0 : Int32).toInt = 0 from by decide) (by omega) (by omega)) (i_in (a := 0) (show (0 : Int32).toInt = 0 from by decide) (by omega) (by omega)) dL_law_439 (fun v63 ev63 lv63 uv63 => ?_)
                  have m64 : aI H52 ha (0) = v63.toInt := aI_of (show (0 : Int32).toInt = 0 from by decide) ev63
                  refine lv_iconst (v := 1) hx hb dL_law_440 rfl ?_
                  refine lv_isub hx hb dL_law_441 (lv_topi (fun v65 ev65 => ?_))
                  have ev65i : v65.toInt = (v63.toInt - 1) := i_sub ev65 rfl (by decide) (by omega) (by omega)
                  refine lv_istore hx hb dL_law_442 hl (by decide) rfl (fun ls hl => ?_)
                  replace hl : lv_has ls 15 [(10, .int v65), (9, .int v52), (8, .int v21), (7, .int v7), (6, .int v6), (5, .int v5), (4, .int v4), (0, .ref (sad X)), (1, .ref h0), (2, .ref mm), (3, .ref ha)] := hl
                  refine lv_aload_n hx hb dL_law_444 rfl (lv_at hl 8 rfl) ?_
                  refine lv_iload hx hb dL_law_445 (lv_at hl 0 rfl) ?_
                  refine lv_iconst (v := 0) hx hb dL_law_447 rfl ?_
                  have hus0 := uhd z21 (by omega) (by omega)
                  refine r_goI (r_runV (As := [.int v65, .int 0]) (rest := []) E hC52 hS52 (m_X11_ice l X Γ H52 hC52 h0 g0 v65 (a1 := (v63.toInt - 1)) ev65i 0 (a2 := 0) (by decide) yd ((kp_R hKp52 g0 (ci := 10) (k := 5) rfl (by decide) rfl).trans hyd) gyd sn wl su lw ic kn hd us br ar fi (yn.kp gyd hKp52 rfl) z21 (by omega) (by omega) (by omega) (by omega) (by omega) (by omega) (by omega) (by omega) (by omega)) cw_X11_ice cl_RL_128 g0 ⟨rfl, rfl⟩ rfl hl.1 rfl (Nat.zero_le _) (by decide) dL_law_448) hS52 (fun v66 H66 locs66 hr66 hC66 hS66 => ?_)
                  obtain ⟨hp66, hr66⟩ := hr66
                  have hKp66 := hKp52.tr (hp66.mono rfl)
                  have m67 : aI H66 ha (0) = aI H52 ha (0) := aI_kp hp66 gha rfl rfl
                  have m68 : aI H66 ha (1) = aI H52 ha (1) := aI_kp hp66 gha rfl rfl
                  have m69 : aI H66 ha (2) = aI H52 ha (2) := aI_kp hp66 gha rfl rfl
                  have m71 : (sI H66 yd (X.1.2 8 0)).toInt = (sI H52 yd (X.1.2 8 0)).toInt := congrArg Int32.toInt (kp_I hp66 gyd (ci := 8) (k := 0) rfl (by decide) rfl)
                  have m72 : (sI H66 yd (X.1.2 8 1)).toInt = (sI H52 yd (X.1.2 8 1)).toInt := congrArg Int32.toInt (kp_I hp66 gyd (ci := 8) (k := 1) rfl (by decide) rfl)
                  have m73 : (sI H66 yd (X.1.2 8 2)).toInt = (sI H52 yd (X.1.2 8 2)).toInt := congrArg Int32.toInt (kp_I hp66 gyd (ci := 8) (k := 2) rfl (by decide) rfl)
                  have m74 : SM H66 sn 36 = SM H52 sn 36 := SM_kp hp66 gsn rfl rfl
                  have m75 : SM H66 wl 36 = SM H52 wl 36 := SM_kp hp66 gwl rfl rfl
                  replace asn : aI H66 sn = fs := (funext fun _ => aI_kp hp66 gsn rfl rfl).trans asn
                  replace awl : aI H66 wl = fw := (funext fun _ => aI_kp hp66 gwl rfl rfl).trans awl
                  replace asu : aI H66 su = fu := (funext fun _ => aI_kp hp66 gsu rfl rfl).trans asu
                  rcases hr66 with ⟨rfl, q0, q1, q2, q3, q4⟩ | ⟨rfl, q2, q3, q4⟩
                  · have uhd : UHD H66 us hd := uhd.set q3 (fun _ => aI_kp hp66 ghd rfl rfl) q2
                    have hb1 : z21 ≠ 1 → aI H66 br 1 = aI H52 br 1 := fun q => q4.el (by decide) (fun e => q e.symm)
                    obtain ⟨fi8, hfi8⟩ : ∃ f, aI H66 ic = f := ⟨_, rfl⟩
                    have ai8 : aI H66 ic = fi8 := hfi8
                    have hq8 : fi8 (0 * 6 + (v63.toInt - 1)) = 1 := by rw [← hfi8]; exact q0
                    have hq7 : ∀ z : Int, 0 ≤ z → z ≠ (0 * 6 + (v63.toInt - 1)) → fi8 z = fi9 z := fun z z0 zn => by rw [← hfi8, ← aic]; exact q1.el z0 zn
                    refine q_if_eq hx hb (a := 1) (by decide) (tgt := 469) dL_law_451 rfl (fun c76 => absurd c76 (by omega)) (fun c76 => ?_)
                    refine lv_aload_n hx hb dL_law_454 rfl (lv_at hl 8 rfl) ?_
                    refine lv_iload hx hb dL_law_455 (lv_at hl 2 rfl) ?_
                    refine lv_iconst (v := 2) hx hb dL_law_457 rfl ?_
                    refine lv_iconst (v := 3) hx hb dL_law_458 rfl ?_
                    refine r_goI (r_runV (As := [.int v21, .int 2, .int 3]) (rest := []) E hC66 hS66 (m_X11_lasting l X Γ H66 hC66 h0 g0 v21 (a1 := z21) ev21 2 (a2 := 2) (by decide) 3 (a3 := 3) (by decide) yd ((kp_R hKp66 g0 (ci := 10) (k := 5) rfl (by decide) rfl).trans hyd) gyd sn wl su lw ic kn hd us br ar fi (yn.kp gyd hKp66 rfl) (by omega) (by omega) (by omega) (by omega) (by omega) (by omega) (by omega)) cw_X11_lasting cl_RL_125 g0 ⟨rfl, rfl⟩ rfl hl.1 rfl (Nat.zero_le _) (by decide) dL_law_459) hS66 (fun v77 H77 locs77 hr77 hC77 hS77 => ?_)
                    obtain ⟨hp77, hr77⟩ := hr77
                    have hKp77 := hKp66.tr (hp77.mono rfl)
                    have m78 : aI H77 ha (0) = aI H66 ha (0) := aI_kp hp77 gha rfl rfl
                    have m79 : aI H77 ha (1) = aI H66 ha (1) := aI_kp hp77 gha rfl rfl
                    have m80 : aI H77 ha (2) = aI H66 ha (2) := aI_kp hp77 gha rfl rfl
                    have m81 : aI H77 br (1) = aI H66 br (1) := aI_kp hp77 gbr rfl rfl
                    have m82 : (sI H77 yd (X.1.2 8 0)).toInt = (sI H66 yd (X.1.2 8 0)).toInt := congrArg Int32.toInt (kp_I hp77 gyd (ci := 8) (k := 0) rfl (by decide) rfl)
                    have m83 : (sI H77 yd (X.1.2 8 1)).toInt = (sI H66 yd (X.1.2 8 1)).toInt := congrArg Int32.toInt (kp_I hp77 gyd (ci := 8) (k := 1) rfl (by decide) rfl)
                    have m84 : (sI H77 yd (X.1.2 8 2)).toInt = (sI H66 yd (X.1.2 8 2)).toInt := congrArg Int32.toInt (kp_I hp77 gyd (ci := 8) (k := 2) rfl (by decide) rfl)
                    have m85 : SM H77 sn 36 = SM H66 sn 36 := SM_kp hp77 gsn rfl rfl
                    have m86 : SM H77 wl 36 = SM H66 wl 36 := SM_kp hp77 gwl rfl rfl
                    replace uhd : UHD H77 us hd := uhd.kp hp77 gus ghd rfl rfl
                    replace asn : aI H77 sn = fs := (funext fun _ => aI_kp hp77 gsn rfl rfl).trans asn
                    replace awl : aI H77 wl = fw := (funext fun _ => aI_kp hp77 gwl rfl rfl).trans awl
                    replace asu : aI H77 su = fu := (funext fun _ => aI_kp hp77 gsu rfl rfl).trans asu
                    replace aic : aI H77 ic = fi9 := (funext fun _ => aI_kp hp77 gic rfl rfl).trans aic
                    replace ai8 : aI H77 ic = fi8 := (funext fun _ => aI_kp hp77 gic rfl rfl).trans ai8
                    have f77_0 := hr77
                    have hlf : v77.toInt = lwF fs fw fu fi8 w9 h9 z21 2 3 := by rw [f77_0, lwS_F, show (sI H66 yd (X.1.2 8 0)).toInt = w9 by omega, show (sI H66 yd (X.1.2 8 1)).toInt = h9 by omega, ← (show aI H77 sn = aI H66 sn from funext fun _ => aI_kp hp77 gsn rfl rfl), ← (show aI H77 wl = aI H66 wl from funext fun _ => aI_kp hp77 gwl rfl rfl), ← (show aI H77 su = aI H66 su from funext fun _ => aI_kp hp77 gsu rfl rfl), ← (show aI H77 ic = aI H66 ic from funext fun _ => aI_kp hp77 gic rfl rfl), asn, awl, asu, ai8]
                    have hice : lwF fs fw fu fi9 w9 h9 z21 2 3 ≤ lwF fs fw fu fi8 w9 h9 z21 2 3 := lwF_ice hsf (by decide) hq8 hq7
                    refine lv_iload hx hb dL_law_462 (lv_at hl 1 rfl) ?_
                    have c87 := i_rng v77; rw [show v77.toInt = v77.toInt from rfl] at c87
                    have c88 := i_rng v52; rw [show v52.toInt = v52.toInt from rfl] at c88
                    refine q_icmp_ge hx hb (a := v77.toInt) (b := v52.toInt) rfl rfl (tgt := 469) dL_law_464 rfl (fun c89 => ?_) (fun c89 => ?_)
                    · obtain ⟨v90, ev90⟩ : ∃ z, z = v21 + Int32.ofInt 1 := ⟨_, rfl⟩
                      have ev90i : v90.toInt = (z21 + 1) := i_add ev90 ev21 (by decide) (by omega) (by omega)
                      refine lv_iinc hx hb dL_law_469 hl (k := 2) rfl ev90.symm (by decide) rfl (fun ls hl => ?_)
                      replace hl : lv_has ls 15 [(8, .int v90), (10, .int v65), (9, .int v52), (7, .int v7), (6, .int v6), (5, .int v5), (4, .int v4), (0, .ref (sad X)), (1, .ref h0), (2, .ref mm), (3, .ref ha)] := hl
                      refine lv_goto (tgt := 329) hx hb dL_law_472 rfl ?_
                      exact ih22 H77 locs77 v90 ((z21 + 1)) ls (ms_lt hm22 (by omega) (by omega)) ev90i (by omega) (by omega) (by omega) (by omega) (by omega) (by omega) (by omega) (by omega) (by omega) (by omega) (by omega) hC77 hS77 hKp77 uhd (lv_sub hl [0, 3, 4, 5, 6, 7, 8, 9, 10] rfl)
                    · (exfalso; omega)
                  · have uhd : UHD H66 us hd := uhd.set q3 (fun _ => aI_kp hp66 ghd rfl rfl) q2
                    have hb1 : z21 ≠ 1 → aI H66 br 1 = aI H52 br 1 := fun q => q4.el (by decide) (fun e => q e.symm)
                    refine q_if_eq hx hb (a := 0) (by decide) (tgt := 469) dL_law_451 rfl (fun c91 => ?_) (fun c91 => absurd c91 (by omega))
                    obtain ⟨v92, ev92⟩ : ∃ z, z = v21 + Int32.ofInt 1 := ⟨_, rfl⟩
                    have ev92i : v92.toInt = (z21 + 1) := i_add ev92 ev21 (by decide) (by omega) (by omega)
                    refine lv_iinc hx hb dL_law_469 hl (k := 2) rfl ev92.symm (by decide) rfl (fun ls hl => ?_)
                    replace hl : lv_has ls 15 [(8, .int v92), (10, .int v65), (9, .int v52), (7, .int v7), (6, .int v6), (5, .int v5), (4, .int v4), (0, .ref (sad X)), (1, .ref h0), (2, .ref mm), (3, .ref ha)] := hl
                    refine lv_goto (tgt := 329) hx hb dL_law_472 rfl ?_
                    exact ih22 H66 locs66 v92 ((z21 + 1)) ls (ms_lt hm22 (by omega) (by omega)) ev92i (by omega) (by omega) (by omega) (by omega) (by omega) (by omega) (by omega) (by omega) (by omega) (by omega) (by omega) hC66 hS66 hKp66 uhd (lv_sub hl [0, 3, 4, 5, 6, 7, 8, 9, 10] rfl)
                · refine lv_iconst (v := 0) hx hb dL_law_433 rfl ?_
                  refine lv_goto (tgt := 442) hx hb dL_law_434 rfl ?_
                  refine lv_istore hx hb dL_law_442 hl (by decide) rfl (fun ls hl => ?_)
                  replace hl : lv_has ls 15 [(10, .int 0), (9, .int v52), (8, .int v21), (7, .int v7), (6, .int v6), (5, .int v5), (4, .int v4), (0, .ref (sad X)), (1, .ref h0), (2, .ref mm), (3, .ref ha)] := hl
                  refine lv_aload_n hx hb dL_law_444 rfl (lv_at hl 8 rfl) ?_
                  refine lv_iload hx hb dL_law_445 (lv_at hl 0 rfl) ?_
                  refine lv_iconst (v := 0) hx hb dL_law_447 rfl ?_
                  have hus0 := uhd z21 (by omega) (by omega)
                  refine r_goI (r_runV (As := [.int 0, .int 0]) (rest := []) E hC52 hS52 (m_X11_ice l X Γ H52 hC52 h0 g0 0 (a1 := 0) (by decide) 0 (a2 := 0) (by decide) yd ((kp_R hKp52 g0 (ci := 10) (k := 5) rfl (by decide) rfl).trans hyd) gyd sn wl su lw ic kn hd us br ar fi (yn.kp gyd hKp52 rfl) z21 (by omega) (by omega) (by omega) (by omega) (by omega) (by omega) (by omega) (by omega) (by omega)) cw_X11_ice cl_RL_128 g0 ⟨rfl, rfl⟩ rfl hl.1 rfl (Nat.zero_le _) (by decide) dL_law_448) hS52 (fun v93 H93 locs93 hr93 hC93 hS93 => ?_)
                  obtain ⟨hp93, hr93⟩ := hr93
                  have hKp93 := hKp52.tr (hp93.mono rfl)
                  have m94 : aI H93 ha (0) = aI H52 ha (0) := aI_kp hp93 gha rfl rfl
                  have m95 : aI H93 ha (1) = aI H52 ha (1) := aI_kp hp93 gha rfl rfl
                  have m96 : aI H93 ha (2) = aI H52 ha (2) := aI_kp hp93 gha rfl rfl
                  have m98 : (sI H93 yd (X.1.2 8 0)).toInt = (sI H52 yd (X.1.2 8 0)).toInt := congrArg Int32.toInt (kp_I hp93 gyd (ci := 8) (k := 0) rfl (by decide) rfl)
                  have m99 : (sI H93 yd (X.1.2 8 1)).toInt = (sI H52 yd (X.1.2 8 1)).toInt := congrArg Int32.toInt (kp_I hp93 gyd (ci := 8) (k := 1) rfl (by decide) rfl)
                  have m100 : (sI H93 yd (X.1.2 8 2)).toInt = (sI H52 yd (X.1.2 8 2)).toInt := congrArg Int32.toInt (kp_I hp93 gyd (ci := 8) (k := 2) rfl (by decide) rfl)
                  have m101 : SM H93 sn 36 = SM H52 sn 36 := SM_kp hp93 gsn rfl rfl
                  have m102 : SM H93 wl 36 = SM H52 wl 36 := SM_kp hp93 gwl rfl rfl
                  replace asn : aI H93 sn = fs := (funext fun _ => aI_kp hp93 gsn rfl rfl).trans asn
                  replace awl : aI H93 wl = fw := (funext fun _ => aI_kp hp93 gwl rfl rfl).trans awl
                  replace asu : aI H93 su = fu := (funext fun _ => aI_kp hp93 gsu rfl rfl).trans asu
                  rcases hr93 with ⟨rfl, q0, q1, q2, q3, q4⟩ | ⟨rfl, q2, q3, q4⟩
                  · have uhd : UHD H93 us hd := uhd.set q3 (fun _ => aI_kp hp93 ghd rfl rfl) q2
                    have hb1 : z21 ≠ 1 → aI H93 br 1 = aI H52 br 1 := fun q => q4.el (by decide) (fun e => q e.symm)
                    obtain ⟨fi8, hfi8⟩ : ∃ f, aI H93 ic = f := ⟨_, rfl⟩
                    have ai8 : aI H93 ic = fi8 := hfi8
                    have hq8 : fi8 (0 * 6 + 0) = 1 := by rw [← hfi8]; exact q0
                    have hq7 : ∀ z : Int, 0 ≤ z → z ≠ (0 * 6 + 0) → fi8 z = fi9 z := fun z z0 zn => by rw [← hfi8, ← aic]; exact q1.el z0 zn
                    refine q_if_eq hx hb (a := 1) (by decide) (tgt := 469) dL_law_451 rfl (fun c103 => absurd c103 (by omega)) (fun c103 => ?_)
                    refine lv_aload_n hx hb dL_law_454 rfl (lv_at hl 8 rfl) ?_
                    refine lv_iload hx hb dL_law_455 (lv_at hl 2 rfl) ?_
                    refine lv_iconst (v := 2) hx hb dL_law_457 rfl ?_
                    refine lv_iconst (v := 3) hx hb dL_law_458 rfl ?_
                    refine r_goI (r_runV (As := [.int v21, .int 2, .int 3]) (rest := []) E hC93 hS93 (m_X11_lasting l X Γ H93 hC93 h0 g0 v21 (a1 := z21) ev21 2 (a2 := 2) (by decide) 3 (a3 := 3) (by decide) yd ((kp_R hKp93 g0 (ci := 10) (k := 5) rfl (by decide) rfl).trans hyd) gyd sn wl su lw ic kn hd us br ar fi (yn.kp gyd hKp93 rfl) (by omega) (by omega) (by omega) (by omega) (by omega) (by omega) (by omega)) cw_X11_lasting cl_RL_125 g0 ⟨rfl, rfl⟩ rfl hl.1 rfl (Nat.zero_le _) (by decide) dL_law_459) hS93 (fun v104 H104 locs104 hr104 hC104 hS104 => ?_)
                    obtain ⟨hp104, hr104⟩ := hr104
                    have hKp104 := hKp93.tr (hp104.mono rfl)
                    have m105 : aI H104 ha (0) = aI H93 ha (0) := aI_kp hp104 gha rfl rfl
                    have m106 : aI H104 ha (1) = aI H93 ha (1) := aI_kp hp104 gha rfl rfl
                    have m107 : aI H104 ha (2) = aI H93 ha (2) := aI_kp hp104 gha rfl rfl
                    have m108 : aI H104 br (1) = aI H93 br (1) := aI_kp hp104 gbr rfl rfl
                    have m109 : (sI H104 yd (X.1.2 8 0)).toInt = (sI H93 yd (X.1.2 8 0)).toInt := congrArg Int32.toInt (kp_I hp104 gyd (ci := 8) (k := 0) rfl (by decide) rfl)
                    have m110 : (sI H104 yd (X.1.2 8 1)).toInt = (sI H93 yd (X.1.2 8 1)).toInt := congrArg Int32.toInt (kp_I hp104 gyd (ci := 8) (k := 1) rfl (by decide) rfl)
                    have m111 : (sI H104 yd (X.1.2 8 2)).toInt = (sI H93 yd (X.1.2 8 2)).toInt := congrArg Int32.toInt (kp_I hp104 gyd (ci := 8) (k := 2) rfl (by decide) rfl)
                    have m112 : SM H104 sn 36 = SM H93 sn 36 := SM_kp hp104 gsn rfl rfl
                    have m113 : SM H104 wl 36 = SM H93 wl 36 := SM_kp hp104 gwl rfl rfl
                    replace uhd : UHD H104 us hd := uhd.kp hp104 gus ghd rfl rfl
                    replace asn : aI H104 sn = fs := (funext fun _ => aI_kp hp104 gsn rfl rfl).trans asn
                    replace awl : aI H104 wl = fw := (funext fun _ => aI_kp hp104 gwl rfl rfl).trans awl
                    replace asu : aI H104 su = fu := (funext fun _ => aI_kp hp104 gsu rfl rfl).trans asu
                    replace aic : aI H104 ic = fi9 := (funext fun _ => aI_kp hp104 gic rfl rfl).trans aic
                    replace ai8 : aI H104 ic = fi8 := (funext fun _ => aI_kp hp104 gic rfl rfl).trans ai8
                    have f104_0 := hr104
                    have hlf : v104.toInt = lwF fs fw fu fi8 w9 h9 z21 2 3 := by rw [f104_0, lwS_F, show (sI H93 yd (X.1.2 8 0)).toInt = w9 by omega, show (sI H93 yd (X.1.2 8 1)).toInt = h9 by omega, ← (show aI H104 sn = aI H93 sn from funext fun _ => aI_kp hp104 gsn rfl rfl), ← (show aI H104 wl = aI H93 wl from funext fun _ => aI_kp hp104 gwl rfl rfl), ← (show aI H104 su = aI H93 su from funext fun _ => aI_kp hp104 gsu rfl rfl), ← (show aI H104 ic = aI H93 ic from funext fun _ => aI_kp hp104 gic rfl rfl), asn, awl, asu, ai8]
                    have hice : lwF fs fw fu fi9 w9 h9 z21 2 3 ≤ lwF fs fw fu fi8 w9 h9 z21 2 3 := lwF_ice hsf (by decide) hq8 hq7
                    refine lv_iload hx hb dL_law_462 (lv_at hl 1 rfl) ?_
                    have c114 := i_rng v104; rw [show v104.toInt = v104.toInt from rfl] at c114
                    have c115 := i_rng v52; rw [show v52.toInt = v52.toInt from rfl] at c115
                    refine q_icmp_ge hx hb (a := v104.toInt) (b := v52.toInt) rfl rfl (tgt := 469) dL_law_464 rfl (fun c116 => ?_) (fun c116 => ?_)
                    · obtain ⟨v117, ev117⟩ : ∃ z, z = v21 + Int32.ofInt 1 := ⟨_, rfl⟩
                      have ev117i : v117.toInt = (z21 + 1) := i_add ev117 ev21 (by decide) (by omega) (by omega)
                      refine lv_iinc hx hb dL_law_469 hl (k := 2) rfl ev117.symm (by decide) rfl (fun ls hl => ?_)
                      replace hl : lv_has ls 15 [(8, .int v117), (10, .int 0), (9, .int v52), (7, .int v7), (6, .int v6), (5, .int v5), (4, .int v4), (0, .ref (sad X)), (1, .ref h0), (2, .ref mm), (3, .ref ha)] := hl
                      refine lv_goto (tgt := 329) hx hb dL_law_472 rfl ?_
                      exact ih22 H104 locs104 v117 ((z21 + 1)) ls (ms_lt hm22 (by omega) (by omega)) ev117i (by omega) (by omega) (by omega) (by omega) (by omega) (by omega) (by omega) (by omega) (by omega) (by omega) (by omega) hC104 hS104 hKp104 uhd (lv_sub hl [0, 3, 4, 5, 6, 7, 8, 9, 10] rfl)
                    · (exfalso; omega)
                  · have uhd : UHD H93 us hd := uhd.set q3 (fun _ => aI_kp hp93 ghd rfl rfl) q2
                    have hb1 : z21 ≠ 1 → aI H93 br 1 = aI H52 br 1 := fun q => q4.el (by decide) (fun e => q e.symm)
                    refine q_if_eq hx hb (a := 0) (by decide) (tgt := 469) dL_law_451 rfl (fun c118 => ?_) (fun c118 => absurd c118 (by omega))
                    obtain ⟨v119, ev119⟩ : ∃ z, z = v21 + Int32.ofInt 1 := ⟨_, rfl⟩
                    have ev119i : v119.toInt = (z21 + 1) := i_add ev119 ev21 (by decide) (by omega) (by omega)
                    refine lv_iinc hx hb dL_law_469 hl (k := 2) rfl ev119.symm (by decide) rfl (fun ls hl => ?_)
                    replace hl : lv_has ls 15 [(8, .int v119), (10, .int 0), (9, .int v52), (7, .int v7), (6, .int v6), (5, .int v5), (4, .int v4), (0, .ref (sad X)), (1, .ref h0), (2, .ref mm), (3, .ref ha)] := hl
                    refine lv_goto (tgt := 329) hx hb dL_law_472 rfl ?_
                    exact ih22 H93 locs93 v119 ((z21 + 1)) ls (ms_lt hm22 (by omega) (by omega)) ev119i (by omega) (by omega) (by omega) (by omega) (by omega) (by omega) (by omega) (by omega) (by omega) (by omega) (by omega) hC93 hS93 hKp93 uhd (lv_sub hl [0, 3, 4, 5, 6, 7, 8, 9, 10] rfl)
              · refine lv_aload_n hx hb dL_law_366 rfl (lv_at hl 7 rfl) ?_
                refine lv_iload hx hb dL_law_367 (lv_at hl 1 rfl) ?_
                refine lv_iload hx hb dL_law_369 (lv_at hl 0 rfl) ?_
                refine lv_iconst (v := 1) hx hb dL_law_371 rfl ?_
                refine lv_iadd hx hb dL_law_372 (lv_topi (fun v120 ev120 => ?_))
                have ev120i : v120.toInt = (z49 + 1) := i_add ev120 ev49 (by decide) (by omega) (by omega)
                refine lv_iconst (v := 3) hx hb dL_law_373 rfl ?_
                refine r_goI (r_runV (As := [.int v21, .int v120, .int 3]) (rest := []) E hC50 hS50 (m_X11_lasting l X Γ H50 hC50 h0 g0 v21 (a1 := z21) ev21 v120 (a2 := (z49 + 1)) ev120i 3 (a3 := 3) (by decide) yd ((kp_R hKp50 g0 (ci := 10) (k := 5) rfl (by decide) rfl).trans hyd) gyd sn wl su lw ic kn hd us br ar fi (yn.kp gyd hKp50 rfl) (by omega) (by omega) (by omega) (by omega) (by omega) (by omega) (by omega)) cw_X11_lasting cl_RL_125 g0 ⟨rfl, rfl⟩ rfl hl.1 rfl (Nat.zero_le _) (by decide) dL_law_374) hS50 (fun v121 H121 locs121 hr121 hC121 hS121 => ?_)
                obtain ⟨hp121, hr121⟩ := hr121
                have hKp121 := hKp50.tr (hp121.mono rfl)
                have m122 : aI H121 ha (0) = aI H50 ha (0) := aI_kp hp121 gha rfl rfl
                have m123 : aI H121 ha (1) = aI H50 ha (1) := aI_kp hp121 gha rfl rfl
                have m124 : aI H121 ha (2) = aI H50 ha (2) := aI_kp hp121 gha rfl rfl
                have m125 : aI H121 br (1) = aI H50 br (1) := aI_kp hp121 gbr rfl rfl
                have m126 : (sI H121 yd (X.1.2 8 0)).toInt = (sI H50 yd (X.1.2 8 0)).toInt := congrArg Int32.toInt (kp_I hp121 gyd (ci := 8) (k := 0) rfl (by decide) rfl)
                have m127 : (sI H121 yd (X.1.2 8 1)).toInt = (sI H50 yd (X.1.2 8 1)).toInt := congrArg Int32.toInt (kp_I hp121 gyd (ci := 8) (k := 1) rfl (by decide) rfl)
                have m128 : (sI H121 yd (X.1.2 8 2)).toInt = (sI H50 yd (X.1.2 8 2)).toInt := congrArg Int32.toInt (kp_I hp121 gyd (ci := 8) (k := 2) rfl (by decide) rfl)
                have m129 : SM H121 sn 36 = SM H50 sn 36 := SM_kp hp121 gsn rfl rfl
                have m130 : SM H121 wl 36 = SM H50 wl 36 := SM_kp hp121 gwl rfl rfl
                replace uhd : UHD H121 us hd := uhd.kp hp121 gus ghd rfl rfl
                replace asn : aI H121 sn = fs := (funext fun _ => aI_kp hp121 gsn rfl rfl).trans asn
                replace awl : aI H121 wl = fw := (funext fun _ => aI_kp hp121 gwl rfl rfl).trans awl
                replace asu : aI H121 su = fu := (funext fun _ => aI_kp hp121 gsu rfl rfl).trans asu
                replace aic : aI H121 ic = fi9 := (funext fun _ => aI_kp hp121 gic rfl rfl).trans aic
                have f121_0 := hr121
                have hla : v121.toInt = lwF fs fw fu fi9 w9 h9 z21 (z49 + 1) 3 := by rw [f121_0, lwS_F, show (sI H50 yd (X.1.2 8 0)).toInt = w9 by omega, show (sI H50 yd (X.1.2 8 1)).toInt = h9 by omega, ← (show aI H121 sn = aI H50 sn from funext fun _ => aI_kp hp121 gsn rfl rfl), ← (show aI H121 wl = aI H50 wl from funext fun _ => aI_kp hp121 gwl rfl rfl), ← (show aI H121 su = aI H50 su from funext fun _ => aI_kp hp121 gsu rfl rfl), ← (show aI H121 ic = aI H50 ic from funext fun _ => aI_kp hp121 gic rfl rfl), asn, awl, asu, aic]
                have hday : lwF fs fw fu fi9 w9 h9 z21 (z49 + 1) 3 ≤ lwF fs fw fu fi9 w9 h9 z21 z49 3 := lwF_day hsf (by omega) (by decide)
                refine lv_aload_n hx hb dL_law_377 rfl (lv_at hl 7 rfl) ?_
                refine lv_iload hx hb dL_law_378 (lv_at hl 1 rfl) ?_
                refine lv_iload hx hb dL_law_380 (lv_at hl 0 rfl) ?_
                refine lv_iconst (v := 3) hx hb dL_law_382 rfl ?_
                refine r_goI (r_runV (As := [.int v21, .int v49, .int 3]) (rest := [.int v121]) E hC121 hS121 (m_X11_lasting l X Γ H121 hC121 h0 g0 v21 (a1 := z21) ev21 v49 (a2 := z49) ev49 3 (a3 := 3) (by decide) yd ((kp_R hKp121 g0 (ci := 10) (k := 5) rfl (by decide) rfl).trans hyd) gyd sn wl su lw ic kn hd us br ar fi (yn.kp gyd hKp121 rfl) (by omega) (by omega) (by omega) (by omega) (by omega) (by omega) (by omega)) cw_X11_lasting cl_RL_125 g0 ⟨rfl, rfl⟩ rfl hl.1 rfl (show _ ≤ _ from by simp [Value.category]) (by decide) dL_law_383) hS121 (fun v131 H131 locs131 hr131 hC131 hS131 => ?_)
                obtain ⟨hp131, hr131⟩ := hr131
                have hKp131 := hKp121.tr (hp131.mono rfl)
                have m132 : aI H131 ha (0) = aI H121 ha (0) := aI_kp hp131 gha rfl rfl
                have m133 : aI H131 ha (1) = aI H121 ha (1) := aI_kp hp131 gha rfl rfl
                have m134 : aI H131 ha (2) = aI H121 ha (2) := aI_kp hp131 gha rfl rfl
                have m135 : aI H131 br (1) = aI H121 br (1) := aI_kp hp131 gbr rfl rfl
                have m136 : (sI H131 yd (X.1.2 8 0)).toInt = (sI H121 yd (X.1.2 8 0)).toInt := congrArg Int32.toInt (kp_I hp131 gyd (ci := 8) (k := 0) rfl (by decide) rfl)
                have m137 : (sI H131 yd (X.1.2 8 1)).toInt = (sI H121 yd (X.1.2 8 1)).toInt := congrArg Int32.toInt (kp_I hp131 gyd (ci := 8) (k := 1) rfl (by decide) rfl)
                have m138 : (sI H131 yd (X.1.2 8 2)).toInt = (sI H121 yd (X.1.2 8 2)).toInt := congrArg Int32.toInt (kp_I hp131 gyd (ci := 8) (k := 2) rfl (by decide) rfl)
                have m139 : SM H131 sn 36 = SM H121 sn 36 := SM_kp hp131 gsn rfl rfl
                have m140 : SM H131 wl 36 = SM H121 wl 36 := SM_kp hp131 gwl rfl rfl
                replace uhd : UHD H131 us hd := uhd.kp hp131 gus ghd rfl rfl
                replace asn : aI H131 sn = fs := (funext fun _ => aI_kp hp131 gsn rfl rfl).trans asn
                replace awl : aI H131 wl = fw := (funext fun _ => aI_kp hp131 gwl rfl rfl).trans awl
                replace asu : aI H131 su = fu := (funext fun _ => aI_kp hp131 gsu rfl rfl).trans asu
                replace aic : aI H131 ic = fi9 := (funext fun _ => aI_kp hp131 gic rfl rfl).trans aic
                have f131_0 := hr131
                have hlb : v131.toInt = lwF fs fw fu fi9 w9 h9 z21 z49 3 := by rw [f131_0, lwS_F, show (sI H121 yd (X.1.2 8 0)).toInt = w9 by omega, show (sI H121 yd (X.1.2 8 1)).toInt = h9 by omega, ← (show aI H131 sn = aI H121 sn from funext fun _ => aI_kp hp131 gsn rfl rfl), ← (show aI H131 wl = aI H121 wl from funext fun _ => aI_kp hp131 gwl rfl rfl), ← (show aI H131 su = aI H121 su from funext fun _ => aI_kp hp131 gsu rfl rfl), ← (show aI H131 ic = aI H121 ic from funext fun _ => aI_kp hp131 gic rfl rfl), asn, awl, asu, aic]
                have c141 := i_rng v121; rw [show v121.toInt = v121.toInt from rfl] at c141
                have c142 := i_rng v131; rw [show v131.toInt = v131.toInt from rfl] at c142
                refine q_icmp_gt hx hb (a := v121.toInt) (b := v131.toInt) rfl rfl (tgt := 410) dL_law_386 rfl (fun c143 => ?_) (fun c143 => ?_)
                · (exfalso; omega)
                · refine lv_aload_n hx hb dL_law_389 rfl (lv_at hl 7 rfl) ?_
                  refine lv_iload hx hb dL_law_390 (lv_at hl 1 rfl) ?_
                  refine lv_iload hx hb dL_law_392 (lv_at hl 0 rfl) ?_
                  refine lv_iconst (v := 4) hx hb dL_law_394 rfl ?_
                  refine r_goI (r_runV (As := [.int v21, .int v49, .int 4]) (rest := []) E hC131 hS131 (m_X11_lasting l X Γ H131 hC131 h0 g0 v21 (a1 := z21) ev21 v49 (a2 := z49) ev49 4 (a3 := 4) (by decide) yd ((kp_R hKp131 g0 (ci := 10) (k := 5) rfl (by decide) rfl).trans hyd) gyd sn wl su lw ic kn hd us br ar fi (yn.kp gyd hKp131 rfl) (by omega) (by omega) (by omega) (by omega) (by omega) (by omega) (by omega)) cw_X11_lasting cl_RL_125 g0 ⟨rfl, rfl⟩ rfl hl.1 rfl (Nat.zero_le _) (by decide) dL_law_395) hS131 (fun v144 H144 locs144 hr144 hC144 hS144 => ?_)
                  obtain ⟨hp144, hr144⟩ := hr144
                  have hKp144 := hKp131.tr (hp144.mono rfl)
                  have m145 : aI H144 ha (0) = aI H131 ha (0) := aI_kp hp144 gha rfl rfl
                  have m146 : aI H144 ha (1) = aI H131 ha (1) := aI_kp hp144 gha rfl rfl
                  have m147 : aI H144 ha (2) = aI H131 ha (2) := aI_kp hp144 gha rfl rfl
                  have m148 : aI H144 br (1) = aI H131 br (1) := aI_kp hp144 gbr rfl rfl
                  have m149 : (sI H144 yd (X.1.2 8 0)).toInt = (sI H131 yd (X.1.2 8 0)).toInt := congrArg Int32.toInt (kp_I hp144 gyd (ci := 8) (k := 0) rfl (by decide) rfl)
                  have m150 : (sI H144 yd (X.1.2 8 1)).toInt = (sI H131 yd (X.1.2 8 1)).toInt := congrArg Int32.toInt (kp_I hp144 gyd (ci := 8) (k := 1) rfl (by decide) rfl)
                  have m151 : (sI H144 yd (X.1.2 8 2)).toInt = (sI H131 yd (X.1.2 8 2)).toInt := congrArg Int32.toInt (kp_I hp144 gyd (ci := 8) (k := 2) rfl (by decide) rfl)
                  have m152 : SM H144 sn 36 = SM H131 sn 36 := SM_kp hp144 gsn rfl rfl
                  have m153 : SM H144 wl 36 = SM H131 wl 36 := SM_kp hp144 gwl rfl rfl
                  replace uhd : UHD H144 us hd := uhd.kp hp144 gus ghd rfl rfl
                  replace asn : aI H144 sn = fs := (funext fun _ => aI_kp hp144 gsn rfl rfl).trans asn
                  replace awl : aI H144 wl = fw := (funext fun _ => aI_kp hp144 gwl rfl rfl).trans awl
                  replace asu : aI H144 su = fu := (funext fun _ => aI_kp hp144 gsu rfl rfl).trans asu
                  replace aic : aI H144 ic = fi9 := (funext fun _ => aI_kp hp144 gic rfl rfl).trans aic
                  have f144_0 := hr144
                  have hlc : v144.toInt = lwF fs fw fu fi9 w9 h9 z21 z49 4 := by rw [f144_0, lwS_F, show (sI H131 yd (X.1.2 8 0)).toInt = w9 by omega, show (sI H131 yd (X.1.2 8 1)).toInt = h9 by omega, ← (show aI H144 sn = aI H131 sn from funext fun _ => aI_kp hp144 gsn rfl rfl), ← (show aI H144 wl = aI H131 wl from funext fun _ => aI_kp hp144 gwl rfl rfl), ← (show aI H144 su = aI H131 su from funext fun _ => aI_kp hp144 gsu rfl rfl), ← (show aI H144 ic = aI H131 ic from funext fun _ => aI_kp hp144 gic rfl rfl), asn, awl, asu, aic]
                  have hmon : lwF fs fw fu fi9 w9 h9 z21 z49 4 ≤ lwF fs fw fu fi9 w9 h9 z21 z49 3 := lwF_mono (v := 3) hsf (by decide)
                  refine lv_aload_n hx hb dL_law_398 rfl (lv_at hl 7 rfl) ?_
                  refine lv_iload hx hb dL_law_399 (lv_at hl 1 rfl) ?_
                  refine lv_iload hx hb dL_law_401 (lv_at hl 0 rfl) ?_
                  refine lv_iconst (v := 3) hx hb dL_law_403 rfl ?_
                  refine r_goI (r_runV (As := [.int v21, .int v49, .int 3]) (rest := [.int v144]) E hC144 hS144 (m_X11_lasting l X Γ H144 hC144 h0 g0 v21 (a1 := z21) ev21 v49 (a2 := z49) ev49 3 (a3 := 3) (by decide) yd ((kp_R hKp144 g0 (ci := 10) (k := 5) rfl (by decide) rfl).trans hyd) gyd sn wl su lw ic kn hd us br ar fi (yn.kp gyd hKp144 rfl) (by omega) (by omega) (by omega) (by omega) (by omega) (by omega) (by omega)) cw_X11_lasting cl_RL_125 g0 ⟨rfl, rfl⟩ rfl hl.1 rfl (show _ ≤ _ from by simp [Value.category]) (by decide) dL_law_404) hS144 (fun v154 H154 locs154 hr154 hC154 hS154 => ?_)
                  obtain ⟨hp154, hr154⟩ := hr154
                  have hKp154 := hKp144.tr (hp154.mono rfl)
                  have m155 : aI H154 ha (0) = aI H144 ha (0) := aI_kp hp154 gha rfl rfl
                  have m156 : aI H154 ha (1) = aI H144 ha (1) := aI_kp hp154 gha rfl rfl
                  have m157 : aI H154 ha (2) = aI H144 ha (2) := aI_kp hp154 gha rfl rfl
                  have m158 : aI H154 br (1) = aI H144 br (1) := aI_kp hp154 gbr rfl rfl
                  have m159 : (sI H154 yd (X.1.2 8 0)).toInt = (sI H144 yd (X.1.2 8 0)).toInt := congrArg Int32.toInt (kp_I hp154 gyd (ci := 8) (k := 0) rfl (by decide) rfl)
                  have m160 : (sI H154 yd (X.1.2 8 1)).toInt = (sI H144 yd (X.1.2 8 1)).toInt := congrArg Int32.toInt (kp_I hp154 gyd (ci := 8) (k := 1) rfl (by decide) rfl)
                  have m161 : (sI H154 yd (X.1.2 8 2)).toInt = (sI H144 yd (X.1.2 8 2)).toInt := congrArg Int32.toInt (kp_I hp154 gyd (ci := 8) (k := 2) rfl (by decide) rfl)
                  have m162 : SM H154 sn 36 = SM H144 sn 36 := SM_kp hp154 gsn rfl rfl
                  have m163 : SM H154 wl 36 = SM H144 wl 36 := SM_kp hp154 gwl rfl rfl
                  replace uhd : UHD H154 us hd := uhd.kp hp154 gus ghd rfl rfl
                  replace asn : aI H154 sn = fs := (funext fun _ => aI_kp hp154 gsn rfl rfl).trans asn
                  replace awl : aI H154 wl = fw := (funext fun _ => aI_kp hp154 gwl rfl rfl).trans awl
                  replace asu : aI H154 su = fu := (funext fun _ => aI_kp hp154 gsu rfl rfl).trans asu
                  replace aic : aI H154 ic = fi9 := (funext fun _ => aI_kp hp154 gic rfl rfl).trans aic
                  have f154_0 := hr154
                  have hld : v154.toInt = lwF fs fw fu fi9 w9 h9 z21 z49 3 := by rw [f154_0, lwS_F, show (sI H144 yd (X.1.2 8 0)).toInt = w9 by omega, show (sI H144 yd (X.1.2 8 1)).toInt = h9 by omega, ← (show aI H154 sn = aI H144 sn from funext fun _ => aI_kp hp154 gsn rfl rfl), ← (show aI H154 wl = aI H144 wl from funext fun _ => aI_kp hp154 gwl rfl rfl), ← (show aI H154 su = aI H144 su from funext fun _ => aI_kp hp154 gsu rfl rfl), ← (show aI H154 ic = aI H144 ic from funext fun _ => aI_kp hp154 gic rfl rfl), asn, awl, asu, aic]
                  have c164 := i_rng v144; rw [show v144.toInt = v144.toInt from rfl] at c164
                  have c165 := i_rng v154; rw [show v154.toInt = v154.toInt from rfl] at c165
                  refine q_icmp_le hx hb (a := v144.toInt) (b := v154.toInt) rfl rfl (tgt := 412) dL_law_407 rfl (fun c166 => ?_) (fun c166 => ?_)
                  · obtain ⟨v167, ev167⟩ : ∃ z, z = v49 + Int32.ofInt 1 := ⟨_, rfl⟩
                    have ev167i : v167.toInt = (z49 + 1) := i_add ev167 ev49 (by decide) (by omega) (by omega)
                    refine lv_iinc hx hb dL_law_412 hl (k := 0) rfl ev167.symm (by decide) rfl (fun ls hl => ?_)
                    replace hl : lv_has ls 15 [(9, .int v167), (8, .int v21), (7, .int v7), (6, .int v6), (5, .int v5), (4, .int v4), (0, .ref (sad X)), (1, .ref h0), (2, .ref mm), (3, .ref ha)] := hl
                    refine lv_goto (tgt := 360) hx hb dL_law_415 rfl ?_
                    exact ih50 H154 locs154 v167 ((z49 + 1)) ls (ms_lt hm50 (by omega) (by omega)) ev167i (by omega) (by omega) (by omega) (by omega) (by omega) (by omega) (by omega) (by omega) (by omega) (by omega) hC154 hS154 hKp154 uhd asn awl asu aic hl
                  · (exfalso; omega)
          exact L360 _ H36 locs36 0 0 ls (Nat.lt_succ_self _) (by decide) (by omega) (by omega) (by omega) (by omega) (by omega) (by omega) (by omega) (by omega) (by omega) (by omega) hC36 hS36 hKp36 uhd asn awl asu aic hl
        · (exfalso; omega)
  exact L329 _ H0 locs0 0 0 ls (Nat.lt_succ_self _) (by decide) (by omega) (by omega) (by omega) (by omega) (by omega) (by omega) (by omega) (by omega) (by omega) (by omega) (by omega) hC0 hS0 hKp0 uhd hl
