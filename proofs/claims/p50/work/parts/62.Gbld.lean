set_option maxRecDepth 100000 in
set_option maxHeartbeats 8000000 in
theorem sg_bld (l : Launch) {p : Program} {e : Env} {s : State} {m : MethodId} {args : Array Value} {below : List Frame} {meth : Method} {c : Code} {X : xW} {Γ : Nat → Option Nat} {Qz : State → Prop} (E : Ev p s m args meth c cL_law 15 "SnowFortsLaw" ret X Γ s.heap) (H0 : Heap) (hC0 : Conf X Γ H0) (locs0 : List Loc) (hS0 : va_S (AΓ Γ) s.heap H0 locs0) (h0 : Nat) (g0 : Γ h0 = some 0) (mm ha : Nat) (gmm : Γ mm = some 90) (gha : Γ ha = some 91) (yd : Nat) (hyd : sR H0 h0 (X.1.2 10 5) = some yd) (gyd : Γ yd = some 5) (sn wl su lw ic kn hd us br ar fi : Nat) (yn : YN X Γ H0 yd sn wl su lw ic kn hd us br ar fi) (wk : Nat) (hwk : sR H0 h0 (X.1.2 10 12) = some wk) (gwk : Γ wk = some 7) (pa hh wt : Nat) (wn : WN X Γ H0 wk pa hh wt) (w9 h9 s9 : Int) (qw : w9 = 2 ∨ w9 = 4) (qh : 1 ≤ h9 ∧ h9 ≤ 3) (qs : s9 = 1 ∨ s9 = 2) (qa0 : aI H0 ha 0 = w9) (qa1 : aI H0 ha 1 = h9) (qa2 : aI H0 ha 2 = s9) (qy0 : (sI H0 yd (X.1.2 8 0)).toInt = w9) (qy1 : (sI H0 yd (X.1.2 8 1)).toInt = h9) (qy2 : (sI H0 yd (X.1.2 8 2)).toInt = s9) (K9 : Int) (v7 : Int32) {z7 : Int} (ev7 : v7.toInt = z7) (v6 : Int32) {z6 : Int} (ev6 : v6.toInt = z6) (v5 : Int32) {z5 : Int} (ev5 : v5.toInt = z5) (v4 : Int32) {z4 : Int} (ev4 : v4.toInt = z4) (uhd : UHD H0 us hd) (hcs : SM H0 sn 36 + SM H0 wl 36 = K9) (hbr : s9 = 1 → aI H0 br 1 = 0) {ls : Array Slot} (hl : lv_has ls 15 [(7, .int v7), (6, .int v6), (5, .int v5), (4, .int v4), (0, .ref (sad X)), (1, .ref h0), (2, .ref mm), (3, .ref ha)]) (hk : ∀ (H1 : Heap) (locs1 : List Loc) (ls : Array Slot), Conf X Γ H1 → va_S (AΓ Γ) s.heap H1 locs1 → Kp X Γ [3, 29, 31, 32, 33, 34, 37, 39, 40, 50, 51, 52, 53, 54, 57, 58, 59, 61, 63, 65, 67, 68, 69, 70, 71] H0 H1 → (UHD H1 us hd) → (SM H1 sn 36 + SM H1 wl 36 = K9) → (s9 = 1 → aI H1 br 1 = 0) → lv_has ls 15 [(7, .int v7), (6, .int v6), (5, .int v5), (4, .int v4), (0, .ref (sad X)), (1, .ref h0), (2, .ref mm), (3, .ref ha)] → W p l e room_1 s m args below meth c H1 locs1 133 8682 Qz (F0 m 326 ls [])) : W p l e room_1 s m args below meth c H0 locs0 133 8682 Qz (F0 m 109 ls []) := by
  have hx := E.1; have hb := E.2.1
  have hKp0 : Kp X Γ [3, 29, 31, 32, 33, 34, 37, 39, 40, 50, 51, 52, 53, 54, 57, 58, 59, 61, 63, 65, 67, 68, 69, 70, 71] H0 H0 := Kp.rf
  have gsn := yn.sn.2; have gwl := yn.wl.2; have gsu := yn.su.2; have glw := yn.lw.2; have gic := yn.ic.2; have gkn := yn.kn.2; have ghd := yn.hd.2; have gus := yn.us.2; have gbr := yn.br.2; have gar := yn.ar.2; have gfi := yn.fi.2
  have gpa := wn.pa.2; have ghh := wn.hh.2; have gwt := wn.wt.2
  have qw1 : 2 ≤ w9 ∧ w9 ≤ 4 := by omega
  have qs1 : 1 ≤ s9 ∧ s9 ≤ 2 := by omega
  clear qw qs
  have uhd : UHD H0 us hd := uhd
  have obr : OT H0 H0 br (-1) := OT.rf
  refine lv_iconst (v := 0) hx hb dL_law_109 rfl ?_
  refine lv_istore hx hb dL_law_110 hl (by decide) rfl (fun ls hl => ?_)
  replace hl : lv_has ls 15 [(8, .int 0), (7, .int v7), (6, .int v6), (5, .int v5), (4, .int v4), (0, .ref (sad X)), (1, .ref h0), (2, .ref mm), (3, .ref ha)] := hl
  have L112 : ∀ (n22 : Nat) (H22 : Heap) (locs22 : List Loc) (v21 : Int32) (z21 : Int) (ls : Array Slot), (2 - z21).toNat < n22 → v21.toInt = z21 → 0 ≤ z21 → aI H22 ha 0 = w9 → aI H22 ha 1 = h9 → aI H22 ha 2 = s9 → (sI H22 yd (X.1.2 8 0)).toInt = w9 → (sI H22 yd (X.1.2 8 1)).toInt = h9 → (sI H22 yd (X.1.2 8 2)).toInt = s9 → 0 ≤ z21 → z21 ≤ s9 → SM H22 sn 36 + SM H22 wl 36 = K9 → Conf X Γ H22 → va_S (AΓ Γ) s.heap H22 locs22 → Kp X Γ [3, 29, 31, 32, 33, 34, 37, 39, 40, 50, 51, 52, 53, 54, 57, 58, 59, 61, 63, 65, 67, 68, 69, 70, 71] H0 H22 → (UHD H22 us hd) → (OT H0 H22 br (-1)) → lv_has ls 15 [(8, .int v21), (7, .int v7), (6, .int v6), (5, .int v5), (4, .int v4), (0, .ref (sad X)), (1, .ref h0), (2, .ref mm), (3, .ref ha)] → W p l e room_1 s m args below meth c H22 locs22 133 8682 Qz (F0 m 112 ls []) := by
    intro n22
    induction n22 with
    | zero => intro H22 locs22 v21 z21 ls hm22 ev21 iv22_0 iv22_1 iv22_2 iv22_3 iv22_4 iv22_5 iv22_6 iv22_7 iv22_8 iv22_9 hC22 hS22 hKp22 uhd obr hl; exact absurd hm22 (Nat.not_lt_zero _)
    | succ n22 ih22 =>
      intro H22 locs22 v21 z21 ls hm22 ev21 iv22_0 iv22_1 iv22_2 iv22_3 iv22_4 iv22_5 iv22_6 iv22_7 iv22_8 iv22_9 hC22 hS22 hKp22 uhd obr hl
      refine lv_iload hx hb dL_law_112 (lv_at hl 0 rfl) ?_
      refine lv_aload_n hx hb dL_law_114 rfl (lv_at hl 8 rfl) ?_
      refine lv_iconst (v := 2) hx hb dL_law_115 rfl ?_
      refine q_iald E hC22 gha rfl rfl (rl_91_2 (show (2 : Int32).toInt = 2 from by decide) (by omega) (by omega)) (i_in (a := 2) (show (2 : Int32).toInt = 2 from by decide) (by omega) (by omega)) dL_law_116 (fun v23 ev23 lv23 uv23 => ?_)
      have m24 : aI H22 ha (2) = v23.toInt := aI_of (show (2 : Int32).toInt = 2 from by decide) ev23
      refine q_icmp_ge hx hb (a := z21) (b := v23.toInt) ev21 rfl (tgt := 326) dL_law_117 rfl (fun c25 => ?_) (fun c25 => ?_)
      · exact hk H22 locs22 ls hC22 hS22 hKp22 (uhd) (by omega) (fun q => by rw [show aI H22 br 1 = aI H0 br 1 from congrArg Int32.toInt (obr 1 (by decide))]; exact hbr q) (lv_sub hl [1, 2, 3, 4, 5, 6, 7, 8] rfl)
      · refine lv_aload_n hx hb dL_law_120 rfl (lv_at hl 6 rfl) ?_
        refine lv_iconst (v := 4) hx hb dL_law_121 rfl ?_
        refine r_goI (r_runV (As := [.int 4]) (rest := []) E hC22 hS22 (m_X11_many l X Γ H22 hC22 h0 g0 4 (a1 := 4) (by decide) yd ((kp_R hKp22 g0 (ci := 10) (k := 5) rfl (by decide) rfl).trans hyd) gyd sn wl su lw ic kn hd us br ar fi (yn.kp gyd hKp22 rfl) (by omega) (by omega)) cw_X11_many cl_RL_100 g0 ⟨rfl, rfl⟩ rfl hl.1 rfl (Nat.zero_le _) (by decide) dL_law_122) hS22 (fun v26 H26 locs26 hr26 hC26 hS26 => ?_)
        obtain ⟨hp26, hr26⟩ := hr26
        have hKp26 := hKp22.tr (hp26.mono rfl)
        have m27 : aI H26 ha (0) = aI H22 ha (0) := aI_kp hp26 gha rfl rfl
        have m28 : aI H26 ha (1) = aI H22 ha (1) := aI_kp hp26 gha rfl rfl
        have m29 : aI H26 ha (2) = aI H22 ha (2) := aI_kp hp26 gha rfl rfl
        have m30 : (sI H26 yd (X.1.2 8 0)).toInt = (sI H22 yd (X.1.2 8 0)).toInt := congrArg Int32.toInt (kp_I hp26 gyd (ci := 8) (k := 0) rfl (by decide) rfl)
        have m31 : (sI H26 yd (X.1.2 8 1)).toInt = (sI H22 yd (X.1.2 8 1)).toInt := congrArg Int32.toInt (kp_I hp26 gyd (ci := 8) (k := 1) rfl (by decide) rfl)
        have m32 : (sI H26 yd (X.1.2 8 2)).toInt = (sI H22 yd (X.1.2 8 2)).toInt := congrArg Int32.toInt (kp_I hp26 gyd (ci := 8) (k := 2) rfl (by decide) rfl)
        have m33 : SM H26 sn 36 = SM H22 sn 36 := SM_kp hp26 gsn rfl rfl
        have m34 : SM H26 wl 36 = SM H22 wl 36 := SM_kp hp26 gwl rfl rfl
        replace uhd : UHD H26 us hd := uhd.kp hp26 gus ghd rfl rfl
        replace obr : OT H0 H26 br (-1) := obr.kp hp26 gbr rfl rfl
        obtain ⟨f26_0, f26_1, f26_2, f26_3, f26_4, f26_5⟩ := hr26
        have hw9 : v26.toInt = (sI H0 br 0 + sI H0 br 1).toInt := by rw [f26_0 rfl, ← kp_aI hp26 0 gbr rfl rfl, ← kp_aI hp26 1 gbr rfl rfl, obr 0 (by decide), obr 1 (by decide)]
        replace f26_0 := f26_0 rfl
        clear f26_1
        clear f26_2
        clear f26_3
        clear f26_4
        clear f26_5
        refine lv_istore hx hb dL_law_125 hl (by decide) rfl (fun ls hl => ?_)
        replace hl : lv_has ls 15 [(9, .int v26), (8, .int v21), (7, .int v7), (6, .int v6), (5, .int v5), (4, .int v4), (0, .ref (sad X)), (1, .ref h0), (2, .ref mm), (3, .ref ha)] := hl
        refine lv_aload_n hx hb dL_law_127 rfl (lv_at hl 7 rfl) ?_
        refine lv_iload hx hb dL_law_128 (lv_at hl 1 rfl) ?_
        refine r_goI (r_runV (As := [.int v21]) (rest := []) E hC26 hS26 (m_X11_most l X Γ H26 hC26 h0 g0 v21 (a1 := z21) ev21 yd ((kp_R hKp26 g0 (ci := 10) (k := 5) rfl (by decide) rfl).trans hyd) gyd sn wl su lw ic kn hd us br ar fi (yn.kp gyd hKp26 rfl) (by omega) (by omega) (by omega)) cw_X11_most cl_RL_103 g0 ⟨rfl, rfl⟩ rfl hl.1 rfl (Nat.zero_le _) (by decide) dL_law_130) hS26 (fun v35 H35 locs35 hr35 hC35 hS35 => ?_)
        obtain ⟨hp35, hr35⟩ := hr35
        have hKp35 := hKp26.tr (hp35.mono rfl)
        have m36 : aI H35 ha (0) = aI H26 ha (0) := aI_kp hp35 gha rfl rfl
        have m37 : aI H35 ha (1) = aI H26 ha (1) := aI_kp hp35 gha rfl rfl
        have m38 : aI H35 ha (2) = aI H26 ha (2) := aI_kp hp35 gha rfl rfl
        have m39 : (sI H35 yd (X.1.2 8 0)).toInt = (sI H26 yd (X.1.2 8 0)).toInt := congrArg Int32.toInt (kp_I hp35 gyd (ci := 8) (k := 0) rfl (by decide) rfl)
        have m40 : (sI H35 yd (X.1.2 8 1)).toInt = (sI H26 yd (X.1.2 8 1)).toInt := congrArg Int32.toInt (kp_I hp35 gyd (ci := 8) (k := 1) rfl (by decide) rfl)
        have m41 : (sI H35 yd (X.1.2 8 2)).toInt = (sI H26 yd (X.1.2 8 2)).toInt := congrArg Int32.toInt (kp_I hp35 gyd (ci := 8) (k := 2) rfl (by decide) rfl)
        have m42 : SM H35 sn 36 = SM H26 sn 36 := SM_kp hp35 gsn rfl rfl
        have m43 : SM H35 wl 36 = SM H26 wl 36 := SM_kp hp35 gwl rfl rfl
        replace uhd : UHD H35 us hd := uhd.kp hp35 gus ghd rfl rfl
        replace obr : OT H0 H35 br (-1) := obr.kp hp35 gbr rfl rfl
        obtain ⟨f35_0, f35_1, f35_2⟩ := hr35
        have hmo : v35.toInt = mst H35 sn wl lw ar hd us w9 h9 z21 := by rw [mst_kp hp35 gsn gwl glw gar ghd gus rfl rfl rfl rfl rfl rfl, f35_0, show (sI H26 yd (X.1.2 8 0)).toInt = w9 by omega, show (sI H26 yd (X.1.2 8 1)).toInt = h9 by omega]
        refine lv_istore hx hb dL_law_133 hl (by decide) rfl (fun ls hl => ?_)
        replace hl : lv_has ls 15 [(10, .int v35), (9, .int v26), (8, .int v21), (7, .int v7), (6, .int v6), (5, .int v5), (4, .int v4), (0, .ref (sad X)), (1, .ref h0), (2, .ref mm), (3, .ref ha)] := hl
        refine lv_iconst (v := 0) hx hb dL_law_135 rfl ?_
        refine lv_istore hx hb dL_law_136 hl (by decide) rfl (fun ls hl => ?_)
        replace hl : lv_has ls 15 [(11, .int 0), (10, .int v35), (9, .int v26), (8, .int v21), (7, .int v7), (6, .int v6), (5, .int v5), (4, .int v4), (0, .ref (sad X)), (1, .ref h0), (2, .ref mm), (3, .ref ha)] := hl
        refine lv_iconst (v := 0) hx hb dL_law_138 rfl ?_
        refine lv_istore hx hb dL_law_139 hl (by decide) rfl (fun ls hl => ?_)
        replace hl : lv_has ls 15 [(12, .int 0), (11, .int 0), (10, .int v35), (9, .int v26), (8, .int v21), (7, .int v7), (6, .int v6), (5, .int v5), (4, .int v4), (0, .ref (sad X)), (1, .ref h0), (2, .ref mm), (3, .ref ha)] := hl
        have L141 : ∀ (n46 : Nat) (H46 : Heap) (locs46 : List Loc) (v44 : Int32) (z44 : Int) (v45 : Int32) (z45 : Int) (ls : Array Slot), (3 - z44).toNat < n46 → v44.toInt = z44 → v45.toInt = z45 → 0 ≤ z44 → z45 + mst H46 sn wl lw ar hd us w9 h9 z21 = v35.toInt → 0 ≤ z45 → z45 ≤ 40 → SM H46 sn 36 + SM H46 wl 36 = K9 → aI H46 ha 0 = w9 → aI H46 ha 1 = h9 → aI H46 ha 2 = s9 → (sI H46 yd (X.1.2 8 0)).toInt = w9 → (sI H46 yd (X.1.2 8 1)).toInt = h9 → (sI H46 yd (X.1.2 8 2)).toInt = s9 → 0 ≤ z44 → z44 ≤ h9 → Conf X Γ H46 → va_S (AΓ Γ) s.heap H46 locs46 → Kp X Γ [3, 29, 31, 32, 33, 34, 37, 39, 40, 50, 51, 52, 53, 54, 57, 58, 59, 61, 63, 65, 67, 68, 69, 70, 71] H0 H46 → (UHD H46 us hd) → (OT H0 H46 br (-1)) → lv_has ls 15 [(12, .int v44), (11, .int v45), (10, .int v35), (9, .int v26), (8, .int v21), (7, .int v7), (6, .int v6), (5, .int v5), (4, .int v4), (0, .ref (sad X)), (1, .ref h0), (2, .ref mm), (3, .ref ha)] → W p l e room_1 s m args below meth c H46 locs46 133 8682 Qz (F0 m 141 ls []) := by
          intro n46
          induction n46 with
          | zero => intro H46 locs46 v44 z44 v45 z45 ls hm46 ev44 ev45 iv46_0 iv46_1 iv46_2 iv46_3 iv46_4 iv46_5 iv46_6 iv46_7 iv46_8 iv46_9 iv46_10 iv46_11 iv46_12 hC46 hS46 hKp46 uhd obr hl; exact absurd hm46 (Nat.not_lt_zero _)
          | succ n46 ih46 =>
            intro H46 locs46 v44 z44 v45 z45 ls hm46 ev44 ev45 iv46_0 iv46_1 iv46_2 iv46_3 iv46_4 iv46_5 iv46_6 iv46_7 iv46_8 iv46_9 iv46_10 iv46_11 iv46_12 hC46 hS46 hKp46 uhd obr hl
            refine lv_iload hx hb dL_law_141 (lv_at hl 0 rfl) ?_
            refine lv_aload_n hx hb dL_law_143 rfl (lv_at hl 12 rfl) ?_
            refine lv_iconst (v := 1) hx hb dL_law_144 rfl ?_
            refine q_iald E hC46 gha rfl rfl (rl_91_1 (show (1 : Int32).toInt = 1 from by decide) (by omega) (by omega)) (i_in (a := 1) (show (1 : Int32).toInt = 1 from by decide) (by omega) (by omega)) dL_law_145 (fun v47 ev47 lv47 uv47 => ?_)
            have m48 : aI H46 ha (1) = v47.toInt := aI_of (show (1 : Int32).toInt = 1 from by decide) ev47
            refine q_icmp_ge hx hb (a := z44) (b := v47.toInt) ev44 rfl (tgt := 259) dL_law_146 rfl (fun c49 => ?_) (fun c49 => ?_)
            · have hmn : 0 ≤ mst H46 sn wl lw ar hd us w9 h9 z21 := mst_nn hC46 gsn
              obtain ⟨q8, hq8⟩ : ∃ z, mst H46 sn wl lw ar hd us w9 h9 z21 = z := ⟨_, rfl⟩
              have mr : mst H46 sn wl lw ar hd us w9 h9 z21 = q8 := hq8
              refine lv_aload_n hx hb dL_law_259 rfl (lv_at hl 10 rfl) ?_
              refine lv_iconst (v := 4) hx hb dL_law_260 rfl ?_
              refine r_goI (r_runV (As := [.int 4]) (rest := []) E hC46 hS46 (m_X11_many l X Γ H46 hC46 h0 g0 4 (a1 := 4) (by decide) yd ((kp_R hKp46 g0 (ci := 10) (k := 5) rfl (by decide) rfl).trans hyd) gyd sn wl su lw ic kn hd us br ar fi (yn.kp gyd hKp46 rfl) (by omega) (by omega)) cw_X11_many cl_RL_100 g0 ⟨rfl, rfl⟩ rfl hl.1 rfl (Nat.zero_le _) (by decide) dL_law_261) hS46 (fun v50 H50 locs50 hr50 hC50 hS50 => ?_)
              obtain ⟨hp50, hr50⟩ := hr50
              have hKp50 := hKp46.tr (hp50.mono rfl)
              have m51 : aI H50 ha (0) = aI H46 ha (0) := aI_kp hp50 gha rfl rfl
              have m52 : aI H50 ha (1) = aI H46 ha (1) := aI_kp hp50 gha rfl rfl
              have m53 : aI H50 ha (2) = aI H46 ha (2) := aI_kp hp50 gha rfl rfl
              have m54 : (sI H50 yd (X.1.2 8 0)).toInt = (sI H46 yd (X.1.2 8 0)).toInt := congrArg Int32.toInt (kp_I hp50 gyd (ci := 8) (k := 0) rfl (by decide) rfl)
              have m55 : (sI H50 yd (X.1.2 8 1)).toInt = (sI H46 yd (X.1.2 8 1)).toInt := congrArg Int32.toInt (kp_I hp50 gyd (ci := 8) (k := 1) rfl (by decide) rfl)
              have m56 : (sI H50 yd (X.1.2 8 2)).toInt = (sI H46 yd (X.1.2 8 2)).toInt := congrArg Int32.toInt (kp_I hp50 gyd (ci := 8) (k := 2) rfl (by decide) rfl)
              have m57 : SM H50 sn 36 = SM H46 sn 36 := SM_kp hp50 gsn rfl rfl
              have m58 : SM H50 wl 36 = SM H46 wl 36 := SM_kp hp50 gwl rfl rfl
              replace uhd : UHD H50 us hd := uhd.kp hp50 gus ghd rfl rfl
              replace obr : OT H0 H50 br (-1) := obr.kp hp50 gbr rfl rfl
              replace mr : mst H50 sn wl lw ar hd us w9 h9 z21 = q8 := (mst_kp hp50 gsn gwl glw gar ghd gus rfl rfl rfl rfl rfl rfl).trans mr
              obtain ⟨f50_0, f50_1, f50_2, f50_3, f50_4, f50_5⟩ := hr50
              have hw8 : v50.toInt = (sI H0 br 0 + sI H0 br 1).toInt := by rw [f50_0 rfl, ← kp_aI hp50 0 gbr rfl rfl, ← kp_aI hp50 1 gbr rfl rfl, obr 0 (by decide), obr 1 (by decide)]
              replace f50_0 := f50_0 rfl
              clear f50_1
              clear f50_2
              clear f50_3
              clear f50_4
              clear f50_5
              refine lv_iload hx hb dL_law_264 (lv_at hl 3 rfl) ?_
              have c59 := i_rng v50; rw [show v50.toInt = v50.toInt from rfl] at c59
              have c60 := i_rng v26; rw [show v26.toInt = v26.toInt from rfl] at c60
              refine q_icmp_ne hx hb (a := v50.toInt) (b := v26.toInt) rfl rfl (tgt := 293) dL_law_266 rfl (fun c61 => ?_) (fun c61 => ?_)
              · (exfalso; omega)
              · refine lv_iload hx hb dL_law_269 (lv_at hl 1 rfl) ?_
                refine lv_iload hx hb dL_law_271 (lv_at hl 2 rfl) ?_
                refine q_icmp_gt hx hb (a := z45) (b := v35.toInt) ev45 rfl (tgt := 293) dL_law_273 rfl (fun c62 => ?_) (fun c62 => ?_)
                · (exfalso; omega)
                · refine lv_aload_n hx hb dL_law_276 rfl (lv_at hl 10 rfl) ?_
                  refine lv_iload hx hb dL_law_277 (lv_at hl 4 rfl) ?_
                  refine lv_iconst (v := 1) hx hb dL_law_279 rfl ?_
                  refine r_goI (r_runV (As := [.int v21, .int 1]) (rest := []) E hC50 hS50 (m_X11_school l X Γ H50 hC50 h0 g0 v21 (a1 := z21) ev21 1 (a2 := 1) (by decide) yd ((kp_R hKp50 g0 (ci := 10) (k := 5) rfl (by decide) rfl).trans hyd) gyd sn wl su lw ic kn hd us br ar fi (yn.kp gyd hKp50 rfl) (by omega) (by omega) (by omega) (by omega) (by omega)) cw_X11_school cl_RL_122 g0 ⟨rfl, rfl⟩ rfl hl.1 rfl (Nat.zero_le _) (by decide) dL_law_280) hS50 (fun v63 H63 locs63 hr63 hC63 hS63 => ?_)
                  obtain ⟨hp63, hr63⟩ := hr63
                  have hKp63 := hKp50.tr (hp63.mono rfl)
                  have m64 : aI H63 ha (0) = aI H50 ha (0) := aI_kp hp63 gha rfl rfl
                  have m65 : aI H63 ha (1) = aI H50 ha (1) := aI_kp hp63 gha rfl rfl
                  have m66 : aI H63 ha (2) = aI H50 ha (2) := aI_kp hp63 gha rfl rfl
                  have m67 : (sI H63 yd (X.1.2 8 0)).toInt = (sI H50 yd (X.1.2 8 0)).toInt := congrArg Int32.toInt (kp_I hp63 gyd (ci := 8) (k := 0) rfl (by decide) rfl)
                  have m68 : (sI H63 yd (X.1.2 8 1)).toInt = (sI H50 yd (X.1.2 8 1)).toInt := congrArg Int32.toInt (kp_I hp63 gyd (ci := 8) (k := 1) rfl (by decide) rfl)
                  have m69 : (sI H63 yd (X.1.2 8 2)).toInt = (sI H50 yd (X.1.2 8 2)).toInt := congrArg Int32.toInt (kp_I hp63 gyd (ci := 8) (k := 2) rfl (by decide) rfl)
                  have m70 : SM H63 sn 36 = SM H50 sn 36 := SM_kp hp63 gsn rfl rfl
                  have m71 : SM H63 wl 36 = SM H50 wl 36 := SM_kp hp63 gwl rfl rfl
                  replace uhd : UHD H63 us hd := uhd.kp hp63 gus ghd rfl rfl
                  replace obr : OT H0 H63 br (-1) := obr.kp hp63 gbr rfl rfl
                  replace mr : mst H63 sn wl lw ar hd us w9 h9 z21 = q8 := (mst_kp hp63 gsn gwl glw gar ghd gus rfl rfl rfl rfl rfl rfl).trans mr
                  obtain ⟨f63_0, f63_1, f63_2, f63_3⟩ := hr63
                  have hs1 : v63.toInt = aI H63 us z21 := by rw [aI_kp hp63 gus rfl rfl]; exact f63_1 rfl
                  clear f63_0
                  replace f63_1 := f63_1 rfl
                  clear f63_2
                  clear f63_3
                  refine lv_aload_n hx hb dL_law_283 rfl (lv_at hl 10 rfl) ?_
                  refine lv_iload hx hb dL_law_284 (lv_at hl 4 rfl) ?_
                  refine lv_iconst (v := 0) hx hb dL_law_286 rfl ?_
                  refine r_goI (r_runV (As := [.int v21, .int 0]) (rest := [.int v63]) E hC63 hS63 (m_X11_school l X Γ H63 hC63 h0 g0 v21 (a1 := z21) ev21 0 (a2 := 0) (by decide) yd ((kp_R hKp63 g0 (ci := 10) (k := 5) rfl (by decide) rfl).trans hyd) gyd sn wl su lw ic kn hd us br ar fi (yn.kp gyd hKp63 rfl) (by omega) (by omega) (by omega) (by omega) (by omega)) cw_X11_school cl_RL_122 g0 ⟨rfl, rfl⟩ rfl hl.1 rfl (show _ ≤ _ from by simp [Value.category]) (by decide) dL_law_287) hS63 (fun v72 H72 locs72 hr72 hC72 hS72 => ?_)
                  obtain ⟨hp72, hr72⟩ := hr72
                  have hKp72 := hKp63.tr (hp72.mono rfl)
                  have m73 : aI H72 ha (0) = aI H63 ha (0) := aI_kp hp72 gha rfl rfl
                  have m74 : aI H72 ha (1) = aI H63 ha (1) := aI_kp hp72 gha rfl rfl
                  have m75 : aI H72 ha (2) = aI H63 ha (2) := aI_kp hp72 gha rfl rfl
                  have m76 : (sI H72 yd (X.1.2 8 0)).toInt = (sI H63 yd (X.1.2 8 0)).toInt := congrArg Int32.toInt (kp_I hp72 gyd (ci := 8) (k := 0) rfl (by decide) rfl)
                  have m77 : (sI H72 yd (X.1.2 8 1)).toInt = (sI H63 yd (X.1.2 8 1)).toInt := congrArg Int32.toInt (kp_I hp72 gyd (ci := 8) (k := 1) rfl (by decide) rfl)
                  have m78 : (sI H72 yd (X.1.2 8 2)).toInt = (sI H63 yd (X.1.2 8 2)).toInt := congrArg Int32.toInt (kp_I hp72 gyd (ci := 8) (k := 2) rfl (by decide) rfl)
                  have m79 : SM H72 sn 36 = SM H63 sn 36 := SM_kp hp72 gsn rfl rfl
                  have m80 : SM H72 wl 36 = SM H63 wl 36 := SM_kp hp72 gwl rfl rfl
                  replace uhd : UHD H72 us hd := uhd.kp hp72 gus ghd rfl rfl
                  replace obr : OT H0 H72 br (-1) := obr.kp hp72 gbr rfl rfl
                  replace mr : mst H72 sn wl lw ar hd us w9 h9 z21 = q8 := (mst_kp hp72 gsn gwl glw gar ghd gus rfl rfl rfl rfl rfl rfl).trans mr
                  obtain ⟨f72_0, f72_1, f72_2, f72_3⟩ := hr72
                  have hs0 : v72.toInt = aI H72 hd z21 := by rw [aI_kp hp72 ghd rfl rfl]; exact f72_0 rfl
                  have hs2 := aI_kp (z := z21) hp72 gus rfl rfl
                  have hs3 := uhd z21 (by omega) (by omega)
                  replace f72_0 := f72_0 rfl
                  clear f72_1
                  clear f72_2
                  clear f72_3
                  have c81 := i_rng v63; rw [show v63.toInt = v63.toInt from rfl] at c81
                  have c82 := i_rng v72; rw [show v72.toInt = v72.toInt from rfl] at c82
                  refine q_icmp_le hx hb (a := v63.toInt) (b := v72.toInt) rfl rfl (tgt := 295) dL_law_290 rfl (fun c83 => ?_) (fun c83 => ?_)
                  · refine lv_iload hx hb dL_law_295 (lv_at hl 2 rfl) ?_
                    refine lv_bipush (v := 40) hx hb dL_law_297 rfl ?_
                    refine q_icmp_ge hx hb (a := v35.toInt) (b := 40) rfl (by decide) (tgt := 320) dL_law_299 rfl (fun c84 => ?_) (fun c84 => ?_)
                    · obtain ⟨v85, ev85⟩ : ∃ z, z = v21 + Int32.ofInt 1 := ⟨_, rfl⟩
                      have ev85i : v85.toInt = (z21 + 1) := i_add ev85 ev21 (by decide) (by omega) (by omega)
                      refine lv_iinc hx hb dL_law_320 hl (k := 4) rfl ev85.symm (by decide) rfl (fun ls hl => ?_)
                      replace hl : lv_has ls 15 [(8, .int v85), (12, .int v44), (11, .int v45), (10, .int v35), (9, .int v26), (7, .int v7), (6, .int v6), (5, .int v5), (4, .int v4), (0, .ref (sad X)), (1, .ref h0), (2, .ref mm), (3, .ref ha)] := hl
                      refine lv_goto (tgt := 112) hx hb dL_law_323 rfl ?_
                      exact ih22 H72 locs72 v85 ((z21 + 1)) ls (ms_lt hm22 (by omega) (by omega)) ev85i (by omega) (by omega) (by omega) (by omega) (by omega) (by omega) (by omega) (by omega) (by omega) (by omega) hC72 hS72 hKp72 uhd obr (lv_sub hl [0, 5, 6, 7, 8, 9, 10, 11, 12] rfl)
                    · refine lv_iload hx hb dL_law_302 (lv_at hl 1 rfl) ?_
                      refine lv_iload hx hb dL_law_304 (lv_at hl 2 rfl) ?_
                      refine q_icmp_eq hx hb (a := z45) (b := v35.toInt) ev45 rfl (tgt := 320) dL_law_306 rfl (fun c86 => ?_) (fun c86 => ?_)
                      · obtain ⟨v87, ev87⟩ : ∃ z, z = v21 + Int32.ofInt 1 := ⟨_, rfl⟩
                        have ev87i : v87.toInt = (z21 + 1) := i_add ev87 ev21 (by decide) (by omega) (by omega)
                        refine lv_iinc hx hb dL_law_320 hl (k := 4) rfl ev87.symm (by decide) rfl (fun ls hl => ?_)
                        replace hl : lv_has ls 15 [(8, .int v87), (12, .int v44), (11, .int v45), (10, .int v35), (9, .int v26), (7, .int v7), (6, .int v6), (5, .int v5), (4, .int v4), (0, .ref (sad X)), (1, .ref h0), (2, .ref mm), (3, .ref ha)] := hl
                        refine lv_goto (tgt := 112) hx hb dL_law_323 rfl ?_
                        exact ih22 H72 locs72 v87 ((z21 + 1)) ls (ms_lt hm22 (by omega) (by omega)) ev87i (by omega) (by omega) (by omega) (by omega) (by omega) (by omega) (by omega) (by omega) (by omega) (by omega) hC72 hS72 hKp72 uhd obr (lv_sub hl [0, 5, 6, 7, 8, 9, 10, 11, 12] rfl)
                      · refine lv_aload_n hx hb dL_law_309 rfl (lv_at hl 10 rfl) ?_
                        refine lv_iload hx hb dL_law_310 (lv_at hl 4 rfl) ?_
                        refine r_goI (r_runV (As := [.int v21]) (rest := []) E hC72 hS72 (m_X11_most l X Γ H72 hC72 h0 g0 v21 (a1 := z21) ev21 yd ((kp_R hKp72 g0 (ci := 10) (k := 5) rfl (by decide) rfl).trans hyd) gyd sn wl su lw ic kn hd us br ar fi (yn.kp gyd hKp72 rfl) (by omega) (by omega) (by omega)) cw_X11_most cl_RL_103 g0 ⟨rfl, rfl⟩ rfl hl.1 rfl (Nat.zero_le _) (by decide) dL_law_312) hS72 (fun v88 H88 locs88 hr88 hC88 hS88 => ?_)
                        obtain ⟨hp88, hr88⟩ := hr88
                        have hKp88 := hKp72.tr (hp88.mono rfl)
                        have m89 : aI H88 ha (0) = aI H72 ha (0) := aI_kp hp88 gha rfl rfl
                        have m90 : aI H88 ha (1) = aI H72 ha (1) := aI_kp hp88 gha rfl rfl
                        have m91 : aI H88 ha (2) = aI H72 ha (2) := aI_kp hp88 gha rfl rfl
                        have m92 : (sI H88 yd (X.1.2 8 0)).toInt = (sI H72 yd (X.1.2 8 0)).toInt := congrArg Int32.toInt (kp_I hp88 gyd (ci := 8) (k := 0) rfl (by decide) rfl)
                        have m93 : (sI H88 yd (X.1.2 8 1)).toInt = (sI H72 yd (X.1.2 8 1)).toInt := congrArg Int32.toInt (kp_I hp88 gyd (ci := 8) (k := 1) rfl (by decide) rfl)
                        have m94 : (sI H88 yd (X.1.2 8 2)).toInt = (sI H72 yd (X.1.2 8 2)).toInt := congrArg Int32.toInt (kp_I hp88 gyd (ci := 8) (k := 2) rfl (by decide) rfl)
                        have m95 : SM H88 sn 36 = SM H72 sn 36 := SM_kp hp88 gsn rfl rfl
                        have m96 : SM H88 wl 36 = SM H72 wl 36 := SM_kp hp88 gwl rfl rfl
                        replace uhd : UHD H88 us hd := uhd.kp hp88 gus ghd rfl rfl
                        replace obr : OT H0 H88 br (-1) := obr.kp hp88 gbr rfl rfl
                        replace mr : mst H88 sn wl lw ar hd us w9 h9 z21 = q8 := (mst_kp hp88 gsn gwl glw gar ghd gus rfl rfl rfl rfl rfl rfl).trans mr
                        obtain ⟨f88_0, f88_1, f88_2⟩ := hr88
                        have hmp : v88.toInt = mst H88 sn wl lw ar hd us w9 h9 z21 := by rw [mst_kp hp88 gsn gwl glw gar ghd gus rfl rfl rfl rfl rfl rfl, f88_0, show (sI H72 yd (X.1.2 8 0)).toInt = w9 by omega, show (sI H72 yd (X.1.2 8 1)).toInt = h9 by omega]
                        refine q_if_ne hx hb (a := v88.toInt) rfl (tgt := 320) dL_law_315 rfl (fun c97 => ?_) (fun c97 => ?_)
                        · obtain ⟨v98, ev98⟩ : ∃ z, z = v21 + Int32.ofInt 1 := ⟨_, rfl⟩
                          have ev98i : v98.toInt = (z21 + 1) := i_add ev98 ev21 (by decide) (by omega) (by omega)
                          refine lv_iinc hx hb dL_law_320 hl (k := 4) rfl ev98.symm (by decide) rfl (fun ls hl => ?_)
                          replace hl : lv_has ls 15 [(8, .int v98), (12, .int v44), (11, .int v45), (10, .int v35), (9, .int v26), (7, .int v7), (6, .int v6), (5, .int v5), (4, .int v4), (0, .ref (sad X)), (1, .ref h0), (2, .ref mm), (3, .ref ha)] := hl
                          refine lv_goto (tgt := 112) hx hb dL_law_323 rfl ?_
                          exact ih22 H88 locs88 v98 ((z21 + 1)) ls (ms_lt hm22 (by omega) (by omega)) ev98i (by omega) (by omega) (by omega) (by omega) (by omega) (by omega) (by omega) (by omega) (by omega) (by omega) hC88 hS88 hKp88 uhd obr (lv_sub hl [0, 5, 6, 7, 8, 9, 10, 11, 12] rfl)
                        · (exfalso; omega)
                  · (exfalso; omega)
            · refine lv_iconst (v := 0) hx hb dL_law_149 rfl ?_
              refine lv_istore hx hb dL_law_150 hl (by decide) rfl (fun ls hl => ?_)
              replace hl : lv_has ls 15 [(13, .int 0), (12, .int v44), (11, .int v45), (10, .int v35), (9, .int v26), (8, .int v21), (7, .int v7), (6, .int v6), (5, .int v5), (4, .int v4), (0, .ref (sad X)), (1, .ref h0), (2, .ref mm), (3, .ref ha)] := hl
              have L152 : ∀ (n101 : Nat) (H101 : Heap) (locs101 : List Loc) (v99 : Int32) (z99 : Int) (v100 : Int32) (z100 : Int) (ls : Array Slot), (4 - z99).toNat < n101 → v99.toInt = z99 → v100.toInt = z100 → 0 ≤ z99 → z100 + mst H101 sn wl lw ar hd us w9 h9 z21 = v35.toInt → 0 ≤ z100 → z100 ≤ 40 → SM H101 sn 36 + SM H101 wl 36 = K9 → aI H101 ha 0 = w9 → aI H101 ha 1 = h9 → aI H101 ha 2 = s9 → (sI H101 yd (X.1.2 8 0)).toInt = w9 → (sI H101 yd (X.1.2 8 1)).toInt = h9 → (sI H101 yd (X.1.2 8 2)).toInt = s9 → 0 ≤ z99 → z99 ≤ w9 → Conf X Γ H101 → va_S (AΓ Γ) s.heap H101 locs101 → Kp X Γ [3, 29, 31, 32, 33, 34, 37, 39, 40, 50, 51, 52, 53, 54, 57, 58, 59, 61, 63, 65, 67, 68, 69, 70, 71] H0 H101 → (UHD H101 us hd) → (OT H0 H101 br (-1)) → lv_has ls 15 [(13, .int v99), (12, .int v44), (11, .int v100), (10, .int v35), (9, .int v26), (8, .int v21), (7, .int v7), (6, .int v6), (5, .int v5), (4, .int v4), (0, .ref (sad X)), (1, .ref h0), (2, .ref mm), (3, .ref ha)] → W p l e room_1 s m args below meth c H101 locs101 133 8682 Qz (F0 m 152 ls []) := by
                intro n101
                induction n101 with
                | zero => intro H101 locs101 v99 z99 v100 z100 ls hm101 ev99 ev100 iv101_0 iv101_1 iv101_2 iv101_3 iv101_4 iv101_5 iv101_6 iv101_7 iv101_8 iv101_9 iv101_10 iv101_11 iv101_12 hC101 hS101 hKp101 uhd obr hl; exact absurd hm101 (Nat.not_lt_zero _)
                | succ n101 ih101 =>
                  intro H101 locs101 v99 z99 v100 z100 ls hm101 ev99 ev100 iv101_0 iv101_1 iv101_2 iv101_3 iv101_4 iv101_5 iv101_6 iv101_7 iv101_8 iv101_9 iv101_10 iv101_11 iv101_12 hC101 hS101 hKp101 uhd obr hl
                  obtain ⟨q9, hq9⟩ : ∃ z, mst H101 sn wl lw ar hd us w9 h9 z21 = z := ⟨_, rfl⟩
                  have mq : mst H101 sn wl lw ar hd us w9 h9 z21 = q9 := hq9
                  refine lv_iload hx hb dL_law_152 (lv_at hl 0 rfl) ?_
                  refine lv_aload_n hx hb dL_law_154 rfl (lv_at hl 13 rfl) ?_
                  refine lv_iconst (v := 0) hx hb dL_law_155 rfl ?_
                  refine q_iald E hC101 gha rfl rfl (rl_91_0 (show (0 : Int32).toInt = 0 from by decide) (by omega) (by omega)) (i_in (a := 0) (show (0 : Int32).toInt = 0 from by decide) (by omega) (by omega)) dL_law_156 (fun v102 ev102 lv102 uv102 => ?_)
                  have m103 : aI H101 ha (0) = v102.toInt := aI_of (show (0 : Int32).toInt = 0 from by decide) ev102
                  refine q_icmp_ge hx hb (a := z99) (b := v102.toInt) ev99 rfl (tgt := 253) dL_law_157 rfl (fun c104 => ?_) (fun c104 => ?_)
                  · obtain ⟨v105, ev105⟩ : ∃ z, z = v44 + Int32.ofInt 1 := ⟨_, rfl⟩
                    have ev105i : v105.toInt = (z44 + 1) := i_add ev105 ev44 (by decide) (by omega) (by omega)
                    refine lv_iinc hx hb dL_law_253 hl (k := 1) rfl ev105.symm (by decide) rfl (fun ls hl => ?_)
                    replace hl : lv_has ls 15 [(12, .int v105), (13, .int v99), (11, .int v100), (10, .int v35), (9, .int v26), (8, .int v21), (7, .int v7), (6, .int v6), (5, .int v5), (4, .int v4), (0, .ref (sad X)), (1, .ref h0), (2, .ref mm), (3, .ref ha)] := hl
                    refine lv_goto (tgt := 141) hx hb dL_law_256 rfl ?_
                    exact ih46 H101 locs101 v105 ((z44 + 1)) v100 (z100) ls (ms_lt hm46 (by omega) (by omega)) ev105i ev100 (by omega) (by omega) (by omega) (by omega) (by omega) (by omega) (by omega) (by omega) (by omega) (by omega) (by omega) (by omega) (by omega) hC101 hS101 hKp101 uhd obr (lv_sub hl [0, 2, 3, 4, 5, 6, 7, 8, 9, 10, 11, 12, 13] rfl)
                  · refine lv_aload_n hx hb dL_law_160 rfl (lv_at hl 11 rfl) ?_
                    refine lv_iload hx hb dL_law_161 (lv_at hl 0 rfl) ?_
                    refine lv_iload hx hb dL_law_163 (lv_at hl 1 rfl) ?_
                    refine lv_iconst (v := 4) hx hb dL_law_165 rfl ?_
                    refine r_goI (r_runV (As := [.int v99, .int v44, .int 4]) (rest := []) E hC101 hS101 (m_X11_cell l X Γ H101 hC101 h0 g0 v99 (a1 := z99) ev99 v44 (a2 := z44) ev44 4 (a3 := 4) (by decide) yd ((kp_R hKp101 g0 (ci := 10) (k := 5) rfl (by decide) rfl).trans hyd) gyd sn wl su lw ic kn hd us br ar fi (yn.kp gyd hKp101 rfl) (by omega) (by omega) (by omega) (by omega) (by omega) (by omega) (by omega) (by omega)) cw_X11_cell cl_RL_106 g0 ⟨rfl, rfl⟩ rfl hl.1 rfl (Nat.zero_le _) (by decide) dL_law_166) hS101 (fun v106 H106 locs106 hr106 hC106 hS106 => ?_)
                    obtain ⟨hp106, hr106⟩ := hr106
                    have hKp106 := hKp101.tr (hp106.mono rfl)
                    have m107 : aI H106 ha (0) = aI H101 ha (0) := aI_kp hp106 gha rfl rfl
                    have m108 : aI H106 ha (1) = aI H101 ha (1) := aI_kp hp106 gha rfl rfl
                    have m109 : aI H106 ha (2) = aI H101 ha (2) := aI_kp hp106 gha rfl rfl
                    have m110 : (sI H106 yd (X.1.2 8 0)).toInt = (sI H101 yd (X.1.2 8 0)).toInt := congrArg Int32.toInt (kp_I hp106 gyd (ci := 8) (k := 0) rfl (by decide) rfl)
                    have m111 : (sI H106 yd (X.1.2 8 1)).toInt = (sI H101 yd (X.1.2 8 1)).toInt := congrArg Int32.toInt (kp_I hp106 gyd (ci := 8) (k := 1) rfl (by decide) rfl)
                    have m112 : (sI H106 yd (X.1.2 8 2)).toInt = (sI H101 yd (X.1.2 8 2)).toInt := congrArg Int32.toInt (kp_I hp106 gyd (ci := 8) (k := 2) rfl (by decide) rfl)
                    have m113 : SM H106 sn 36 = SM H101 sn 36 := SM_kp hp106 gsn rfl rfl
                    have m114 : SM H106 wl 36 = SM H101 wl 36 := SM_kp hp106 gwl rfl rfl
                    replace uhd : UHD H106 us hd := uhd.kp hp106 gus ghd rfl rfl
                    replace obr : OT H0 H106 br (-1) := obr.kp hp106 gbr rfl rfl
                    replace mq : mst H106 sn wl lw ar hd us w9 h9 z21 = q9 := (mst_kp hp106 gsn gwl glw gar ghd gus rfl rfl rfl rfl rfl rfl).trans mq
                    obtain ⟨f106_0, f106_1, f106_2, f106_3, f106_4⟩ := hr106
                    have hf9 := f106_2 rfl
                    clear f106_0
                    clear f106_1
                    replace f106_2 := f106_2 rfl
                    refine lv_iload hx hb dL_law_169 (lv_at hl 5 rfl) ?_
                    refine q_icmp_eq hx hb (a := v106.toInt) (b := z21) rfl ev21 (tgt := 177) dL_law_171 rfl (fun c115 => ?_) (fun c115 => ?_)
                    · refine lv_aload_n hx hb dL_law_177 rfl (lv_at hl 11 rfl) ?_
                      refine lv_iload hx hb dL_law_178 (lv_at hl 0 rfl) ?_
                      refine lv_iload hx hb dL_law_180 (lv_at hl 1 rfl) ?_
                      refine r_goI (r_runV (As := [.int v99, .int v44]) (rest := []) E hC106 hS106 (m_X11_room l X Γ H106 hC106 h0 g0 v99 (a1 := z99) ev99 v44 (a2 := z44) ev44 yd ((kp_R hKp106 g0 (ci := 10) (k := 5) rfl (by decide) rfl).trans hyd) gyd sn wl su lw ic kn hd us br ar fi (yn.kp gyd hKp106 rfl) z21 (by omega) (by omega) (by omega) (by omega) (by omega) (by omega) (by omega) (by omega)) cw_X11_room cl_RL_110 g0 ⟨rfl, rfl⟩ rfl hl.1 rfl (Nat.zero_le _) (by decide) dL_law_182) hS106 (fun v116 H116 locs116 hr116 hC116 hS116 => ?_)
                      obtain ⟨hp116, hr116⟩ := hr116
                      have hKp116 := hKp106.tr (hp116.mono rfl)
                      have m117 : aI H116 ha (0) = aI H106 ha (0) := aI_kp hp116 gha rfl rfl
                      have m118 : aI H116 ha (1) = aI H106 ha (1) := aI_kp hp116 gha rfl rfl
                      have m119 : aI H116 ha (2) = aI H106 ha (2) := aI_kp hp116 gha rfl rfl
                      have m120 : (sI H116 yd (X.1.2 8 0)).toInt = (sI H106 yd (X.1.2 8 0)).toInt := congrArg Int32.toInt (kp_I hp116 gyd (ci := 8) (k := 0) rfl (by decide) rfl)
                      have m121 : (sI H116 yd (X.1.2 8 1)).toInt = (sI H106 yd (X.1.2 8 1)).toInt := congrArg Int32.toInt (kp_I hp116 gyd (ci := 8) (k := 1) rfl (by decide) rfl)
                      have m122 : (sI H116 yd (X.1.2 8 2)).toInt = (sI H106 yd (X.1.2 8 2)).toInt := congrArg Int32.toInt (kp_I hp116 gyd (ci := 8) (k := 2) rfl (by decide) rfl)
                      have m123 : SM H116 sn 36 = SM H106 sn 36 := SM_kp hp116 gsn rfl rfl
                      have m124 : SM H116 wl 36 = SM H106 wl 36 := SM_kp hp116 gwl rfl rfl
                      replace uhd : UHD H116 us hd := uhd.kp hp116 gus ghd rfl rfl
                      replace obr : OT H0 H116 br (-1) := obr.kp hp116 gbr rfl rfl
                      replace mq : mst H116 sn wl lw ar hd us w9 h9 z21 = q9 := (mst_kp hp116 gsn gwl glw gar ghd gus rfl rfl rfl rfl rfl rfl).trans mq
                      obtain ⟨f116_0, f116_1, f116_2, f116_3⟩ := hr116
                      have hwy9 : (sI H116 yd (X.1.2 8 0)).toInt = w9 := by omega
                      have hrm3 : v116.toInt ≤ fit H116 sn wl lw ar w9 (z44 * 6 + z99) := by
                        have q := f116_0
                        rw [show (sI H106 yd (X.1.2 8 0)).toInt = w9 by omega] at q
                        rw [fit_kp hp116 gsn gwl glw gar rfl rfl rfl rfl]
                        exact q
                      have hrm1 : v116.toInt ≤ fit H116 sn wl lw ar (sI H116 yd (X.1.2 8 0)).toInt (z44 * 6 + z99) := by rw [hwy9]; exact hrm3
                      have hrm2 : v116.toInt ≤ lwh H116 ar us z21 := by rw [lwh_kp hp116 gar gus rfl rfl]; exact f116_1
                      have hb40 : aI H116 hd z21 ≤ 40 ∧ 0 ≤ aI H116 us z21 := ⟨(el_bd hC116 ghd rfl rfl (fun _ => rfl) (by omega) (by omega)).2, (el_bd hC116 gus rfl rfl (fun _ => rfl) (by omega) (by omega)).1⟩
                      refine lv_istore hx hb dL_law_185 hl (by decide) rfl (fun ls hl => ?_)
                      replace hl : lv_has ls 15 [(14, .int v116), (13, .int v99), (12, .int v44), (11, .int v100), (10, .int v35), (9, .int v26), (8, .int v21), (7, .int v7), (6, .int v6), (5, .int v5), (4, .int v4), (0, .ref (sad X)), (1, .ref h0), (2, .ref mm), (3, .ref ha)] := hl
                      refine lv_iload hx hb dL_law_187 (lv_at hl 0 rfl) ?_
                      refine q_if_le hx hb (a := v116.toInt) rfl (tgt := 221) dL_law_189 rfl (fun c125 => ?_) (fun c125 => ?_)
                      · refine lv_iload hx hb dL_law_221 (lv_at hl 0 rfl) ?_
                        refine lv_bipush (v := 40) hx hb dL_law_223 rfl ?_
                        refine q_icmp_le hx hb (a := v116.toInt) (b := 40) rfl (by decide) (tgt := 247) dL_law_225 rfl (fun c126 => ?_) (fun c126 => absurd c126 (by omega))
                        obtain ⟨v127, ev127⟩ : ∃ z, z = v99 + Int32.ofInt 1 := ⟨_, rfl⟩
                        have ev127i : v127.toInt = (z99 + 1) := i_add ev127 ev99 (by decide) (by omega) (by omega)
                        refine lv_iinc hx hb dL_law_247 hl (k := 1) rfl ev127.symm (by decide) rfl (fun ls hl => ?_)
                        replace hl : lv_has ls 15 [(13, .int v127), (14, .int v116), (12, .int v44), (11, .int v100), (10, .int v35), (9, .int v26), (8, .int v21), (7, .int v7), (6, .int v6), (5, .int v5), (4, .int v4), (0, .ref (sad X)), (1, .ref h0), (2, .ref mm), (3, .ref ha)] := hl
                        refine lv_goto (tgt := 152) hx hb dL_law_250 rfl ?_
                        exact ih101 H116 locs116 v127 ((z99 + 1)) v100 (z100) ls (ms_lt hm101 (by omega) (by omega)) ev127i ev100 (by omega) (by omega) (by omega) (by omega) (by omega) (by omega) (by omega) (by omega) (by omega) (by omega) (by omega) (by omega) (by omega) hC116 hS116 hKp116 uhd obr (lv_sub hl [0, 2, 3, 4, 5, 6, 7, 8, 9, 10, 11, 12, 13, 14] rfl)
                      · refine lv_iload hx hb dL_law_192 (lv_at hl 0 rfl) ?_
                        refine lv_bipush (v := 40) hx hb dL_law_194 rfl ?_
                        refine q_icmp_gt hx hb (a := v116.toInt) (b := 40) rfl (by decide) (tgt := 221) dL_law_196 rfl (fun c128 => ?_) (fun c128 => ?_)
                        · refine lv_iload hx hb dL_law_221 (lv_at hl 0 rfl) ?_
                          refine lv_bipush (v := 40) hx hb dL_law_223 rfl ?_
                          refine q_icmp_le hx hb (a := v116.toInt) (b := 40) rfl (by decide) (tgt := 247) dL_law_225 rfl (fun c129 => absurd c129 (by omega)) (fun c129 => ?_)
                          refine lv_iload hx hb dL_law_228 (lv_at hl 3 rfl) ?_
                          refine lv_iconst (v := 0) hx hb dL_law_230 rfl ?_
                          refine lv_aload_n hx hb dL_law_231 rfl (lv_at hl 12 rfl) ?_
                          refine lv_iload hx hb dL_law_232 (lv_at hl 1 rfl) ?_
                          refine lv_iload hx hb dL_law_234 (lv_at hl 2 rfl) ?_
                          refine lv_bipush (v := 40) hx hb dL_law_236 rfl ?_
                          refine r_goI (r_runV (As := [.int v99, .int v44, .int 40]) (rest := [.int 0, .int v100]) E hC116 hS116 (m_X11_build l X Γ H116 hC116 h0 g0 v99 (a1 := z99) ev99 v44 (a2 := z44) ev44 40 (a3 := 40) (by decide) yd ((kp_R hKp116 g0 (ci := 10) (k := 5) rfl (by decide) rfl).trans hyd) gyd sn wl su lw ic kn hd us br ar fi (yn.kp gyd hKp116 rfl) z21 (by omega) (by omega) (by omega) (by omega) (by omega) (by omega) (by omega) (by omega) (by omega) (by omega) (by omega) (by omega)) cw_X11_build cl_RL_114 g0 ⟨rfl, rfl⟩ rfl hl.1 rfl (show _ ≤ _ from by simp [Value.category]) (by decide) dL_law_238) hS116 (fun v130 H130 locs130 hr130 hC130 hS130 => ?_)
                          obtain ⟨hp130, hr130⟩ := hr130
                          have hKp130 := hKp116.tr (hp130.mono rfl)
                          have m131 : aI H130 ha (0) = aI H116 ha (0) := aI_kp hp130 gha rfl rfl
                          have m132 : aI H130 ha (1) = aI H116 ha (1) := aI_kp hp130 gha rfl rfl
                          have m133 : aI H130 ha (2) = aI H116 ha (2) := aI_kp hp130 gha rfl rfl
                          have m134 : (sI H130 yd (X.1.2 8 0)).toInt = (sI H116 yd (X.1.2 8 0)).toInt := congrArg Int32.toInt (kp_I hp130 gyd (ci := 8) (k := 0) rfl (by decide) rfl)
                          have m135 : (sI H130 yd (X.1.2 8 1)).toInt = (sI H116 yd (X.1.2 8 1)).toInt := congrArg Int32.toInt (kp_I hp130 gyd (ci := 8) (k := 1) rfl (by decide) rfl)
                          have m136 : (sI H130 yd (X.1.2 8 2)).toInt = (sI H116 yd (X.1.2 8 2)).toInt := congrArg Int32.toInt (kp_I hp130 gyd (ci := 8) (k := 2) rfl (by decide) rfl)
                          replace obr : OT H0 H130 br (-1) := obr.kp hp130 gbr rfl rfl
                          obtain ⟨f130_0, f130_1, f130_2, f130_3, f130_4, f130_5, f130_6⟩ := hr130
                          have hU0 := f130_3
                          obtain ⟨u9, hu9⟩ : ∃ z, max 0 v130.toInt = z := ⟨_, rfl⟩
                          have hin9 : inB w9 h9 z21 (z44 * 6 + z99) = true := inB_t (by omega) (by omega) (by omega)
                          have hf1 := f130_0; have hf2 := f130_1; have hf3 := f130_2; have hf4 := f130_4; have hf5 := f130_5; have hf6 := f130_6
                          rw [hu9] at hf1 hf2 hf3 hU0
                          have hm9 : mst H130 sn wl lw ar hd us w9 h9 z21 = mst H116 sn wl lw ar hd us w9 h9 z21 - u9 := mst_b hf4 hf5 hf2 hf3 hU0 (fun _ => aI_kp hp130 glw rfl rfl) (fun _ => aI_kp hp130 gar rfl rfl) (fun _ => aI_kp hp130 ghd rfl rfl) (by omega) (Int.le_trans (show u9 ≤ v116.toInt by omega) hrm3) (Int.le_trans (show u9 ≤ v116.toInt by omega) hrm2) (by omega) (by omega) (by omega) hin9 (uhd z21 (by omega) (by omega)) hb40
                          have hsm9 := SM_b hf4 hf5 hf2 hf3 (by omega) (by omega)
                          have hq3 : u9 ≤ hlf H116 hd us z21 := by omega
                          have uhd : UHD H130 us hd := uhd.set hf6 (fun _ => aI_kp hp130 ghd rfl rfl) (by have q1 := aI_kp (z := z21) hp130 ghd rfl rfl; have q2 := uhd z21 (by omega) (by omega); have q3 := hq3; unfold hlf at q3; omega)
                          refine r_mmax E hl.1 w_1042 mathw_max (a := 0) (b := v130.toInt) (show (0 : Int32).toInt = 0 from by decide) rfl (by decide) (show _ ≤ _ from by simp [Value.category]) dL_law_241 (fun v139 mv139a mv139b mv139c => ?_)
                          refine lv_iadd hx hb dL_law_244 (lv_topi (fun v140 ev140 => ?_))
                          have ev140i : v140.toInt = (z100 + v139.toInt) := i_add ev140 ev100 rfl (by omega) (by omega)
                          refine lv_istore hx hb dL_law_245 hl (by decide) rfl (fun ls hl => ?_)
                          replace hl : lv_has ls 15 [(11, .int v140), (14, .int v116), (13, .int v99), (12, .int v44), (10, .int v35), (9, .int v26), (8, .int v21), (7, .int v7), (6, .int v6), (5, .int v5), (4, .int v4), (0, .ref (sad X)), (1, .ref h0), (2, .ref mm), (3, .ref ha)] := hl
                          obtain ⟨v141, ev141⟩ : ∃ z, z = v99 + Int32.ofInt 1 := ⟨_, rfl⟩
                          have ev141i : v141.toInt = (z99 + 1) := i_add ev141 ev99 (by decide) (by omega) (by omega)
                          refine lv_iinc hx hb dL_law_247 hl (k := 2) rfl ev141.symm (by decide) rfl (fun ls hl => ?_)
                          replace hl : lv_has ls 15 [(13, .int v141), (11, .int v140), (14, .int v116), (12, .int v44), (10, .int v35), (9, .int v26), (8, .int v21), (7, .int v7), (6, .int v6), (5, .int v5), (4, .int v4), (0, .ref (sad X)), (1, .ref h0), (2, .ref mm), (3, .ref ha)] := hl
                          refine lv_goto (tgt := 152) hx hb dL_law_250 rfl ?_
                          exact ih101 H130 locs130 v141 ((z99 + 1)) v140 ((z100 + v139.toInt)) ls (ms_lt hm101 (by omega) (by omega)) ev141i ev140i (by omega) (by omega) (by omega) (by omega) (by omega) (by omega) (by omega) (by omega) (by omega) (by omega) (by omega) (by omega) (by omega) hC130 hS130 hKp130 uhd obr (lv_sub hl [0, 3, 1, 4, 5, 6, 7, 8, 9, 10, 11, 12, 13, 14] rfl)
                        · refine lv_iload hx hb dL_law_199 (lv_at hl 3 rfl) ?_
                          refine lv_iconst (v := 0) hx hb dL_law_201 rfl ?_
                          refine lv_aload_n hx hb dL_law_202 rfl (lv_at hl 12 rfl) ?_
                          refine lv_iload hx hb dL_law_203 (lv_at hl 1 rfl) ?_
                          refine lv_iload hx hb dL_law_205 (lv_at hl 2 rfl) ?_
                          refine lv_iload hx hb dL_law_207 (lv_at hl 0 rfl) ?_
                          refine r_goI (r_runV (As := [.int v99, .int v44, .int v116]) (rest := [.int 0, .int v100]) E hC116 hS116 (m_X11_build l X Γ H116 hC116 h0 g0 v99 (a1 := z99) ev99 v44 (a2 := z44) ev44 v116 (a3 := v116.toInt) rfl yd ((kp_R hKp116 g0 (ci := 10) (k := 5) rfl (by decide) rfl).trans hyd) gyd sn wl su lw ic kn hd us br ar fi (yn.kp gyd hKp116 rfl) z21 (by omega) (by omega) (by omega) (by omega) (by omega) (by omega) (by omega) (by omega) (by omega) (by omega) (by omega) (by omega)) cw_X11_build cl_RL_114 g0 ⟨rfl, rfl⟩ rfl hl.1 rfl (show _ ≤ _ from by simp [Value.category]) (by decide) dL_law_209) hS116 (fun v142 H142 locs142 hr142 hC142 hS142 => ?_)
                          obtain ⟨hp142, hr142⟩ := hr142
                          have hKp142 := hKp116.tr (hp142.mono rfl)
                          have m143 : aI H142 ha (0) = aI H116 ha (0) := aI_kp hp142 gha rfl rfl
                          have m144 : aI H142 ha (1) = aI H116 ha (1) := aI_kp hp142 gha rfl rfl
                          have m145 : aI H142 ha (2) = aI H116 ha (2) := aI_kp hp142 gha rfl rfl
                          have m146 : (sI H142 yd (X.1.2 8 0)).toInt = (sI H116 yd (X.1.2 8 0)).toInt := congrArg Int32.toInt (kp_I hp142 gyd (ci := 8) (k := 0) rfl (by decide) rfl)
                          have m147 : (sI H142 yd (X.1.2 8 1)).toInt = (sI H116 yd (X.1.2 8 1)).toInt := congrArg Int32.toInt (kp_I hp142 gyd (ci := 8) (k := 1) rfl (by decide) rfl)
                          have m148 : (sI H142 yd (X.1.2 8 2)).toInt = (sI H116 yd (X.1.2 8 2)).toInt := congrArg Int32.toInt (kp_I hp142 gyd (ci := 8) (k := 2) rfl (by decide) rfl)
                          replace obr : OT H0 H142 br (-1) := obr.kp hp142 gbr rfl rfl
                          obtain ⟨f142_0, f142_1, f142_2, f142_3, f142_4, f142_5, f142_6⟩ := hr142
                          have hU0 := f142_3
                          obtain ⟨u9, hu9⟩ : ∃ z, max 0 v142.toInt = z := ⟨_, rfl⟩
                          have hin9 : inB w9 h9 z21 (z44 * 6 + z99) = true := inB_t (by omega) (by omega) (by omega)
                          have hf1 := f142_0; have hf2 := f142_1; have hf3 := f142_2; have hf4 := f142_4; have hf5 := f142_5; have hf6 := f142_6
                          rw [hu9] at hf1 hf2 hf3 hU0
                          have hm9 : mst H142 sn wl lw ar hd us w9 h9 z21 = mst H116 sn wl lw ar hd us w9 h9 z21 - u9 := mst_b hf4 hf5 hf2 hf3 hU0 (fun _ => aI_kp hp142 glw rfl rfl) (fun _ => aI_kp hp142 gar rfl rfl) (fun _ => aI_kp hp142 ghd rfl rfl) (by omega) (Int.le_trans (show u9 ≤ v116.toInt by omega) hrm3) (Int.le_trans (show u9 ≤ v116.toInt by omega) hrm2) (by omega) (by omega) (by omega) hin9 (uhd z21 (by omega) (by omega)) hb40
                          have hsm9 := SM_b hf4 hf5 hf2 hf3 (by omega) (by omega)
                          have hq3 : u9 ≤ hlf H116 hd us z21 := by omega
                          have uhd : UHD H142 us hd := uhd.set hf6 (fun _ => aI_kp hp142 ghd rfl rfl) (by have q1 := aI_kp (z := z21) hp142 ghd rfl rfl; have q2 := uhd z21 (by omega) (by omega); have q3 := hq3; unfold hlf at q3; omega)
                          refine r_mmax E hl.1 w_1042 mathw_max (a := 0) (b := v142.toInt) (show (0 : Int32).toInt = 0 from by decide) rfl (by decide) (show _ ≤ _ from by simp [Value.category]) dL_law_212 (fun v151 mv151a mv151b mv151c => ?_)
                          refine lv_iadd hx hb dL_law_215 (lv_topi (fun v152 ev152 => ?_))
                          have ev152i : v152.toInt = (z100 + v151.toInt) := i_add ev152 ev100 rfl (by omega) (by omega)
                          refine lv_istore hx hb dL_law_216 hl (by decide) rfl (fun ls hl => ?_)
                          replace hl : lv_has ls 15 [(11, .int v152), (14, .int v116), (13, .int v99), (12, .int v44), (10, .int v35), (9, .int v26), (8, .int v21), (7, .int v7), (6, .int v6), (5, .int v5), (4, .int v4), (0, .ref (sad X)), (1, .ref h0), (2, .ref mm), (3, .ref ha)] := hl
                          refine lv_goto (tgt := 247) hx hb dL_law_218 rfl ?_
                          obtain ⟨v153, ev153⟩ : ∃ z, z = v99 + Int32.ofInt 1 := ⟨_, rfl⟩
                          have ev153i : v153.toInt = (z99 + 1) := i_add ev153 ev99 (by decide) (by omega) (by omega)
                          refine lv_iinc hx hb dL_law_247 hl (k := 2) rfl ev153.symm (by decide) rfl (fun ls hl => ?_)
                          replace hl : lv_has ls 15 [(13, .int v153), (11, .int v152), (14, .int v116), (12, .int v44), (10, .int v35), (9, .int v26), (8, .int v21), (7, .int v7), (6, .int v6), (5, .int v5), (4, .int v4), (0, .ref (sad X)), (1, .ref h0), (2, .ref mm), (3, .ref ha)] := hl
                          refine lv_goto (tgt := 152) hx hb dL_law_250 rfl ?_
                          exact ih101 H142 locs142 v153 ((z99 + 1)) v152 ((z100 + v151.toInt)) ls (ms_lt hm101 (by omega) (by omega)) ev153i ev152i (by omega) (by omega) (by omega) (by omega) (by omega) (by omega) (by omega) (by omega) (by omega) (by omega) (by omega) (by omega) (by omega) hC142 hS142 hKp142 uhd obr (lv_sub hl [0, 3, 1, 4, 5, 6, 7, 8, 9, 10, 11, 12, 13, 14] rfl)
                    · refine lv_goto (tgt := 247) hx hb dL_law_174 rfl ?_
                      obtain ⟨v154, ev154⟩ : ∃ z, z = v99 + Int32.ofInt 1 := ⟨_, rfl⟩
                      have ev154i : v154.toInt = (z99 + 1) := i_add ev154 ev99 (by decide) (by omega) (by omega)
                      refine lv_iinc hx hb dL_law_247 hl (k := 0) rfl ev154.symm (by decide) rfl (fun ls hl => ?_)
                      replace hl : lv_has ls 15 [(13, .int v154), (12, .int v44), (11, .int v100), (10, .int v35), (9, .int v26), (8, .int v21), (7, .int v7), (6, .int v6), (5, .int v5), (4, .int v4), (0, .ref (sad X)), (1, .ref h0), (2, .ref mm), (3, .ref ha)] := hl
                      refine lv_goto (tgt := 152) hx hb dL_law_250 rfl ?_
                      exact ih101 H106 locs106 v154 ((z99 + 1)) v100 (z100) ls (ms_lt hm101 (by omega) (by omega)) ev154i ev100 (by omega) (by omega) (by omega) (by omega) (by omega) (by omega) (by omega) (by omega) (by omega) (by omega) (by omega) (by omega) (by omega) hC106 hS106 hKp106 uhd obr hl
              exact L152 _ H46 locs46 0 0 v45 z45 ls (Nat.lt_succ_self _) (by decide) ev45 (by omega) (by omega) (by omega) (by omega) (by omega) (by omega) (by omega) (by omega) (by omega) (by omega) (by omega) (by omega) (by omega) hC46 hS46 hKp46 uhd obr hl
        exact L141 _ H35 locs35 0 0 0 0 ls (Nat.lt_succ_self _) (by decide) (by decide) (by omega) (by omega) (by omega) (by omega) (by omega) (by omega) (by omega) (by omega) (by omega) (by omega) (by omega) (by omega) (by omega) hC35 hS35 hKp35 uhd obr hl
  exact L112 _ H0 locs0 0 0 ls (Nat.lt_succ_self _) (by decide) (by omega) (by omega) (by omega) (by omega) (by omega) (by omega) (by omega) (by omega) (by omega) (by omega) hC0 hS0 hKp0 uhd obr hl
