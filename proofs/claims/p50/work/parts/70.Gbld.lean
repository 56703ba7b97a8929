theorem hfe_w {x w W half : Int} (h : (x < w / 2 ∧ half = 0) ∨ (w / 2 ≤ x ∧ half = 1)) (e : W = w) : (x < W / 2 ∧ half = 0) ∨ (W / 2 ≤ x ∧ half = 1) := e ▸ h
theorem inB_xy {x y w h half : Int} (x0 : 0 ≤ x) (x1 : x < w) (x2 : x ≤ 5) (y0 : 0 ≤ y) (y1 : y < h) (hh : (x < w / 2 ∧ half = 0) ∨ (w / 2 ≤ x ∧ half = 1)) : inB w h half (y * 6 + x) = true := inB_t (by first | omega (config := {splitDisjunctions := false}) | (refine Int.le_antisymm ?_ ?_ <;> omega (config := {splitDisjunctions := false})) | omega) (by first | omega (config := {splitDisjunctions := false}) | (refine Int.le_antisymm ?_ ?_ <;> omega (config := {splitDisjunctions := false})) | omega) (by first | omega (config := {splitDisjunctions := false}) | (refine Int.le_antisymm ?_ ?_ <;> omega (config := {splitDisjunctions := false})) | omega)
theorem bld_u {u n L : Int} (h : (u = n ∧ n ≤ L) ∨ (u = L ∧ L ≤ n)) : u ≤ n ∧ u ≤ L := by first | omega (config := {splitDisjunctions := false}) | (refine Int.le_antisymm ?_ ?_ <;> omega (config := {splitDisjunctions := false})) | omega
theorem bld_h {u a b c d : Int} (q : u ≤ max 0 (b - a)) (h : a ≤ b) (e1 : c = a + u) (e2 : d = b) : c ≤ d := by first | omega (config := {splitDisjunctions := false}) | (refine Int.le_antisymm ?_ ?_ <;> omega (config := {splitDisjunctions := false})) | omega
theorem mx_eq {m v u : Int} (a : 0 ≤ m) (b : v ≤ m) (c : m = 0 ∨ m = v) (h : max 0 v = u) : m = u := by first | omega (config := {splitDisjunctions := false}) | (refine Int.le_antisymm ?_ ?_ <;> omega (config := {splitDisjunctions := false})) | omega
set_option maxRecDepth 100000 in
set_option maxHeartbeats 8000000 in
theorem sg_bld (l : Launch) {p : Program} {e : Env} {s : State} {m : MethodId} {args : Array Value} {below : List Frame} {meth : Method} {c : Code} {X : xW} {Γ : Nat → Option Nat} {Qz : State → Prop} (E : Ev p s m args meth c cL_law 15 "SnowFortsLaw" ret X Γ s.heap) (H0 : Heap) (hC0 : Conf X Γ H0) (locs0 : List Loc) (hS0 : va_S (AΓ Γ) s.heap H0 locs0) (h0 : Nat) (g0 : Γ h0 = some 0) (mm ha : Nat) (gmm : Γ mm = some 90) (gha : Γ ha = some 91) (yd : Nat) (hyd : sR H0 h0 (X.1.2 10 5) = some yd) (gyd : Γ yd = some 5) (sn wl su lw ic kn hd us br ar fi : Nat) (yn : YN X Γ H0 yd sn wl su lw ic kn hd us br ar fi) (wk : Nat) (hwk : sR H0 h0 (X.1.2 10 12) = some wk) (gwk : Γ wk = some 7) (pa hh wt : Nat) (wn : WN X Γ H0 wk pa hh wt) (w9 h9 s9 : Int) (qw : w9 = 2 ∨ w9 = 4) (qh : 1 ≤ h9 ∧ h9 ≤ 3) (qs : s9 = 1 ∨ s9 = 2) (qa0 : aI H0 ha 0 = w9) (qa1 : aI H0 ha 1 = h9) (qa2 : aI H0 ha 2 = s9) (qy0 : (sI H0 yd (X.1.2 8 0)).toInt = w9) (qy1 : (sI H0 yd (X.1.2 8 1)).toInt = h9) (qy2 : (sI H0 yd (X.1.2 8 2)).toInt = s9) (K9 : Int) (v7 : Int32) {z7 : Int} (ev7 : v7.toInt = z7) (v6 : Int32) {z6 : Int} (ev6 : v6.toInt = z6) (v5 : Int32) {z5 : Int} (ev5 : v5.toInt = z5) (v4 : Int32) {z4 : Int} (ev4 : v4.toInt = z4) (uhd : UHD H0 us hd) (hcs : SM H0 sn 36 + SM H0 wl 36 = K9) (hbr : s9 = 1 → aI H0 br 1 = 0) {ls : Array Slot} (hl : lv_has ls 15 [(7, .int v7), (6, .int v6), (5, .int v5), (4, .int v4), (0, .ref (sad X)), (1, .ref h0), (2, .ref mm), (3, .ref ha)]) (hk : ∀ (H1 : Heap) (locs1 : List Loc) (ls : Array Slot), Conf X Γ H1 → va_S (AΓ Γ) s.heap H1 locs1 → Kp X Γ [3, 29, 31, 32, 33, 34, 37, 39, 40, 50, 51, 52, 53, 54, 57, 58, 59, 61, 63, 65, 67, 68, 69, 70, 71] H0 H1 → (UHD H1 us hd) → (SM H1 sn 36 + SM H1 wl 36 = K9) → (s9 = 1 → aI H1 br 1 = 0) → lv_has ls 15 [(7, .int v7), (6, .int v6), (5, .int v5), (4, .int v4), (0, .ref (sad X)), (1, .ref h0), (2, .ref mm), (3, .ref ha)] → W p l e room_1 s m args below meth c H1 locs1 133 8682 Qz (F0 m 326 ls [])) : W p l e room_1 s m args below meth c H0 locs0 133 8682 Qz (F0 m 109 ls []) := by
  have hx := E.1; have hb := E.2.1
  have hKp0 : Kp X Γ [3, 29, 31, 32, 33, 34, 37, 39, 40, 50, 51, 52, 53, 54, 57, 58, 59, 61, 63, 65, 67, 68, 69, 70, 71] H0 H0 := Kp.rf
  have gsn := yn.sn.2; have gwl := yn.wl.2; have gsu := yn.su.2; have glw := yn.lw.2; have gic := yn.ic.2; have gkn := yn.kn.2; have ghd := yn.hd.2; have gus := yn.us.2; have gbr := yn.br.2; have gar := yn.ar.2; have gfi := yn.fi.2
  have gpa := wn.pa.2; have ghh := wn.hh.2; have gwt := wn.wt.2
  have qw1 : 2 ≤ w9 ∧ w9 ≤ 4 := by first | omega (config := {splitDisjunctions := false}) | (refine Int.le_antisymm ?_ ?_ <;> omega (config := {splitDisjunctions := false})) | omega
  have qs1 : 1 ≤ s9 ∧ s9 ≤ 2 := by first | omega (config := {splitDisjunctions := false}) | (refine Int.le_antisymm ?_ ?_ <;> omega (config := {splitDisjunctions := false})) | omega
  clear qw qs
  have uhd : UHD H0 us hd := uhd
  have obr : OT H0 H0 br (-1) := OT.rf
  have ta0 : aI H0 ha 0 = w9 := qa0
  have ta1 : aI H0 ha 1 = h9 := qa1
  have ta2 : aI H0 ha 2 = s9 := qa2
  have ty0 : (sI H0 yd (X.1.2 8 0)).toInt = w9 := qy0
  have ty1 : (sI H0 yd (X.1.2 8 1)).toInt = h9 := qy1
  have ty2 : (sI H0 yd (X.1.2 8 2)).toInt = s9 := qy2
  refine lv_iconst (v := 0) hx hb dL_law_109 rfl ?_
  refine lv_istore hx hb dL_law_110 hl (by decide) rfl (fun ls hl => ?_)
  replace hl : lv_has ls 15 [(8, .int 0), (7, .int v7), (6, .int v6), (5, .int v5), (4, .int v4), (0, .ref (sad X)), (1, .ref h0), (2, .ref mm), (3, .ref ha)] := hl
  have L112 : ∀ (n22 : Nat) (H22 : Heap) (locs22 : List Loc) (v21 : Int32) (z21 : Int) (ls : Array Slot), (2 - z21).toNat < n22 → v21.toInt = z21 → 0 ≤ z21 → 0 ≤ z21 → z21 ≤ s9 → SM H22 sn 36 + SM H22 wl 36 = K9 → Conf X Γ H22 → va_S (AΓ Γ) s.heap H22 locs22 → Kp X Γ [3, 29, 31, 32, 33, 34, 37, 39, 40, 50, 51, 52, 53, 54, 57, 58, 59, 61, 63, 65, 67, 68, 69, 70, 71] H0 H22 → (UHD H22 us hd) → (OT H0 H22 br (-1)) → (aI H22 ha 0 = w9) → (aI H22 ha 1 = h9) → (aI H22 ha 2 = s9) → ((sI H22 yd (X.1.2 8 0)).toInt = w9) → ((sI H22 yd (X.1.2 8 1)).toInt = h9) → ((sI H22 yd (X.1.2 8 2)).toInt = s9) → lv_has ls 15 [(8, .int v21), (7, .int v7), (6, .int v6), (5, .int v5), (4, .int v4), (0, .ref (sad X)), (1, .ref h0), (2, .ref mm), (3, .ref ha)] → W p l e room_1 s m args below meth c H22 locs22 133 8682 Qz (F0 m 112 ls []) := by
    intro n22
    induction n22 with
    | zero => intro H22 locs22 v21 z21 ls hm22 ev21 iv22_0 iv22_1 iv22_2 iv22_3 hC22 hS22 hKp22 uhd obr ta0 ta1 ta2 ty0 ty1 ty2 hl; exact absurd hm22 (Nat.not_lt_zero _)
    | succ n22 ih22 =>
      intro H22 locs22 v21 z21 ls hm22 ev21 iv22_0 iv22_1 iv22_2 iv22_3 hC22 hS22 hKp22 uhd obr ta0 ta1 ta2 ty0 ty1 ty2 hl
      refine lv_iload hx hb dL_law_112 (lv_at hl 0 rfl) ?_
      refine lv_aload_n hx hb dL_law_114 rfl (lv_at hl 8 rfl) ?_
      refine lv_iconst (v := 2) hx hb dL_law_115 rfl ?_
      refine q_iald E hC22 gha rfl rfl (rl_91_2 (show (2 : Int32).toInt = 2 from by decide) (by first | omega (config := {splitDisjunctions := false}) | (refine Int.le_antisymm ?_ ?_ <;> omega (config := {splitDisjunctions := false})) | omega) (by first | omega (config := {splitDisjunctions := false}) | (refine Int.le_antisymm ?_ ?_ <;> omega (config := {splitDisjunctions := false})) | omega)) (i_in (a := 2) (show (2 : Int32).toInt = 2 from by decide) (by first | omega (config := {splitDisjunctions := false}) | (refine Int.le_antisymm ?_ ?_ <;> omega (config := {splitDisjunctions := false})) | omega) (by first | omega (config := {splitDisjunctions := false}) | (refine Int.le_antisymm ?_ ?_ <;> omega (config := {splitDisjunctions := false})) | omega)) dL_law_116 (fun v23 ev23 lv23 uv23 => ?_)
      have m24 : aI H22 ha (2) = v23.toInt := aI_of (show (2 : Int32).toInt = 2 from by decide) ev23
      have r116 : v23.toInt = s9 := (aI_of (show (2 : Int32).toInt = 2 from by decide) ev23).symm.trans ta2
      refine q_icmp_ge hx hb (a := z21) (b := v23.toInt) ev21 rfl (tgt := 326) dL_law_117 rfl (fun c25 => ?_) (fun c25 => ?_)
      · exact hk H22 locs22 ls hC22 hS22 hKp22 (uhd) (by first | omega (config := {splitDisjunctions := false}) | (refine Int.le_antisymm ?_ ?_ <;> omega (config := {splitDisjunctions := false})) | omega) (fun q => by rw [show aI H22 br 1 = aI H0 br 1 from congrArg Int32.toInt (obr 1 (by decide))]; exact hbr q) (lv_sub hl [1, 2, 3, 4, 5, 6, 7, 8] rfl)
      · refine lv_aload_n hx hb dL_law_120 rfl (lv_at hl 6 rfl) ?_
        refine lv_iconst (v := 4) hx hb dL_law_121 rfl ?_
        refine r_goI (r_runV (As := [.int 4]) (rest := []) E hC22 hS22 (m_X11_many l X Γ H22 hC22 h0 g0 4 (a1 := 4) (by decide) yd ((kp_R hKp22 g0 (ci := 10) (k := 5) rfl (by decide) rfl).trans hyd) gyd sn wl su lw ic kn hd us br ar fi (yn.kp gyd hKp22 rfl) (by first | omega (config := {splitDisjunctions := false}) | (refine Int.le_antisymm ?_ ?_ <;> omega (config := {splitDisjunctions := false})) | omega) (by first | omega (config := {splitDisjunctions := false}) | (refine Int.le_antisymm ?_ ?_ <;> omega (config := {splitDisjunctions := false})) | omega)) cw_X11_many cl_RL_100 g0 ⟨rfl, rfl⟩ rfl hl.1 rfl (Nat.zero_le _) (by decide) dL_law_122) hS22 (fun v26 H26 locs26 hr26 hC26 hS26 => ?_)
        obtain ⟨hp26, hr26⟩ := hr26
        have hKp26 := hKp22.tr (hp26.mono rfl)
        have m27 : SM H26 sn 36 = SM H22 sn 36 := SM_kp hp26 gsn rfl rfl
        have m28 : SM H26 wl 36 = SM H22 wl 36 := SM_kp hp26 gwl rfl rfl
        replace uhd : UHD H26 us hd := uhd.kp hp26 gus ghd rfl rfl
        replace obr : OT H0 H26 br (-1) := obr.kp hp26 gbr rfl rfl
        replace ta0 : aI H26 ha 0 = w9 := (aI_kp hp26 gha rfl rfl).trans ta0
        replace ta1 : aI H26 ha 1 = h9 := (aI_kp hp26 gha rfl rfl).trans ta1
        replace ta2 : aI H26 ha 2 = s9 := (aI_kp hp26 gha rfl rfl).trans ta2
        replace ty0 : (sI H26 yd (X.1.2 8 0)).toInt = w9 := (congrArg Int32.toInt (kp_I hp26 gyd (ci := 8) (k := 0) rfl (by decide) rfl)).trans ty0
        replace ty1 : (sI H26 yd (X.1.2 8 1)).toInt = h9 := (congrArg Int32.toInt (kp_I hp26 gyd (ci := 8) (k := 1) rfl (by decide) rfl)).trans ty1
        replace ty2 : (sI H26 yd (X.1.2 8 2)).toInt = s9 := (congrArg Int32.toInt (kp_I hp26 gyd (ci := 8) (k := 2) rfl (by decide) rfl)).trans ty2
        obtain ⟨f26_0, f26_1, f26_2, f26_3, f26_4, f26_5⟩ := hr26
        have hw9 : v26.toInt = (sI H0 br 0 + sI H0 br 1).toInt := by rw [f26_0 rfl, ← kp_aI hp26 0 gbr rfl rfl, ← kp_aI hp26 1 gbr rfl rfl, obr 0 (by decide), obr 1 (by decide)]
        replace f26_0 := f26_0 rfl
        clear f26_1
        clear f26_2
        clear f26_3
        clear f26_4
        clear f26_5
        refine lv_istore hx hb dL_law_125 hl (by decide) rfl (fun ls hl => ?_)
        replace hl : lv_has ls 15 [(9, .int v26), (8, .int v21), (7, .int v7), (6, .int v6), (5, .int v5), (4, .int v4), (0, .ref (sad X)), (1, .ref h0), (2, .ref mm), (3, .ref ha)] := hl
        refine lv_aload_n hx hb dL_law_127 rfl (lv_at hl 7 rfl) ?_
        refine lv_iload hx hb dL_law_128 (lv_at hl 1 rfl) ?_
        refine r_goI (r_runV (As := [.int v21]) (rest := []) E hC26 hS26 (m_X11_most l X Γ H26 hC26 h0 g0 v21 (a1 := z21) ev21 yd ((kp_R hKp26 g0 (ci := 10) (k := 5) rfl (by decide) rfl).trans hyd) gyd sn wl su lw ic kn hd us br ar fi (yn.kp gyd hKp26 rfl) (by first | omega (config := {splitDisjunctions := false}) | (refine Int.le_antisymm ?_ ?_ <;> omega (config := {splitDisjunctions := false})) | omega) (by first | omega (config := {splitDisjunctions := false}) | (refine Int.le_antisymm ?_ ?_ <;> omega (config := {splitDisjunctions := false})) | omega) (by first | omega (config := {splitDisjunctions := false}) | (refine Int.le_antisymm ?_ ?_ <;> omega (config := {splitDisjunctions := false})) | omega)) cw_X11_most cl_RL_103 g0 ⟨rfl, rfl⟩ rfl hl.1 rfl (Nat.zero_le _) (by decide) dL_law_130) hS26 (fun v29 H29 locs29 hr29 hC29 hS29 => ?_)
        obtain ⟨hp29, hr29⟩ := hr29
        have hKp29 := hKp26.tr (hp29.mono rfl)
        have m30 : SM H29 sn 36 = SM H26 sn 36 := SM_kp hp29 gsn rfl rfl
        have m31 : SM H29 wl 36 = SM H26 wl 36 := SM_kp hp29 gwl rfl rfl
        replace uhd : UHD H29 us hd := uhd.kp hp29 gus ghd rfl rfl
        replace obr : OT H0 H29 br (-1) := obr.kp hp29 gbr rfl rfl
        replace ta0 : aI H29 ha 0 = w9 := (aI_kp hp29 gha rfl rfl).trans ta0
        replace ta1 : aI H29 ha 1 = h9 := (aI_kp hp29 gha rfl rfl).trans ta1
        replace ta2 : aI H29 ha 2 = s9 := (aI_kp hp29 gha rfl rfl).trans ta2
        replace ty0 : (sI H29 yd (X.1.2 8 0)).toInt = w9 := (congrArg Int32.toInt (kp_I hp29 gyd (ci := 8) (k := 0) rfl (by decide) rfl)).trans ty0
        replace ty1 : (sI H29 yd (X.1.2 8 1)).toInt = h9 := (congrArg Int32.toInt (kp_I hp29 gyd (ci := 8) (k := 1) rfl (by decide) rfl)).trans ty1
        replace ty2 : (sI H29 yd (X.1.2 8 2)).toInt = s9 := (congrArg Int32.toInt (kp_I hp29 gyd (ci := 8) (k := 2) rfl (by decide) rfl)).trans ty2
        obtain ⟨f29_0, f29_1, f29_2⟩ := hr29
        have hmo : v29.toInt = mst H29 sn wl lw ar hd us w9 h9 z21 := by rw [mst_kp hp29 gsn gwl glw gar ghd gus rfl rfl rfl rfl rfl rfl, f29_0, show (sI H26 yd (X.1.2 8 0)).toInt = w9 from (congrArg Int32.toInt (kp_I hp29 gyd (ci := 8) (k := 0) rfl (by decide) rfl)).symm.trans ty0, show (sI H26 yd (X.1.2 8 1)).toInt = h9 from (congrArg Int32.toInt (kp_I hp29 gyd (ci := 8) (k := 1) rfl (by decide) rfl)).symm.trans ty1]
        have hz8 : z21 + 1 ≤ s9 := by first | omega (config := {splitDisjunctions := false}) | (refine Int.le_antisymm ?_ ?_ <;> omega (config := {splitDisjunctions := false})) | omega
        have hm40 : v29.toInt ≤ 40 ∧ 0 ≤ v29.toInt := by first | omega (config := {splitDisjunctions := false}) | (refine Int.le_antisymm ?_ ?_ <;> omega (config := {splitDisjunctions := false})) | omega
        refine lv_istore hx hb dL_law_133 hl (by decide) rfl (fun ls hl => ?_)
        replace hl : lv_has ls 15 [(10, .int v29), (9, .int v26), (8, .int v21), (7, .int v7), (6, .int v6), (5, .int v5), (4, .int v4), (0, .ref (sad X)), (1, .ref h0), (2, .ref mm), (3, .ref ha)] := hl
        refine lv_iconst (v := 0) hx hb dL_law_135 rfl ?_
        refine lv_istore hx hb dL_law_136 hl (by decide) rfl (fun ls hl => ?_)
        replace hl : lv_has ls 15 [(11, .int 0), (10, .int v29), (9, .int v26), (8, .int v21), (7, .int v7), (6, .int v6), (5, .int v5), (4, .int v4), (0, .ref (sad X)), (1, .ref h0), (2, .ref mm), (3, .ref ha)] := hl
        refine lv_iconst (v := 0) hx hb dL_law_138 rfl ?_
        refine lv_istore hx hb dL_law_139 hl (by decide) rfl (fun ls hl => ?_)
        replace hl : lv_has ls 15 [(12, .int 0), (11, .int 0), (10, .int v29), (9, .int v26), (8, .int v21), (7, .int v7), (6, .int v6), (5, .int v5), (4, .int v4), (0, .ref (sad X)), (1, .ref h0), (2, .ref mm), (3, .ref ha)] := hl
        have L141 : ∀ (n34 : Nat) (H34 : Heap) (locs34 : List Loc) (v32 : Int32) (z32 : Int) (v33 : Int32) (z33 : Int) (ls : Array Slot), (3 - z32).toNat < n34 → v32.toInt = z32 → v33.toInt = z33 → 0 ≤ z32 → z33 + mst H34 sn wl lw ar hd us w9 h9 z21 = v29.toInt → 0 ≤ z33 → z33 ≤ 40 → SM H34 sn 36 + SM H34 wl 36 = K9 → 0 ≤ z32 → z32 ≤ h9 → Conf X Γ H34 → va_S (AΓ Γ) s.heap H34 locs34 → Kp X Γ [3, 29, 31, 32, 33, 34, 37, 39, 40, 50, 51, 52, 53, 54, 57, 58, 59, 61, 63, 65, 67, 68, 69, 70, 71] H0 H34 → (UHD H34 us hd) → (OT H0 H34 br (-1)) → (aI H34 ha 0 = w9) → (aI H34 ha 1 = h9) → (aI H34 ha 2 = s9) → ((sI H34 yd (X.1.2 8 0)).toInt = w9) → ((sI H34 yd (X.1.2 8 1)).toInt = h9) → ((sI H34 yd (X.1.2 8 2)).toInt = s9) → lv_has ls 15 [(12, .int v32), (11, .int v33), (10, .int v29), (9, .int v26), (8, .int v21), (7, .int v7), (6, .int v6), (5, .int v5), (4, .int v4), (0, .ref (sad X)), (1, .ref h0), (2, .ref mm), (3, .ref ha)] → W p l e room_1 s m args below meth c H34 locs34 133 8682 Qz (F0 m 141 ls []) := by
          intro n34
          induction n34 with
          | zero => intro H34 locs34 v32 z32 v33 z33 ls hm34 ev32 ev33 iv34_0 iv34_1 iv34_2 iv34_3 iv34_4 iv34_5 iv34_6 hC34 hS34 hKp34 uhd obr ta0 ta1 ta2 ty0 ty1 ty2 hl; exact absurd hm34 (Nat.not_lt_zero _)
          | succ n34 ih34 =>
            intro H34 locs34 v32 z32 v33 z33 ls hm34 ev32 ev33 iv34_0 iv34_1 iv34_2 iv34_3 iv34_4 iv34_5 iv34_6 hC34 hS34 hKp34 uhd obr ta0 ta1 ta2 ty0 ty1 ty2 hl
            clear m24 m27 m28 f26_0 m30 m31 f29_2 f29_1 f29_0
            refine lv_iload hx hb dL_law_141 (lv_at hl 0 rfl) ?_
            refine lv_aload_n hx hb dL_law_143 rfl (lv_at hl 12 rfl) ?_
            refine lv_iconst (v := 1) hx hb dL_law_144 rfl ?_
            refine q_iald E hC34 gha rfl rfl (rl_91_1 (show (1 : Int32).toInt = 1 from by decide) (by first | omega (config := {splitDisjunctions := false}) | (refine Int.le_antisymm ?_ ?_ <;> omega (config := {splitDisjunctions := false})) | omega) (by first | omega (config := {splitDisjunctions := false}) | (refine Int.le_antisymm ?_ ?_ <;> omega (config := {splitDisjunctions := false})) | omega)) (i_in (a := 1) (show (1 : Int32).toInt = 1 from by decide) (by first | omega (config := {splitDisjunctions := false}) | (refine Int.le_antisymm ?_ ?_ <;> omega (config := {splitDisjunctions := false})) | omega) (by first | omega (config := {splitDisjunctions := false}) | (refine Int.le_antisymm ?_ ?_ <;> omega (config := {splitDisjunctions := false})) | omega)) dL_law_145 (fun v35 ev35 lv35 uv35 => ?_)
            have m36 : aI H34 ha (1) = v35.toInt := aI_of (show (1 : Int32).toInt = 1 from by decide) ev35
            have r145 : v35.toInt = h9 := (aI_of (show (1 : Int32).toInt = 1 from by decide) ev35).symm.trans ta1
            refine q_icmp_ge hx hb (a := z32) (b := v35.toInt) ev32 rfl (tgt := 259) dL_law_146 rfl (fun c37 => ?_) (fun c37 => ?_)
            · have hmn : 0 ≤ mst H34 sn wl lw ar hd us w9 h9 z21 := mst_nn hC34 gsn
              obtain ⟨q8, hq8⟩ : ∃ z, mst H34 sn wl lw ar hd us w9 h9 z21 = z := ⟨_, rfl⟩
              have mr : mst H34 sn wl lw ar hd us w9 h9 z21 = q8 := hq8
              refine lv_aload_n hx hb dL_law_259 rfl (lv_at hl 10 rfl) ?_
              refine lv_iconst (v := 4) hx hb dL_law_260 rfl ?_
              refine r_goI (r_runV (As := [.int 4]) (rest := []) E hC34 hS34 (m_X11_many l X Γ H34 hC34 h0 g0 4 (a1 := 4) (by decide) yd ((kp_R hKp34 g0 (ci := 10) (k := 5) rfl (by decide) rfl).trans hyd) gyd sn wl su lw ic kn hd us br ar fi (yn.kp gyd hKp34 rfl) (by first | omega (config := {splitDisjunctions := false}) | (refine Int.le_antisymm ?_ ?_ <;> omega (config := {splitDisjunctions := false})) | omega) (by first | omega (config := {splitDisjunctions := false}) | (refine Int.le_antisymm ?_ ?_ <;> omega (config := {splitDisjunctions := false})) | omega)) cw_X11_many cl_RL_100 g0 ⟨rfl, rfl⟩ rfl hl.1 rfl (Nat.zero_le _) (by decide) dL_law_261) hS34 (fun v38 H38 locs38 hr38 hC38 hS38 => ?_)
              obtain ⟨hp38, hr38⟩ := hr38
              have hKp38 := hKp34.tr (hp38.mono rfl)
              have m39 : SM H38 sn 36 = SM H34 sn 36 := SM_kp hp38 gsn rfl rfl
              have m40 : SM H38 wl 36 = SM H34 wl 36 := SM_kp hp38 gwl rfl rfl
              replace uhd : UHD H38 us hd := uhd.kp hp38 gus ghd rfl rfl
              replace obr : OT H0 H38 br (-1) := obr.kp hp38 gbr rfl rfl
              replace ta0 : aI H38 ha 0 = w9 := (aI_kp hp38 gha rfl rfl).trans ta0
              replace ta1 : aI H38 ha 1 = h9 := (aI_kp hp38 gha rfl rfl).trans ta1
              replace ta2 : aI H38 ha 2 = s9 := (aI_kp hp38 gha rfl rfl).trans ta2
              replace ty0 : (sI H38 yd (X.1.2 8 0)).toInt = w9 := (congrArg Int32.toInt (kp_I hp38 gyd (ci := 8) (k := 0) rfl (by decide) rfl)).trans ty0
              replace ty1 : (sI H38 yd (X.1.2 8 1)).toInt = h9 := (congrArg Int32.toInt (kp_I hp38 gyd (ci := 8) (k := 1) rfl (by decide) rfl)).trans ty1
              replace ty2 : (sI H38 yd (X.1.2 8 2)).toInt = s9 := (congrArg Int32.toInt (kp_I hp38 gyd (ci := 8) (k := 2) rfl (by decide) rfl)).trans ty2
              replace mr : mst H38 sn wl lw ar hd us w9 h9 z21 = q8 := (mst_kp hp38 gsn gwl glw gar ghd gus rfl rfl rfl rfl rfl rfl).trans mr
              obtain ⟨f38_0, f38_1, f38_2, f38_3, f38_4, f38_5⟩ := hr38
              have hw8 : v38.toInt = (sI H0 br 0 + sI H0 br 1).toInt := by rw [f38_0 rfl, ← kp_aI hp38 0 gbr rfl rfl, ← kp_aI hp38 1 gbr rfl rfl, obr 0 (by decide), obr 1 (by decide)]
              replace f38_0 := f38_0 rfl
              clear f38_1
              clear f38_2
              clear f38_3
              clear f38_4
              clear f38_5
              refine lv_iload hx hb dL_law_264 (lv_at hl 3 rfl) ?_
              have c41 := i_rng v38; rw [show v38.toInt = v38.toInt from rfl] at c41
              have c42 := i_rng v26; rw [show v26.toInt = v26.toInt from rfl] at c42
              refine q_icmp_ne hx hb (a := v38.toInt) (b := v26.toInt) rfl rfl (tgt := 293) dL_law_266 rfl (fun c43 => ?_) (fun c43 => ?_)
              · (exfalso; omega)
              · refine lv_iload hx hb dL_law_269 (lv_at hl 1 rfl) ?_
                refine lv_iload hx hb dL_law_271 (lv_at hl 2 rfl) ?_
                refine q_icmp_gt hx hb (a := z33) (b := v29.toInt) ev33 rfl (tgt := 293) dL_law_273 rfl (fun c44 => ?_) (fun c44 => ?_)
                · (exfalso; omega)
                · refine lv_aload_n hx hb dL_law_276 rfl (lv_at hl 10 rfl) ?_
                  refine lv_iload hx hb dL_law_277 (lv_at hl 4 rfl) ?_
                  refine lv_iconst (v := 1) hx hb dL_law_279 rfl ?_
                  refine r_goI (r_runV (As := [.int v21, .int 1]) (rest := []) E hC38 hS38 (m_X11_school l X Γ H38 hC38 h0 g0 v21 (a1 := z21) ev21 1 (a2 := 1) (by decide) yd ((kp_R hKp38 g0 (ci := 10) (k := 5) rfl (by decide) rfl).trans hyd) gyd sn wl su lw ic kn hd us br ar fi (yn.kp gyd hKp38 rfl) (by first | omega (config := {splitDisjunctions := false}) | (refine Int.le_antisymm ?_ ?_ <;> omega (config := {splitDisjunctions := false})) | omega) (by first | omega (config := {splitDisjunctions := false}) | (refine Int.le_antisymm ?_ ?_ <;> omega (config := {splitDisjunctions := false})) | omega) (by first | omega (config := {splitDisjunctions := false}) | (refine Int.le_antisymm ?_ ?_ <;> omega (config := {splitDisjunctions := false})) | omega) (by first | omega (config := {splitDisjunctions := false}) | (refine Int.le_antisymm ?_ ?_ <;> omega (config := {splitDisjunctions := false})) | omega) (by first | omega (config := {splitDisjunctions := false}) | (refine Int.le_antisymm ?_ ?_ <;> omega (config := {splitDisjunctions := false})) | omega)) cw_X11_school cl_RL_122 g0 ⟨rfl, rfl⟩ rfl hl.1 rfl (Nat.zero_le _) (by decide) dL_law_280) hS38 (fun v45 H45 locs45 hr45 hC45 hS45 => ?_)
                  obtain ⟨hp45, hr45⟩ := hr45
                  have hKp45 := hKp38.tr (hp45.mono rfl)
                  have m46 : SM H45 sn 36 = SM H38 sn 36 := SM_kp hp45 gsn rfl rfl
                  have m47 : SM H45 wl 36 = SM H38 wl 36 := SM_kp hp45 gwl rfl rfl
                  replace uhd : UHD H45 us hd := uhd.kp hp45 gus ghd rfl rfl
                  replace obr : OT H0 H45 br (-1) := obr.kp hp45 gbr rfl rfl
                  replace ta0 : aI H45 ha 0 = w9 := (aI_kp hp45 gha rfl rfl).trans ta0
                  replace ta1 : aI H45 ha 1 = h9 := (aI_kp hp45 gha rfl rfl).trans ta1
                  replace ta2 : aI H45 ha 2 = s9 := (aI_kp hp45 gha rfl rfl).trans ta2
                  replace ty0 : (sI H45 yd (X.1.2 8 0)).toInt = w9 := (congrArg Int32.toInt (kp_I hp45 gyd (ci := 8) (k := 0) rfl (by decide) rfl)).trans ty0
                  replace ty1 : (sI H45 yd (X.1.2 8 1)).toInt = h9 := (congrArg Int32.toInt (kp_I hp45 gyd (ci := 8) (k := 1) rfl (by decide) rfl)).trans ty1
                  replace ty2 : (sI H45 yd (X.1.2 8 2)).toInt = s9 := (congrArg Int32.toInt (kp_I hp45 gyd (ci := 8) (k := 2) rfl (by decide) rfl)).trans ty2
                  replace mr : mst H45 sn wl lw ar hd us w9 h9 z21 = q8 := (mst_kp hp45 gsn gwl glw gar ghd gus rfl rfl rfl rfl rfl rfl).trans mr
                  obtain ⟨f45_0, f45_1, f45_2, f45_3⟩ := hr45
                  have hs1 : v45.toInt = aI H45 us z21 := by rw [aI_kp hp45 gus rfl rfl]; exact f45_1 rfl
                  clear f45_0
                  replace f45_1 := f45_1 rfl
                  clear f45_2
                  clear f45_3
                  refine lv_aload_n hx hb dL_law_283 rfl (lv_at hl 10 rfl) ?_
                  refine lv_iload hx hb dL_law_284 (lv_at hl 4 rfl) ?_
                  refine lv_iconst (v := 0) hx hb dL_law_286 rfl ?_
                  refine r_goI (r_runV (As := [.int v21, .int 0]) (rest := [.int v45]) E hC45 hS45 (m_X11_school l X Γ H45 hC45 h0 g0 v21 (a1 := z21) ev21 0 (a2 := 0) (by decide) yd ((kp_R hKp45 g0 (ci := 10) (k := 5) rfl (by decide) rfl).trans hyd) gyd sn wl su lw ic kn hd us br ar fi (yn.kp gyd hKp45 rfl) (by first | omega (config := {splitDisjunctions := false}) | (refine Int.le_antisymm ?_ ?_ <;> omega (config := {splitDisjunctions := false})) | omega) (by first | omega (config := {splitDisjunctions := false}) | (refine Int.le_antisymm ?_ ?_ <;> omega (config := {splitDisjunctions := false})) | omega) (by first | omega (config := {splitDisjunctions := false}) | (refine Int.le_antisymm ?_ ?_ <;> omega (config := {splitDisjunctions := false})) | omega) (by first | omega (config := {splitDisjunctions := false}) | (refine Int.le_antisymm ?_ ?_ <;> omega (config := {splitDisjunctions := false})) | omega) (by first | omega (config := {splitDisjunctions := false}) | (refine Int.le_antisymm ?_ ?_ <;> omega (config := {splitDisjunctions := false})) | omega)) cw_X11_school cl_RL_122 g0 ⟨rfl, rfl⟩ rfl hl.1 rfl (show _ ≤ _ from by simp [Value.category]) (by decide) dL_law_287) hS45 (fun v48 H48 locs48 hr48 hC48 hS48 => ?_)
                  obtain ⟨hp48, hr48⟩ := hr48
                  have hKp48 := hKp45.tr (hp48.mono rfl)
                  have m49 : SM H48 sn 36 = SM H45 sn 36 := SM_kp hp48 gsn rfl rfl
                  have m50 : SM H48 wl 36 = SM H45 wl 36 := SM_kp hp48 gwl rfl rfl
                  replace uhd : UHD H48 us hd := uhd.kp hp48 gus ghd rfl rfl
                  replace obr : OT H0 H48 br (-1) := obr.kp hp48 gbr rfl rfl
                  replace ta0 : aI H48 ha 0 = w9 := (aI_kp hp48 gha rfl rfl).trans ta0
                  replace ta1 : aI H48 ha 1 = h9 := (aI_kp hp48 gha rfl rfl).trans ta1
                  replace ta2 : aI H48 ha 2 = s9 := (aI_kp hp48 gha rfl rfl).trans ta2
                  replace ty0 : (sI H48 yd (X.1.2 8 0)).toInt = w9 := (congrArg Int32.toInt (kp_I hp48 gyd (ci := 8) (k := 0) rfl (by decide) rfl)).trans ty0
                  replace ty1 : (sI H48 yd (X.1.2 8 1)).toInt = h9 := (congrArg Int32.toInt (kp_I hp48 gyd (ci := 8) (k := 1) rfl (by decide) rfl)).trans ty1
                  replace ty2 : (sI H48 yd (X.1.2 8 2)).toInt = s9 := (congrArg Int32.toInt (kp_I hp48 gyd (ci := 8) (k := 2) rfl (by decide) rfl)).trans ty2
                  replace mr : mst H48 sn wl lw ar hd us w9 h9 z21 = q8 := (mst_kp hp48 gsn gwl glw gar ghd gus rfl rfl rfl rfl rfl rfl).trans mr
                  obtain ⟨f48_0, f48_1, f48_2, f48_3⟩ := hr48
                  have hs0 : v48.toInt = aI H48 hd z21 := by rw [aI_kp hp48 ghd rfl rfl]; exact f48_0 rfl
                  have hs2 := aI_kp (z := z21) hp48 gus rfl rfl
                  have hs3 := uhd z21 (by first | omega (config := {splitDisjunctions := false}) | (refine Int.le_antisymm ?_ ?_ <;> omega (config := {splitDisjunctions := false})) | omega) (by first | omega (config := {splitDisjunctions := false}) | (refine Int.le_antisymm ?_ ?_ <;> omega (config := {splitDisjunctions := false})) | omega)
                  replace f48_0 := f48_0 rfl
                  clear f48_1
                  clear f48_2
                  clear f48_3
                  have c51 := i_rng v45; rw [show v45.toInt = v45.toInt from rfl] at c51
                  have c52 := i_rng v48; rw [show v48.toInt = v48.toInt from rfl] at c52
                  refine q_icmp_le hx hb (a := v45.toInt) (b := v48.toInt) rfl rfl (tgt := 295) dL_law_290 rfl (fun c53 => ?_) (fun c53 => ?_)
                  · refine lv_iload hx hb dL_law_295 (lv_at hl 2 rfl) ?_
                    refine lv_bipush (v := 40) hx hb dL_law_297 rfl ?_
                    refine q_icmp_ge hx hb (a := v29.toInt) (b := 40) rfl (by decide) (tgt := 320) dL_law_299 rfl (fun c54 => ?_) (fun c54 => ?_)
                    · obtain ⟨v55, ev55⟩ : ∃ z, z = v21 + Int32.ofInt 1 := ⟨_, rfl⟩
                      have ev55i : v55.toInt = (z21 + 1) := i_add ev55 ev21 (by decide) (by first | omega (config := {splitDisjunctions := false}) | (refine Int.le_antisymm ?_ ?_ <;> omega (config := {splitDisjunctions := false})) | omega) (by first | omega (config := {splitDisjunctions := false}) | (refine Int.le_antisymm ?_ ?_ <;> omega (config := {splitDisjunctions := false})) | omega)
                      refine lv_iinc hx hb dL_law_320 hl (k := 4) rfl ev55.symm (by decide) rfl (fun ls hl => ?_)
                      replace hl : lv_has ls 15 [(8, .int v55), (12, .int v32), (11, .int v33), (10, .int v29), (9, .int v26), (7, .int v7), (6, .int v6), (5, .int v5), (4, .int v4), (0, .ref (sad X)), (1, .ref h0), (2, .ref mm), (3, .ref ha)] := hl
                      refine lv_goto (tgt := 112) hx hb dL_law_323 rfl ?_
                      exact ih22 H48 locs48 v55 ((z21 + 1)) ls (ms_lt hm22 (by first | omega (config := {splitDisjunctions := false}) | (refine Int.le_antisymm ?_ ?_ <;> omega (config := {splitDisjunctions := false})) | omega) (by first | omega (config := {splitDisjunctions := false}) | (refine Int.le_antisymm ?_ ?_ <;> omega (config := {splitDisjunctions := false})) | omega)) ev55i (by first | omega (config := {splitDisjunctions := false}) | (refine Int.le_antisymm ?_ ?_ <;> omega (config := {splitDisjunctions := false})) | omega) (by first | omega (config := {splitDisjunctions := false}) | (refine Int.le_antisymm ?_ ?_ <;> omega (config := {splitDisjunctions := false})) | omega) (by first | omega (config := {splitDisjunctions := false}) | (refine Int.le_antisymm ?_ ?_ <;> omega (config := {splitDisjunctions := false})) | omega) (by first | omega (config := {splitDisjunctions := false}) | (refine Int.le_antisymm ?_ ?_ <;> omega (config := {splitDisjunctions := false})) | omega) hC48 hS48 hKp48 uhd obr ta0 ta1 ta2 ty0 ty1 ty2 (lv_sub hl [0, 5, 6, 7, 8, 9, 10, 11, 12] rfl)
                    · refine lv_iload hx hb dL_law_302 (lv_at hl 1 rfl) ?_
                      refine lv_iload hx hb dL_law_304 (lv_at hl 2 rfl) ?_
                      refine q_icmp_eq hx hb (a := z33) (b := v29.toInt) ev33 rfl (tgt := 320) dL_law_306 rfl (fun c56 => ?_) (fun c56 => ?_)
                      · obtain ⟨v57, ev57⟩ : ∃ z, z = v21 + Int32.ofInt 1 := ⟨_, rfl⟩
                        have ev57i : v57.toInt = (z21 + 1) := i_add ev57 ev21 (by decide) (by first | omega (config := {splitDisjunctions := false}) | (refine Int.le_antisymm ?_ ?_ <;> omega (config := {splitDisjunctions := false})) | omega) (by first | omega (config := {splitDisjunctions := false}) | (refine Int.le_antisymm ?_ ?_ <;> omega (config := {splitDisjunctions := false})) | omega)
                        refine lv_iinc hx hb dL_law_320 hl (k := 4) rfl ev57.symm (by decide) rfl (fun ls hl => ?_)
                        replace hl : lv_has ls 15 [(8, .int v57), (12, .int v32), (11, .int v33), (10, .int v29), (9, .int v26), (7, .int v7), (6, .int v6), (5, .int v5), (4, .int v4), (0, .ref (sad X)), (1, .ref h0), (2, .ref mm), (3, .ref ha)] := hl
                        refine lv_goto (tgt := 112) hx hb dL_law_323 rfl ?_
                        exact ih22 H48 locs48 v57 ((z21 + 1)) ls (ms_lt hm22 (by first | omega (config := {splitDisjunctions := false}) | (refine Int.le_antisymm ?_ ?_ <;> omega (config := {splitDisjunctions := false})) | omega) (by first | omega (config := {splitDisjunctions := false}) | (refine Int.le_antisymm ?_ ?_ <;> omega (config := {splitDisjunctions := false})) | omega)) ev57i (by first | omega (config := {splitDisjunctions := false}) | (refine Int.le_antisymm ?_ ?_ <;> omega (config := {splitDisjunctions := false})) | omega) (by first | omega (config := {splitDisjunctions := false}) | (refine Int.le_antisymm ?_ ?_ <;> omega (config := {splitDisjunctions := false})) | omega) (by first | omega (config := {splitDisjunctions := false}) | (refine Int.le_antisymm ?_ ?_ <;> omega (config := {splitDisjunctions := false})) | omega) (by first | omega (config := {splitDisjunctions := false}) | (refine Int.le_antisymm ?_ ?_ <;> omega (config := {splitDisjunctions := false})) | omega) hC48 hS48 hKp48 uhd obr ta0 ta1 ta2 ty0 ty1 ty2 (lv_sub hl [0, 5, 6, 7, 8, 9, 10, 11, 12] rfl)
                      · refine lv_aload_n hx hb dL_law_309 rfl (lv_at hl 10 rfl) ?_
                        refine lv_iload hx hb dL_law_310 (lv_at hl 4 rfl) ?_
                        refine r_goI (r_runV (As := [.int v21]) (rest := []) E hC48 hS48 (m_X11_most l X Γ H48 hC48 h0 g0 v21 (a1 := z21) ev21 yd ((kp_R hKp48 g0 (ci := 10) (k := 5) rfl (by decide) rfl).trans hyd) gyd sn wl su lw ic kn hd us br ar fi (yn.kp gyd hKp48 rfl) (by first | omega (config := {splitDisjunctions := false}) | (refine Int.le_antisymm ?_ ?_ <;> omega (config := {splitDisjunctions := false})) | omega) (by first | omega (config := {splitDisjunctions := false}) | (refine Int.le_antisymm ?_ ?_ <;> omega (config := {splitDisjunctions := false})) | omega) (by first | omega (config := {splitDisjunctions := false}) | (refine Int.le_antisymm ?_ ?_ <;> omega (config := {splitDisjunctions := false})) | omega)) cw_X11_most cl_RL_103 g0 ⟨rfl, rfl⟩ rfl hl.1 rfl (Nat.zero_le _) (by decide) dL_law_312) hS48 (fun v58 H58 locs58 hr58 hC58 hS58 => ?_)
                        obtain ⟨hp58, hr58⟩ := hr58
                        have hKp58 := hKp48.tr (hp58.mono rfl)
                        have m59 : SM H58 sn 36 = SM H48 sn 36 := SM_kp hp58 gsn rfl rfl
                        have m60 : SM H58 wl 36 = SM H48 wl 36 := SM_kp hp58 gwl rfl rfl
                        replace uhd : UHD H58 us hd := uhd.kp hp58 gus ghd rfl rfl
                        replace obr : OT H0 H58 br (-1) := obr.kp hp58 gbr rfl rfl
                        replace ta0 : aI H58 ha 0 = w9 := (aI_kp hp58 gha rfl rfl).trans ta0
                        replace ta1 : aI H58 ha 1 = h9 := (aI_kp hp58 gha rfl rfl).trans ta1
                        replace ta2 : aI H58 ha 2 = s9 := (aI_kp hp58 gha rfl rfl).trans ta2
                        replace ty0 : (sI H58 yd (X.1.2 8 0)).toInt = w9 := (congrArg Int32.toInt (kp_I hp58 gyd (ci := 8) (k := 0) rfl (by decide) rfl)).trans ty0
                        replace ty1 : (sI H58 yd (X.1.2 8 1)).toInt = h9 := (congrArg Int32.toInt (kp_I hp58 gyd (ci := 8) (k := 1) rfl (by decide) rfl)).trans ty1
                        replace ty2 : (sI H58 yd (X.1.2 8 2)).toInt = s9 := (congrArg Int32.toInt (kp_I hp58 gyd (ci := 8) (k := 2) rfl (by decide) rfl)).trans ty2
                        replace mr : mst H58 sn wl lw ar hd us w9 h9 z21 = q8 := (mst_kp hp58 gsn gwl glw gar ghd gus rfl rfl rfl rfl rfl rfl).trans mr
                        obtain ⟨f58_0, f58_1, f58_2⟩ := hr58
                        have hmp : v58.toInt = mst H58 sn wl lw ar hd us w9 h9 z21 := by rw [mst_kp hp58 gsn gwl glw gar ghd gus rfl rfl rfl rfl rfl rfl, f58_0, show (sI H48 yd (X.1.2 8 0)).toInt = w9 from (congrArg Int32.toInt (kp_I hp58 gyd (ci := 8) (k := 0) rfl (by decide) rfl)).symm.trans ty0, show (sI H48 yd (X.1.2 8 1)).toInt = h9 from (congrArg Int32.toInt (kp_I hp58 gyd (ci := 8) (k := 1) rfl (by decide) rfl)).symm.trans ty1]
                        refine q_if_ne hx hb (a := v58.toInt) rfl (tgt := 320) dL_law_315 rfl (fun c61 => ?_) (fun c61 => ?_)
                        · obtain ⟨v62, ev62⟩ : ∃ z, z = v21 + Int32.ofInt 1 := ⟨_, rfl⟩
                          have ev62i : v62.toInt = (z21 + 1) := i_add ev62 ev21 (by decide) (by first | omega (config := {splitDisjunctions := false}) | (refine Int.le_antisymm ?_ ?_ <;> omega (config := {splitDisjunctions := false})) | omega) (by first | omega (config := {splitDisjunctions := false}) | (refine Int.le_antisymm ?_ ?_ <;> omega (config := {splitDisjunctions := false})) | omega)
                          refine lv_iinc hx hb dL_law_320 hl (k := 4) rfl ev62.symm (by decide) rfl (fun ls hl => ?_)
                          replace hl : lv_has ls 15 [(8, .int v62), (12, .int v32), (11, .int v33), (10, .int v29), (9, .int v26), (7, .int v7), (6, .int v6), (5, .int v5), (4, .int v4), (0, .ref (sad X)), (1, .ref h0), (2, .ref mm), (3, .ref ha)] := hl
                          refine lv_goto (tgt := 112) hx hb dL_law_323 rfl ?_
                          exact ih22 H58 locs58 v62 ((z21 + 1)) ls (ms_lt hm22 (by first | omega (config := {splitDisjunctions := false}) | (refine Int.le_antisymm ?_ ?_ <;> omega (config := {splitDisjunctions := false})) | omega) (by first | omega (config := {splitDisjunctions := false}) | (refine Int.le_antisymm ?_ ?_ <;> omega (config := {splitDisjunctions := false})) | omega)) ev62i (by first | omega (config := {splitDisjunctions := false}) | (refine Int.le_antisymm ?_ ?_ <;> omega (config := {splitDisjunctions := false})) | omega) (by first | omega (config := {splitDisjunctions := false}) | (refine Int.le_antisymm ?_ ?_ <;> omega (config := {splitDisjunctions := false})) | omega) (by first | omega (config := {splitDisjunctions := false}) | (refine Int.le_antisymm ?_ ?_ <;> omega (config := {splitDisjunctions := false})) | omega) (by first | omega (config := {splitDisjunctions := false}) | (refine Int.le_antisymm ?_ ?_ <;> omega (config := {splitDisjunctions := false})) | omega) hC58 hS58 hKp58 uhd obr ta0 ta1 ta2 ty0 ty1 ty2 (lv_sub hl [0, 5, 6, 7, 8, 9, 10, 11, 12] rfl)
                        · (exfalso; omega)
                  · (exfalso; omega)
            · have hy9 : z32 + 1 ≤ h9 := by first | omega (config := {splitDisjunctions := false}) | (refine Int.le_antisymm ?_ ?_ <;> omega (config := {splitDisjunctions := false})) | omega
              refine lv_iconst (v := 0) hx hb dL_law_149 rfl ?_
              refine lv_istore hx hb dL_law_150 hl (by decide) rfl (fun ls hl => ?_)
              replace hl : lv_has ls 15 [(13, .int 0), (12, .int v32), (11, .int v33), (10, .int v29), (9, .int v26), (8, .int v21), (7, .int v7), (6, .int v6), (5, .int v5), (4, .int v4), (0, .ref (sad X)), (1, .ref h0), (2, .ref mm), (3, .ref ha)] := hl
              have L152 : ∀ (n65 : Nat) (H65 : Heap) (locs65 : List Loc) (v63 : Int32) (z63 : Int) (v64 : Int32) (z64 : Int) (ls : Array Slot), (4 - z63).toNat < n65 → v63.toInt = z63 → v64.toInt = z64 → 0 ≤ z63 → z64 + mst H65 sn wl lw ar hd us w9 h9 z21 = v29.toInt → 0 ≤ z64 → z64 ≤ 40 → SM H65 sn 36 + SM H65 wl 36 = K9 → 0 ≤ z63 → z63 ≤ w9 → Conf X Γ H65 → va_S (AΓ Γ) s.heap H65 locs65 → Kp X Γ [3, 29, 31, 32, 33, 34, 37, 39, 40, 50, 51, 52, 53, 54, 57, 58, 59, 61, 63, 65, 67, 68, 69, 70, 71] H0 H65 → (UHD H65 us hd) → (OT H0 H65 br (-1)) → (aI H65 ha 0 = w9) → (aI H65 ha 1 = h9) → (aI H65 ha 2 = s9) → ((sI H65 yd (X.1.2 8 0)).toInt = w9) → ((sI H65 yd (X.1.2 8 1)).toInt = h9) → ((sI H65 yd (X.1.2 8 2)).toInt = s9) → lv_has ls 15 [(13, .int v63), (12, .int v32), (11, .int v64), (10, .int v29), (9, .int v26), (8, .int v21), (7, .int v7), (6, .int v6), (5, .int v5), (4, .int v4), (0, .ref (sad X)), (1, .ref h0), (2, .ref mm), (3, .ref ha)] → W p l e room_1 s m args below meth c H65 locs65 133 8682 Qz (F0 m 152 ls []) := by
                intro n65
                induction n65 with
                | zero => intro H65 locs65 v63 z63 v64 z64 ls hm65 ev63 ev64 iv65_0 iv65_1 iv65_2 iv65_3 iv65_4 iv65_5 iv65_6 hC65 hS65 hKp65 uhd obr ta0 ta1 ta2 ty0 ty1 ty2 hl; exact absurd hm65 (Nat.not_lt_zero _)
                | succ n65 ih65 =>
                  intro H65 locs65 v63 z63 v64 z64 ls hm65 ev63 ev64 iv65_0 iv65_1 iv65_2 iv65_3 iv65_4 iv65_5 iv65_6 hC65 hS65 hKp65 uhd obr ta0 ta1 ta2 ty0 ty1 ty2 hl
                  clear m36
                  obtain ⟨q9, hq9⟩ : ∃ z, mst H65 sn wl lw ar hd us w9 h9 z21 = z := ⟨_, rfl⟩
                  have mq : mst H65 sn wl lw ar hd us w9 h9 z21 = q9 := hq9
                  refine lv_iload hx hb dL_law_152 (lv_at hl 0 rfl) ?_
                  refine lv_aload_n hx hb dL_law_154 rfl (lv_at hl 13 rfl) ?_
                  refine lv_iconst (v := 0) hx hb dL_law_155 rfl ?_
                  refine q_iald E hC65 gha rfl rfl (rl_91_0 (show (0 : Int32).toInt = 0 from by decide) (by first | omega (config := {splitDisjunctions := false}) | (refine Int.le_antisymm ?_ ?_ <;> omega (config := {splitDisjunctions := false})) | omega) (by first | omega (config := {splitDisjunctions := false}) | (refine Int.le_antisymm ?_ ?_ <;> omega (config := {splitDisjunctions := false})) | omega)) (i_in (a := 0) (show (0 : Int32).toInt = 0 from by decide) (by first | omega (config := {splitDisjunctions := false}) | (refine Int.le_antisymm ?_ ?_ <;> omega (config := {splitDisjunctions := false})) | omega) (by first | omega (config := {splitDisjunctions := false}) | (refine Int.le_antisymm ?_ ?_ <;> omega (config := {splitDisjunctions := false})) | omega)) dL_law_156 (fun v66 ev66 lv66 uv66 => ?_)
                  have m67 : aI H65 ha (0) = v66.toInt := aI_of (show (0 : Int32).toInt = 0 from by decide) ev66
                  have r156 : v66.toInt = w9 := (aI_of (show (0 : Int32).toInt = 0 from by decide) ev66).symm.trans ta0
                  refine q_icmp_ge hx hb (a := z63) (b := v66.toInt) ev63 rfl (tgt := 253) dL_law_157 rfl (fun c68 => ?_) (fun c68 => ?_)
                  · obtain ⟨v69, ev69⟩ : ∃ z, z = v32 + Int32.ofInt 1 := ⟨_, rfl⟩
                    have ev69i : v69.toInt = (z32 + 1) := i_add ev69 ev32 (by decide) (by first | omega (config := {splitDisjunctions := false}) | (refine Int.le_antisymm ?_ ?_ <;> omega (config := {splitDisjunctions := false})) | omega) (by first | omega (config := {splitDisjunctions := false}) | (refine Int.le_antisymm ?_ ?_ <;> omega (config := {splitDisjunctions := false})) | omega)
                    refine lv_iinc hx hb dL_law_253 hl (k := 1) rfl ev69.symm (by decide) rfl (fun ls hl => ?_)
                    replace hl : lv_has ls 15 [(12, .int v69), (13, .int v63), (11, .int v64), (10, .int v29), (9, .int v26), (8, .int v21), (7, .int v7), (6, .int v6), (5, .int v5), (4, .int v4), (0, .ref (sad X)), (1, .ref h0), (2, .ref mm), (3, .ref ha)] := hl
                    refine lv_goto (tgt := 141) hx hb dL_law_256 rfl ?_
                    exact ih34 H65 locs65 v69 ((z32 + 1)) v64 (z64) ls (ms_lt hm34 (by first | omega (config := {splitDisjunctions := false}) | (refine Int.le_antisymm ?_ ?_ <;> omega (config := {splitDisjunctions := false})) | omega) (by first | omega (config := {splitDisjunctions := false}) | (refine Int.le_antisymm ?_ ?_ <;> omega (config := {splitDisjunctions := false})) | omega)) ev69i ev64 (by first | omega (config := {splitDisjunctions := false}) | (refine Int.le_antisymm ?_ ?_ <;> omega (config := {splitDisjunctions := false})) | omega) (by first | omega (config := {splitDisjunctions := false}) | (refine Int.le_antisymm ?_ ?_ <;> omega (config := {splitDisjunctions := false})) | omega) (by first | omega (config := {splitDisjunctions := false}) | (refine Int.le_antisymm ?_ ?_ <;> omega (config := {splitDisjunctions := false})) | omega) (by first | omega (config := {splitDisjunctions := false}) | (refine Int.le_antisymm ?_ ?_ <;> omega (config := {splitDisjunctions := false})) | omega) (by first | omega (config := {splitDisjunctions := false}) | (refine Int.le_antisymm ?_ ?_ <;> omega (config := {splitDisjunctions := false})) | omega) (by first | omega (config := {splitDisjunctions := false}) | (refine Int.le_antisymm ?_ ?_ <;> omega (config := {splitDisjunctions := false})) | omega) (by first | omega (config := {splitDisjunctions := false}) | (refine Int.le_antisymm ?_ ?_ <;> omega (config := {splitDisjunctions := false})) | omega) hC65 hS65 hKp65 uhd obr ta0 ta1 ta2 ty0 ty1 ty2 (lv_sub hl [0, 2, 3, 4, 5, 6, 7, 8, 9, 10, 11, 12, 13] rfl)
                  · refine lv_aload_n hx hb dL_law_160 rfl (lv_at hl 11 rfl) ?_
                    refine lv_iload hx hb dL_law_161 (lv_at hl 0 rfl) ?_
                    refine lv_iload hx hb dL_law_163 (lv_at hl 1 rfl) ?_
                    refine lv_iconst (v := 4) hx hb dL_law_165 rfl ?_
                    refine r_goI (r_runV (As := [.int v63, .int v32, .int 4]) (rest := []) E hC65 hS65 (m_X11_cell l X Γ H65 hC65 h0 g0 v63 (a1 := z63) ev63 v32 (a2 := z32) ev32 4 (a3 := 4) (by decide) yd ((kp_R hKp65 g0 (ci := 10) (k := 5) rfl (by decide) rfl).trans hyd) gyd sn wl su lw ic kn hd us br ar fi (yn.kp gyd hKp65 rfl) (by first | omega (config := {splitDisjunctions := false}) | (refine Int.le_antisymm ?_ ?_ <;> omega (config := {splitDisjunctions := false})) | omega) (by first | omega (config := {splitDisjunctions := false}) | (refine Int.le_antisymm ?_ ?_ <;> omega (config := {splitDisjunctions := false})) | omega) (by first | omega (config := {splitDisjunctions := false}) | (refine Int.le_antisymm ?_ ?_ <;> omega (config := {splitDisjunctions := false})) | omega) (by first | omega (config := {splitDisjunctions := false}) | (refine Int.le_antisymm ?_ ?_ <;> omega (config := {splitDisjunctions := false})) | omega) (by first | omega (config := {splitDisjunctions := false}) | (refine Int.le_antisymm ?_ ?_ <;> omega (config := {splitDisjunctions := false})) | omega) (by first | omega (config := {splitDisjunctions := false}) | (refine Int.le_antisymm ?_ ?_ <;> omega (config := {splitDisjunctions := false})) | omega) (by first | omega (config := {splitDisjunctions := false}) | (refine Int.le_antisymm ?_ ?_ <;> omega (config := {splitDisjunctions := false})) | omega) (by first | omega (config := {splitDisjunctions := false}) | (refine Int.le_antisymm ?_ ?_ <;> omega (config := {splitDisjunctions := false})) | omega)) cw_X11_cell cl_RL_106 g0 ⟨rfl, rfl⟩ rfl hl.1 rfl (Nat.zero_le _) (by decide) dL_law_166) hS65 (fun v70 H70 locs70 hr70 hC70 hS70 => ?_)
                    obtain ⟨hp70, hr70⟩ := hr70
                    have hKp70 := hKp65.tr (hp70.mono rfl)
                    have m71 : SM H70 sn 36 = SM H65 sn 36 := SM_kp hp70 gsn rfl rfl
                    have m72 : SM H70 wl 36 = SM H65 wl 36 := SM_kp hp70 gwl rfl rfl
                    replace uhd : UHD H70 us hd := uhd.kp hp70 gus ghd rfl rfl
                    replace obr : OT H0 H70 br (-1) := obr.kp hp70 gbr rfl rfl
                    replace ta0 : aI H70 ha 0 = w9 := (aI_kp hp70 gha rfl rfl).trans ta0
                    replace ta1 : aI H70 ha 1 = h9 := (aI_kp hp70 gha rfl rfl).trans ta1
                    replace ta2 : aI H70 ha 2 = s9 := (aI_kp hp70 gha rfl rfl).trans ta2
                    replace ty0 : (sI H70 yd (X.1.2 8 0)).toInt = w9 := (congrArg Int32.toInt (kp_I hp70 gyd (ci := 8) (k := 0) rfl (by decide) rfl)).trans ty0
                    replace ty1 : (sI H70 yd (X.1.2 8 1)).toInt = h9 := (congrArg Int32.toInt (kp_I hp70 gyd (ci := 8) (k := 1) rfl (by decide) rfl)).trans ty1
                    replace ty2 : (sI H70 yd (X.1.2 8 2)).toInt = s9 := (congrArg Int32.toInt (kp_I hp70 gyd (ci := 8) (k := 2) rfl (by decide) rfl)).trans ty2
                    replace mq : mst H70 sn wl lw ar hd us w9 h9 z21 = q9 := (mst_kp hp70 gsn gwl glw gar ghd gus rfl rfl rfl rfl rfl rfl).trans mq
                    obtain ⟨f70_0, f70_1, f70_2, f70_3, f70_4⟩ := hr70
                    have hf9 := f70_2 rfl
                    rw [show (sI H65 yd (X.1.2 8 0)).toInt = w9 from (congrArg Int32.toInt (kp_I hp70 gyd (ci := 8) (k := 0) rfl (by decide) rfl)).symm.trans ty0] at hf9
                    clear f70_0
                    clear f70_1
                    replace f70_2 := f70_2 rfl
                    refine lv_iload hx hb dL_law_169 (lv_at hl 5 rfl) ?_
                    refine q_icmp_eq hx hb (a := v70.toInt) (b := z21) rfl ev21 (tgt := 177) dL_law_171 rfl (fun c73 => ?_) (fun c73 => ?_)
                    · have hh9 := Hd.mk (show (z63 < w9 / 2 ∧ z21 = 0) ∨ (w9 / 2 ≤ z63 ∧ z21 = 1) by first | omega (config := {splitDisjunctions := false}) | (refine Int.le_antisymm ?_ ?_ <;> omega (config := {splitDisjunctions := false})) | omega)
                      clear hf9
                      refine lv_aload_n hx hb dL_law_177 rfl (lv_at hl 11 rfl) ?_
                      refine lv_iload hx hb dL_law_178 (lv_at hl 0 rfl) ?_
                      refine lv_iload hx hb dL_law_180 (lv_at hl 1 rfl) ?_
                      refine r_goI (r_runV (As := [.int v63, .int v32]) (rest := []) E hC70 hS70 (m_X11_room l X Γ H70 hC70 h0 g0 v63 (a1 := z63) ev63 v32 (a2 := z32) ev32 yd ((kp_R hKp70 g0 (ci := 10) (k := 5) rfl (by decide) rfl).trans hyd) gyd sn wl su lw ic kn hd us br ar fi (yn.kp gyd hKp70 rfl) z21 (hfe_w hh9.get (by first | omega (config := {splitDisjunctions := false}) | (refine Int.le_antisymm ?_ ?_ <;> omega (config := {splitDisjunctions := false})) | omega)) (by first | omega (config := {splitDisjunctions := false}) | (refine Int.le_antisymm ?_ ?_ <;> omega (config := {splitDisjunctions := false})) | omega) (by first | omega (config := {splitDisjunctions := false}) | (refine Int.le_antisymm ?_ ?_ <;> omega (config := {splitDisjunctions := false})) | omega) (by first | omega (config := {splitDisjunctions := false}) | (refine Int.le_antisymm ?_ ?_ <;> omega (config := {splitDisjunctions := false})) | omega) (by first | omega (config := {splitDisjunctions := false}) | (refine Int.le_antisymm ?_ ?_ <;> omega (config := {splitDisjunctions := false})) | omega) (by first | omega (config := {splitDisjunctions := false}) | (refine Int.le_antisymm ?_ ?_ <;> omega (config := {splitDisjunctions := false})) | omega) (by first | omega (config := {splitDisjunctions := false}) | (refine Int.le_antisymm ?_ ?_ <;> omega (config := {splitDisjunctions := false})) | omega) (by first | omega (config := {splitDisjunctions := false}) | (refine Int.le_antisymm ?_ ?_ <;> omega (config := {splitDisjunctions := false})) | omega)) cw_X11_room cl_RL_110 g0 ⟨rfl, rfl⟩ rfl hl.1 rfl (Nat.zero_le _) (by decide) dL_law_182) hS70 (fun v74 H74 locs74 hr74 hC74 hS74 => ?_)
                      obtain ⟨hp74, hr74⟩ := hr74
                      have hKp74 := hKp70.tr (hp74.mono rfl)
                      have m75 : SM H74 sn 36 = SM H70 sn 36 := SM_kp hp74 gsn rfl rfl
                      have m76 : SM H74 wl 36 = SM H70 wl 36 := SM_kp hp74 gwl rfl rfl
                      replace uhd : UHD H74 us hd := uhd.kp hp74 gus ghd rfl rfl
                      replace obr : OT H0 H74 br (-1) := obr.kp hp74 gbr rfl rfl
                      replace ta0 : aI H74 ha 0 = w9 := (aI_kp hp74 gha rfl rfl).trans ta0
                      replace ta1 : aI H74 ha 1 = h9 := (aI_kp hp74 gha rfl rfl).trans ta1
                      replace ta2 : aI H74 ha 2 = s9 := (aI_kp hp74 gha rfl rfl).trans ta2
                      replace ty0 : (sI H74 yd (X.1.2 8 0)).toInt = w9 := (congrArg Int32.toInt (kp_I hp74 gyd (ci := 8) (k := 0) rfl (by decide) rfl)).trans ty0
                      replace ty1 : (sI H74 yd (X.1.2 8 1)).toInt = h9 := (congrArg Int32.toInt (kp_I hp74 gyd (ci := 8) (k := 1) rfl (by decide) rfl)).trans ty1
                      replace ty2 : (sI H74 yd (X.1.2 8 2)).toInt = s9 := (congrArg Int32.toInt (kp_I hp74 gyd (ci := 8) (k := 2) rfl (by decide) rfl)).trans ty2
                      replace mq : mst H74 sn wl lw ar hd us w9 h9 z21 = q9 := (mst_kp hp74 gsn gwl glw gar ghd gus rfl rfl rfl rfl rfl rfl).trans mq
                      obtain ⟨f74_0, f74_1, f74_2, f74_3⟩ := hr74
                      have hwy9 : (sI H74 yd (X.1.2 8 0)).toInt = w9 := ty0
                      have hrm3 : v74.toInt ≤ fit H74 sn wl lw ar w9 (z32 * 6 + z63) := by
                        have q := f74_0
                        rw [show (sI H70 yd (X.1.2 8 0)).toInt = w9 from (congrArg Int32.toInt (kp_I hp74 gyd (ci := 8) (k := 0) rfl (by decide) rfl)).symm.trans ty0] at q
                        rw [fit_kp hp74 gsn gwl glw gar rfl rfl rfl rfl]
                        exact q
                      have hrm1 : v74.toInt ≤ fit H74 sn wl lw ar (sI H74 yd (X.1.2 8 0)).toInt (z32 * 6 + z63) := by rw [hwy9]; exact hrm3
                      have hrm2 : v74.toInt ≤ lwh H74 ar us z21 := by rw [lwh_kp hp74 gar gus rfl rfl]; exact f74_1
                      have hb40 : aI H74 hd z21 ≤ 40 ∧ 0 ≤ aI H74 us z21 := ⟨(el_bd hC74 ghd rfl rfl (fun _ => rfl) (by first | omega (config := {splitDisjunctions := false}) | (refine Int.le_antisymm ?_ ?_ <;> omega (config := {splitDisjunctions := false})) | omega) (by first | omega (config := {splitDisjunctions := false}) | (refine Int.le_antisymm ?_ ?_ <;> omega (config := {splitDisjunctions := false})) | omega)).2, (el_bd hC74 gus rfl rfl (fun _ => rfl) (by first | omega (config := {splitDisjunctions := false}) | (refine Int.le_antisymm ?_ ?_ <;> omega (config := {splitDisjunctions := false})) | omega) (by first | omega (config := {splitDisjunctions := false}) | (refine Int.le_antisymm ?_ ?_ <;> omega (config := {splitDisjunctions := false})) | omega)).1⟩
                      refine lv_istore hx hb dL_law_185 hl (by decide) rfl (fun ls hl => ?_)
                      replace hl : lv_has ls 15 [(14, .int v74), (13, .int v63), (12, .int v32), (11, .int v64), (10, .int v29), (9, .int v26), (8, .int v21), (7, .int v7), (6, .int v6), (5, .int v5), (4, .int v4), (0, .ref (sad X)), (1, .ref h0), (2, .ref mm), (3, .ref ha)] := hl
                      refine lv_iload hx hb dL_law_187 (lv_at hl 0 rfl) ?_
                      refine q_if_le hx hb (a := v74.toInt) rfl (tgt := 221) dL_law_189 rfl (fun c77 => ?_) (fun c77 => ?_)
                      · refine lv_iload hx hb dL_law_221 (lv_at hl 0 rfl) ?_
                        refine lv_bipush (v := 40) hx hb dL_law_223 rfl ?_
                        refine q_icmp_le hx hb (a := v74.toInt) (b := 40) rfl (by decide) (tgt := 247) dL_law_225 rfl (fun c78 => ?_) (fun c78 => absurd c78 (by first | omega (config := {splitDisjunctions := false}) | (refine Int.le_antisymm ?_ ?_ <;> omega (config := {splitDisjunctions := false})) | omega))
                        obtain ⟨v79, ev79⟩ : ∃ z, z = v63 + Int32.ofInt 1 := ⟨_, rfl⟩
                        have ev79i : v79.toInt = (z63 + 1) := i_add ev79 ev63 (by decide) (by first | omega (config := {splitDisjunctions := false}) | (refine Int.le_antisymm ?_ ?_ <;> omega (config := {splitDisjunctions := false})) | omega) (by first | omega (config := {splitDisjunctions := false}) | (refine Int.le_antisymm ?_ ?_ <;> omega (config := {splitDisjunctions := false})) | omega)
                        refine lv_iinc hx hb dL_law_247 hl (k := 1) rfl ev79.symm (by decide) rfl (fun ls hl => ?_)
                        replace hl : lv_has ls 15 [(13, .int v79), (14, .int v74), (12, .int v32), (11, .int v64), (10, .int v29), (9, .int v26), (8, .int v21), (7, .int v7), (6, .int v6), (5, .int v5), (4, .int v4), (0, .ref (sad X)), (1, .ref h0), (2, .ref mm), (3, .ref ha)] := hl
                        refine lv_goto (tgt := 152) hx hb dL_law_250 rfl ?_
                        exact ih65 H74 locs74 v79 ((z63 + 1)) v64 (z64) ls (ms_lt hm65 (by first | omega (config := {splitDisjunctions := false}) | (refine Int.le_antisymm ?_ ?_ <;> omega (config := {splitDisjunctions := false})) | omega) (by first | omega (config := {splitDisjunctions := false}) | (refine Int.le_antisymm ?_ ?_ <;> omega (config := {splitDisjunctions := false})) | omega)) ev79i ev64 (by first | omega (config := {splitDisjunctions := false}) | (refine Int.le_antisymm ?_ ?_ <;> omega (config := {splitDisjunctions := false})) | omega) (by first | omega (config := {splitDisjunctions := false}) | (refine Int.le_antisymm ?_ ?_ <;> omega (config := {splitDisjunctions := false})) | omega) (by first | omega (config := {splitDisjunctions := false}) | (refine Int.le_antisymm ?_ ?_ <;> omega (config := {splitDisjunctions := false})) | omega) (by first | omega (config := {splitDisjunctions := false}) | (refine Int.le_antisymm ?_ ?_ <;> omega (config := {splitDisjunctions := false})) | omega) (by first | omega (config := {splitDisjunctions := false}) | (refine Int.le_antisymm ?_ ?_ <;> omega (config := {splitDisjunctions := false})) | omega) (by first | omega (config := {splitDisjunctions := false}) | (refine Int.le_antisymm ?_ ?_ <;> omega (config := {splitDisjunctions := false})) | omega) (by first | omega (config := {splitDisjunctions := false}) | (refine Int.le_antisymm ?_ ?_ <;> omega (config := {splitDisjunctions := false})) | omega) hC74 hS74 hKp74 uhd obr ta0 ta1 ta2 ty0 ty1 ty2 (lv_sub hl [0, 2, 3, 4, 5, 6, 7, 8, 9, 10, 11, 12, 13, 14] rfl)
                      · refine lv_iload hx hb dL_law_192 (lv_at hl 0 rfl) ?_
                        refine lv_bipush (v := 40) hx hb dL_law_194 rfl ?_
                        refine q_icmp_gt hx hb (a := v74.toInt) (b := 40) rfl (by decide) (tgt := 221) dL_law_196 rfl (fun c80 => ?_) (fun c80 => ?_)
                        · refine lv_iload hx hb dL_law_221 (lv_at hl 0 rfl) ?_
                          refine lv_bipush (v := 40) hx hb dL_law_223 rfl ?_
                          refine q_icmp_le hx hb (a := v74.toInt) (b := 40) rfl (by decide) (tgt := 247) dL_law_225 rfl (fun c81 => absurd c81 (by first | omega (config := {splitDisjunctions := false}) | (refine Int.le_antisymm ?_ ?_ <;> omega (config := {splitDisjunctions := false})) | omega)) (fun c81 => ?_)
                          refine lv_iload hx hb dL_law_228 (lv_at hl 3 rfl) ?_
                          refine lv_iconst (v := 0) hx hb dL_law_230 rfl ?_
                          refine lv_aload_n hx hb dL_law_231 rfl (lv_at hl 12 rfl) ?_
                          refine lv_iload hx hb dL_law_232 (lv_at hl 1 rfl) ?_
                          refine lv_iload hx hb dL_law_234 (lv_at hl 2 rfl) ?_
                          refine lv_bipush (v := 40) hx hb dL_law_236 rfl ?_
                          refine r_goI (r_runV (As := [.int v63, .int v32, .int 40]) (rest := [.int 0, .int v64]) E hC74 hS74 (m_X11_build l X Γ H74 hC74 h0 g0 v63 (a1 := z63) ev63 v32 (a2 := z32) ev32 40 (a3 := 40) (by decide) yd ((kp_R hKp74 g0 (ci := 10) (k := 5) rfl (by decide) rfl).trans hyd) gyd sn wl su lw ic kn hd us br ar fi (yn.kp gyd hKp74 rfl) z21 (hfe_w hh9.get (by first | omega (config := {splitDisjunctions := false}) | (refine Int.le_antisymm ?_ ?_ <;> omega (config := {splitDisjunctions := false})) | omega)) (by first | omega (config := {splitDisjunctions := false}) | (refine Int.le_antisymm ?_ ?_ <;> omega (config := {splitDisjunctions := false})) | omega) (by first | omega (config := {splitDisjunctions := false}) | (refine Int.le_antisymm ?_ ?_ <;> omega (config := {splitDisjunctions := false})) | omega) (by first | omega (config := {splitDisjunctions := false}) | (refine Int.le_antisymm ?_ ?_ <;> omega (config := {splitDisjunctions := false})) | omega) (by first | omega (config := {splitDisjunctions := false}) | (refine Int.le_antisymm ?_ ?_ <;> omega (config := {splitDisjunctions := false})) | omega) (by first | omega (config := {splitDisjunctions := false}) | (refine Int.le_antisymm ?_ ?_ <;> omega (config := {splitDisjunctions := false})) | omega) (by first | omega (config := {splitDisjunctions := false}) | (refine Int.le_antisymm ?_ ?_ <;> omega (config := {splitDisjunctions := false})) | omega) (by first | omega (config := {splitDisjunctions := false}) | (refine Int.le_antisymm ?_ ?_ <;> omega (config := {splitDisjunctions := false})) | omega) (by first | omega (config := {splitDisjunctions := false}) | (refine Int.le_antisymm ?_ ?_ <;> omega (config := {splitDisjunctions := false})) | omega) (by first | omega (config := {splitDisjunctions := false}) | (refine Int.le_antisymm ?_ ?_ <;> omega (config := {splitDisjunctions := false})) | omega) (by first | omega (config := {splitDisjunctions := false}) | (refine Int.le_antisymm ?_ ?_ <;> omega (config := {splitDisjunctions := false})) | omega) (by first | omega (config := {splitDisjunctions := false}) | (refine Int.le_antisymm ?_ ?_ <;> omega (config := {splitDisjunctions := false})) | omega)) cw_X11_build cl_RL_114 g0 ⟨rfl, rfl⟩ rfl hl.1 rfl (show _ ≤ _ from by simp [Value.category]) (by decide) dL_law_238) hS74 (fun v82 H82 locs82 hr82 hC82 hS82 => ?_)
                          obtain ⟨hp82, hr82⟩ := hr82
                          have hKp82 := hKp74.tr (hp82.mono rfl)
                          replace obr : OT H0 H82 br (-1) := obr.kp hp82 gbr rfl rfl
                          replace ta0 : aI H82 ha 0 = w9 := (aI_kp hp82 gha rfl rfl).trans ta0
                          replace ta1 : aI H82 ha 1 = h9 := (aI_kp hp82 gha rfl rfl).trans ta1
                          replace ta2 : aI H82 ha 2 = s9 := (aI_kp hp82 gha rfl rfl).trans ta2
                          replace ty0 : (sI H82 yd (X.1.2 8 0)).toInt = w9 := (congrArg Int32.toInt (kp_I hp82 gyd (ci := 8) (k := 0) rfl (by decide) rfl)).trans ty0
                          replace ty1 : (sI H82 yd (X.1.2 8 1)).toInt = h9 := (congrArg Int32.toInt (kp_I hp82 gyd (ci := 8) (k := 1) rfl (by decide) rfl)).trans ty1
                          replace ty2 : (sI H82 yd (X.1.2 8 2)).toInt = s9 := (congrArg Int32.toInt (kp_I hp82 gyd (ci := 8) (k := 2) rfl (by decide) rfl)).trans ty2
                          obtain ⟨f82_0, f82_1, f82_2, f82_3, f82_4, f82_5, f82_6⟩ := hr82
                          have hU0 := f82_3
                          obtain ⟨u9, hu9⟩ : ∃ z, max 0 v82.toInt = z := ⟨_, rfl⟩
                          have hin9 : inB w9 h9 z21 (z32 * 6 + z63) = true := inB_xy (by first | omega (config := {splitDisjunctions := false}) | (refine Int.le_antisymm ?_ ?_ <;> omega (config := {splitDisjunctions := false})) | omega) (by first | omega (config := {splitDisjunctions := false}) | (refine Int.le_antisymm ?_ ?_ <;> omega (config := {splitDisjunctions := false})) | omega) (by first | omega (config := {splitDisjunctions := false}) | (refine Int.le_antisymm ?_ ?_ <;> omega (config := {splitDisjunctions := false})) | omega) (by first | omega (config := {splitDisjunctions := false}) | (refine Int.le_antisymm ?_ ?_ <;> omega (config := {splitDisjunctions := false})) | omega) (by first | omega (config := {splitDisjunctions := false}) | (refine Int.le_antisymm ?_ ?_ <;> omega (config := {splitDisjunctions := false})) | omega) hh9.get
                          have hf1 := f82_0; have hf2 := f82_1; have hf3 := f82_2; have hf4 := f82_4; have hf5 := f82_5; have hf6 := f82_6
                          rw [hu9] at hf1 hf2 hf3 hU0
                          clear f82_0 f82_1 f82_2 f82_3
                          have hb0 : 0 ≤ u9 := hu9 ▸ Int.le_max_left _ _
                          have hb1 := bld_u hf1
                          clear hf1
                          have hm9 : mst H82 sn wl lw ar hd us w9 h9 z21 = mst H74 sn wl lw ar hd us w9 h9 z21 - u9 := mst_b hf4 hf5 hf2 hf3 hU0 (fun _ => aI_kp hp82 glw rfl rfl) (fun _ => aI_kp hp82 gar rfl rfl) (fun _ => aI_kp hp82 ghd rfl rfl) (by first | omega (config := {splitDisjunctions := false}) | (refine Int.le_antisymm ?_ ?_ <;> omega (config := {splitDisjunctions := false})) | omega) (Int.le_trans (show u9 ≤ v74.toInt by first | omega (config := {splitDisjunctions := false}) | (refine Int.le_antisymm ?_ ?_ <;> omega (config := {splitDisjunctions := false})) | omega) hrm3) (Int.le_trans (show u9 ≤ v74.toInt by first | omega (config := {splitDisjunctions := false}) | (refine Int.le_antisymm ?_ ?_ <;> omega (config := {splitDisjunctions := false})) | omega) hrm2) (by first | omega (config := {splitDisjunctions := false}) | (refine Int.le_antisymm ?_ ?_ <;> omega (config := {splitDisjunctions := false})) | omega) (by first | omega (config := {splitDisjunctions := false}) | (refine Int.le_antisymm ?_ ?_ <;> omega (config := {splitDisjunctions := false})) | omega) (by first | omega (config := {splitDisjunctions := false}) | (refine Int.le_antisymm ?_ ?_ <;> omega (config := {splitDisjunctions := false})) | omega) hin9 (uhd z21 (by first | omega (config := {splitDisjunctions := false}) | (refine Int.le_antisymm ?_ ?_ <;> omega (config := {splitDisjunctions := false})) | omega) (by first | omega (config := {splitDisjunctions := false}) | (refine Int.le_antisymm ?_ ?_ <;> omega (config := {splitDisjunctions := false})) | omega)) hb40
                          have hmn9 : 0 ≤ mst H82 sn wl lw ar hd us w9 h9 z21 := mst_nn hC82 gsn
                          have hsm9 := SM_b hf4 hf5 hf2 hf3 (by first | omega (config := {splitDisjunctions := false}) | (refine Int.le_antisymm ?_ ?_ <;> omega (config := {splitDisjunctions := false})) | omega) (by first | omega (config := {splitDisjunctions := false}) | (refine Int.le_antisymm ?_ ?_ <;> omega (config := {splitDisjunctions := false})) | omega)
                          have hq3 : u9 ≤ hlf H74 hd us z21 := hb1.2
                          have uhd : UHD H82 us hd := uhd.set hf6 (fun _ => aI_kp hp82 ghd rfl rfl) (bld_h hq3 (uhd z21 (by first | omega (config := {splitDisjunctions := false}) | (refine Int.le_antisymm ?_ ?_ <;> omega (config := {splitDisjunctions := false})) | omega) (by first | omega (config := {splitDisjunctions := false}) | (refine Int.le_antisymm ?_ ?_ <;> omega (config := {splitDisjunctions := false})) | omega)) hU0 (aI_kp (z := z21) hp82 ghd rfl rfl))
                          refine r_mmax E hl.1 w_1042 mathw_max (a := 0) (b := v82.toInt) (show (0 : Int32).toInt = 0 from by decide) rfl (by decide) (show _ ≤ _ from by simp [Value.category]) dL_law_241 (fun v85 mv85a mv85b mv85c => ?_)
                          have hv9 : v85.toInt = u9 := mx_eq mv85a mv85b mv85c hu9
                          clear mv85c hu9
                          refine lv_iadd hx hb dL_law_244 (lv_topi (fun v86 ev86 => ?_))
                          have ev86i : v86.toInt = (z64 + v85.toInt) := i_add ev86 ev64 rfl (by first | omega (config := {splitDisjunctions := false}) | (refine Int.le_antisymm ?_ ?_ <;> omega (config := {splitDisjunctions := false})) | omega) (by first | omega (config := {splitDisjunctions := false}) | (refine Int.le_antisymm ?_ ?_ <;> omega (config := {splitDisjunctions := false})) | omega)
                          refine lv_istore hx hb dL_law_245 hl (by decide) rfl (fun ls hl => ?_)
                          replace hl : lv_has ls 15 [(11, .int v86), (14, .int v74), (13, .int v63), (12, .int v32), (10, .int v29), (9, .int v26), (8, .int v21), (7, .int v7), (6, .int v6), (5, .int v5), (4, .int v4), (0, .ref (sad X)), (1, .ref h0), (2, .ref mm), (3, .ref ha)] := hl
                          obtain ⟨v87, ev87⟩ : ∃ z, z = v63 + Int32.ofInt 1 := ⟨_, rfl⟩
                          have ev87i : v87.toInt = (z63 + 1) := i_add ev87 ev63 (by decide) (by first | omega (config := {splitDisjunctions := false}) | (refine Int.le_antisymm ?_ ?_ <;> omega (config := {splitDisjunctions := false})) | omega) (by first | omega (config := {splitDisjunctions := false}) | (refine Int.le_antisymm ?_ ?_ <;> omega (config := {splitDisjunctions := false})) | omega)
                          refine lv_iinc hx hb dL_law_247 hl (k := 2) rfl ev87.symm (by decide) rfl (fun ls hl => ?_)
                          replace hl : lv_has ls 15 [(13, .int v87), (11, .int v86), (14, .int v74), (12, .int v32), (10, .int v29), (9, .int v26), (8, .int v21), (7, .int v7), (6, .int v6), (5, .int v5), (4, .int v4), (0, .ref (sad X)), (1, .ref h0), (2, .ref mm), (3, .ref ha)] := hl
                          refine lv_goto (tgt := 152) hx hb dL_law_250 rfl ?_
                          exact ih65 H82 locs82 v87 ((z63 + 1)) v86 ((z64 + v85.toInt)) ls (ms_lt hm65 (by first | omega (config := {splitDisjunctions := false}) | (refine Int.le_antisymm ?_ ?_ <;> omega (config := {splitDisjunctions := false})) | omega) (by first | omega (config := {splitDisjunctions := false}) | (refine Int.le_antisymm ?_ ?_ <;> omega (config := {splitDisjunctions := false})) | omega)) ev87i ev86i (by first | omega (config := {splitDisjunctions := false}) | (refine Int.le_antisymm ?_ ?_ <;> omega (config := {splitDisjunctions := false})) | omega) (by first | omega (config := {splitDisjunctions := false}) | (refine Int.le_antisymm ?_ ?_ <;> omega (config := {splitDisjunctions := false})) | omega) (by first | omega (config := {splitDisjunctions := false}) | (refine Int.le_antisymm ?_ ?_ <;> omega (config := {splitDisjunctions := false})) | omega) (by first | omega (config := {splitDisjunctions := false}) | (refine Int.le_antisymm ?_ ?_ <;> omega (config := {splitDisjunctions := false})) | omega) (by first | omega (config := {splitDisjunctions := false}) | (refine Int.le_antisymm ?_ ?_ <;> omega (config := {splitDisjunctions := false})) | omega) (by first | omega (config := {splitDisjunctions := false}) | (refine Int.le_antisymm ?_ ?_ <;> omega (config := {splitDisjunctions := false})) | omega) (by first | omega (config := {splitDisjunctions := false}) | (refine Int.le_antisymm ?_ ?_ <;> omega (config := {splitDisjunctions := false})) | omega) hC82 hS82 hKp82 uhd obr ta0 ta1 ta2 ty0 ty1 ty2 (lv_sub hl [0, 3, 1, 4, 5, 6, 7, 8, 9, 10, 11, 12, 13, 14] rfl)
                        · refine lv_iload hx hb dL_law_199 (lv_at hl 3 rfl) ?_
                          refine lv_iconst (v := 0) hx hb dL_law_201 rfl ?_
                          refine lv_aload_n hx hb dL_law_202 rfl (lv_at hl 12 rfl) ?_
                          refine lv_iload hx hb dL_law_203 (lv_at hl 1 rfl) ?_
                          refine lv_iload hx hb dL_law_205 (lv_at hl 2 rfl) ?_
                          refine lv_iload hx hb dL_law_207 (lv_at hl 0 rfl) ?_
                          refine r_goI (r_runV (As := [.int v63, .int v32, .int v74]) (rest := [.int 0, .int v64]) E hC74 hS74 (m_X11_build l X Γ H74 hC74 h0 g0 v63 (a1 := z63) ev63 v32 (a2 := z32) ev32 v74 (a3 := v74.toInt) rfl yd ((kp_R hKp74 g0 (ci := 10) (k := 5) rfl (by decide) rfl).trans hyd) gyd sn wl su lw ic kn hd us br ar fi (yn.kp gyd hKp74 rfl) z21 (hfe_w hh9.get (by first | omega (config := {splitDisjunctions := false}) | (refine Int.le_antisymm ?_ ?_ <;> omega (config := {splitDisjunctions := false})) | omega)) (by first | omega (config := {splitDisjunctions := false}) | (refine Int.le_antisymm ?_ ?_ <;> omega (config := {splitDisjunctions := false})) | omega) (by first | omega (config := {splitDisjunctions := false}) | (refine Int.le_antisymm ?_ ?_ <;> omega (config := {splitDisjunctions := false})) | omega) (by first | omega (config := {splitDisjunctions := false}) | (refine Int.le_antisymm ?_ ?_ <;> omega (config := {splitDisjunctions := false})) | omega) (by first | omega (config := {splitDisjunctions := false}) | (refine Int.le_antisymm ?_ ?_ <;> omega (config := {splitDisjunctions := false})) | omega) (by first | omega (config := {splitDisjunctions := false}) | (refine Int.le_antisymm ?_ ?_ <;> omega (config := {splitDisjunctions := false})) | omega) (by first | omega (config := {splitDisjunctions := false}) | (refine Int.le_antisymm ?_ ?_ <;> omega (config := {splitDisjunctions := false})) | omega) (by first | omega (config := {splitDisjunctions := false}) | (refine Int.le_antisymm ?_ ?_ <;> omega (config := {splitDisjunctions := false})) | omega) (by first | omega (config := {splitDisjunctions := false}) | (refine Int.le_antisymm ?_ ?_ <;> omega (config := {splitDisjunctions := false})) | omega) (by first | omega (config := {splitDisjunctions := false}) | (refine Int.le_antisymm ?_ ?_ <;> omega (config := {splitDisjunctions := false})) | omega) (by first | omega (config := {splitDisjunctions := false}) | (refine Int.le_antisymm ?_ ?_ <;> omega (config := {splitDisjunctions := false})) | omega) (by first | omega (config := {splitDisjunctions := false}) | (refine Int.le_antisymm ?_ ?_ <;> omega (config := {splitDisjunctions := false})) | omega)) cw_X11_build cl_RL_114 g0 ⟨rfl, rfl⟩ rfl hl.1 rfl (show _ ≤ _ from by simp [Value.category]) (by decide) dL_law_209) hS74 (fun v88 H88 locs88 hr88 hC88 hS88 => ?_)
                          obtain ⟨hp88, hr88⟩ := hr88
                          have hKp88 := hKp74.tr (hp88.mono rfl)
                          replace obr : OT H0 H88 br (-1) := obr.kp hp88 gbr rfl rfl
                          replace ta0 : aI H88 ha 0 = w9 := (aI_kp hp88 gha rfl rfl).trans ta0
                          replace ta1 : aI H88 ha 1 = h9 := (aI_kp hp88 gha rfl rfl).trans ta1
                          replace ta2 : aI H88 ha 2 = s9 := (aI_kp hp88 gha rfl rfl).trans ta2
                          replace ty0 : (sI H88 yd (X.1.2 8 0)).toInt = w9 := (congrArg Int32.toInt (kp_I hp88 gyd (ci := 8) (k := 0) rfl (by decide) rfl)).trans ty0
                          replace ty1 : (sI H88 yd (X.1.2 8 1)).toInt = h9 := (congrArg Int32.toInt (kp_I hp88 gyd (ci := 8) (k := 1) rfl (by decide) rfl)).trans ty1
                          replace ty2 : (sI H88 yd (X.1.2 8 2)).toInt = s9 := (congrArg Int32.toInt (kp_I hp88 gyd (ci := 8) (k := 2) rfl (by decide) rfl)).trans ty2
                          obtain ⟨f88_0, f88_1, f88_2, f88_3, f88_4, f88_5, f88_6⟩ := hr88
                          have hU0 := f88_3
                          obtain ⟨u9, hu9⟩ : ∃ z, max 0 v88.toInt = z := ⟨_, rfl⟩
                          have hin9 : inB w9 h9 z21 (z32 * 6 + z63) = true := inB_xy (by first | omega (config := {splitDisjunctions := false}) | (refine Int.le_antisymm ?_ ?_ <;> omega (config := {splitDisjunctions := false})) | omega) (by first | omega (config := {splitDisjunctions := false}) | (refine Int.le_antisymm ?_ ?_ <;> omega (config := {splitDisjunctions := false})) | omega) (by first | omega (config := {splitDisjunctions := false}) | (refine Int.le_antisymm ?_ ?_ <;> omega (config := {splitDisjunctions := false})) | omega) (by first | omega (config := {splitDisjunctions := false}) | (refine Int.le_antisymm ?_ ?_ <;> omega (config := {splitDisjunctions := false})) | omega) (by first | omega (config := {splitDisjunctions := false}) | (refine Int.le_antisymm ?_ ?_ <;> omega (config := {splitDisjunctions := false})) | omega) hh9.get
                          have hf1 := f88_0; have hf2 := f88_1; have hf3 := f88_2; have hf4 := f88_4; have hf5 := f88_5; have hf6 := f88_6
                          rw [hu9] at hf1 hf2 hf3 hU0
                          clear f88_0 f88_1 f88_2 f88_3
                          have hb0 : 0 ≤ u9 := hu9 ▸ Int.le_max_left _ _
                          have hb1 := bld_u hf1
                          clear hf1
                          have hm9 : mst H88 sn wl lw ar hd us w9 h9 z21 = mst H74 sn wl lw ar hd us w9 h9 z21 - u9 := mst_b hf4 hf5 hf2 hf3 hU0 (fun _ => aI_kp hp88 glw rfl rfl) (fun _ => aI_kp hp88 gar rfl rfl) (fun _ => aI_kp hp88 ghd rfl rfl) (by first | omega (config := {splitDisjunctions := false}) | (refine Int.le_antisymm ?_ ?_ <;> omega (config := {splitDisjunctions := false})) | omega) (Int.le_trans (show u9 ≤ v74.toInt by first | omega (config := {splitDisjunctions := false}) | (refine Int.le_antisymm ?_ ?_ <;> omega (config := {splitDisjunctions := false})) | omega) hrm3) (Int.le_trans (show u9 ≤ v74.toInt by first | omega (config := {splitDisjunctions := false}) | (refine Int.le_antisymm ?_ ?_ <;> omega (config := {splitDisjunctions := false})) | omega) hrm2) (by first | omega (config := {splitDisjunctions := false}) | (refine Int.le_antisymm ?_ ?_ <;> omega (config := {splitDisjunctions := false})) | omega) (by first | omega (config := {splitDisjunctions := false}) | (refine Int.le_antisymm ?_ ?_ <;> omega (config := {splitDisjunctions := false})) | omega) (by first | omega (config := {splitDisjunctions := false}) | (refine Int.le_antisymm ?_ ?_ <;> omega (config := {splitDisjunctions := false})) | omega) hin9 (uhd z21 (by first | omega (config := {splitDisjunctions := false}) | (refine Int.le_antisymm ?_ ?_ <;> omega (config := {splitDisjunctions := false})) | omega) (by first | omega (config := {splitDisjunctions := false}) | (refine Int.le_antisymm ?_ ?_ <;> omega (config := {splitDisjunctions := false})) | omega)) hb40
                          have hmn9 : 0 ≤ mst H88 sn wl lw ar hd us w9 h9 z21 := mst_nn hC88 gsn
                          have hsm9 := SM_b hf4 hf5 hf2 hf3 (by first | omega (config := {splitDisjunctions := false}) | (refine Int.le_antisymm ?_ ?_ <;> omega (config := {splitDisjunctions := false})) | omega) (by first | omega (config := {splitDisjunctions := false}) | (refine Int.le_antisymm ?_ ?_ <;> omega (config := {splitDisjunctions := false})) | omega)
                          have hq3 : u9 ≤ hlf H74 hd us z21 := hb1.2
                          have uhd : UHD H88 us hd := uhd.set hf6 (fun _ => aI_kp hp88 ghd rfl rfl) (bld_h hq3 (uhd z21 (by first | omega (config := {splitDisjunctions := false}) | (refine Int.le_antisymm ?_ ?_ <;> omega (config := {splitDisjunctions := false})) | omega) (by first | omega (config := {splitDisjunctions := false}) | (refine Int.le_antisymm ?_ ?_ <;> omega (config := {splitDisjunctions := false})) | omega)) hU0 (aI_kp (z := z21) hp88 ghd rfl rfl))
                          refine r_mmax E hl.1 w_1042 mathw_max (a := 0) (b := v88.toInt) (show (0 : Int32).toInt = 0 from by decide) rfl (by decide) (show _ ≤ _ from by simp [Value.category]) dL_law_212 (fun v91 mv91a mv91b mv91c => ?_)
                          have hv9 : v91.toInt = u9 := mx_eq mv91a mv91b mv91c hu9
                          clear mv91c hu9
                          refine lv_iadd hx hb dL_law_215 (lv_topi (fun v92 ev92 => ?_))
                          have ev92i : v92.toInt = (z64 + v91.toInt) := i_add ev92 ev64 rfl (by first | omega (config := {splitDisjunctions := false}) | (refine Int.le_antisymm ?_ ?_ <;> omega (config := {splitDisjunctions := false})) | omega) (by first | omega (config := {splitDisjunctions := false}) | (refine Int.le_antisymm ?_ ?_ <;> omega (config := {splitDisjunctions := false})) | omega)
                          refine lv_istore hx hb dL_law_216 hl (by decide) rfl (fun ls hl => ?_)
                          replace hl : lv_has ls 15 [(11, .int v92), (14, .int v74), (13, .int v63), (12, .int v32), (10, .int v29), (9, .int v26), (8, .int v21), (7, .int v7), (6, .int v6), (5, .int v5), (4, .int v4), (0, .ref (sad X)), (1, .ref h0), (2, .ref mm), (3, .ref ha)] := hl
                          refine lv_goto (tgt := 247) hx hb dL_law_218 rfl ?_
                          obtain ⟨v93, ev93⟩ : ∃ z, z = v63 + Int32.ofInt 1 := ⟨_, rfl⟩
                          have ev93i : v93.toInt = (z63 + 1) := i_add ev93 ev63 (by decide) (by first | omega (config := {splitDisjunctions := false}) | (refine Int.le_antisymm ?_ ?_ <;> omega (config := {splitDisjunctions := false})) | omega) (by first | omega (config := {splitDisjunctions := false}) | (refine Int.le_antisymm ?_ ?_ <;> omega (config := {splitDisjunctions := false})) | omega)
                          refine lv_iinc hx hb dL_law_247 hl (k := 2) rfl ev93.symm (by decide) rfl (fun ls hl => ?_)
                          replace hl : lv_has ls 15 [(13, .int v93), (11, .int v92), (14, .int v74), (12, .int v32), (10, .int v29), (9, .int v26), (8, .int v21), (7, .int v7), (6, .int v6), (5, .int v5), (4, .int v4), (0, .ref (sad X)), (1, .ref h0), (2, .ref mm), (3, .ref ha)] := hl
                          refine lv_goto (tgt := 152) hx hb dL_law_250 rfl ?_
                          exact ih65 H88 locs88 v93 ((z63 + 1)) v92 ((z64 + v91.toInt)) ls (ms_lt hm65 (by first | omega (config := {splitDisjunctions := false}) | (refine Int.le_antisymm ?_ ?_ <;> omega (config := {splitDisjunctions := false})) | omega) (by first | omega (config := {splitDisjunctions := false}) | (refine Int.le_antisymm ?_ ?_ <;> omega (config := {splitDisjunctions := false})) | omega)) ev93i ev92i (by first | omega (config := {splitDisjunctions := false}) | (refine Int.le_antisymm ?_ ?_ <;> omega (config := {splitDisjunctions := false})) | omega) (by first | omega (config := {splitDisjunctions := false}) | (refine Int.le_antisymm ?_ ?_ <;> omega (config := {splitDisjunctions := false})) | omega) (by first | omega (config := {splitDisjunctions := false}) | (refine Int.le_antisymm ?_ ?_ <;> omega (config := {splitDisjunctions := false})) | omega) (by first | omega (config := {splitDisjunctions := false}) | (refine Int.le_antisymm ?_ ?_ <;> omega (config := {splitDisjunctions := false})) | omega) (by first | omega (config := {splitDisjunctions := false}) | (refine Int.le_antisymm ?_ ?_ <;> omega (config := {splitDisjunctions := false})) | omega) (by first | omega (config := {splitDisjunctions := false}) | (refine Int.le_antisymm ?_ ?_ <;> omega (config := {splitDisjunctions := false})) | omega) (by first | omega (config := {splitDisjunctions := false}) | (refine Int.le_antisymm ?_ ?_ <;> omega (config := {splitDisjunctions := false})) | omega) hC88 hS88 hKp88 uhd obr ta0 ta1 ta2 ty0 ty1 ty2 (lv_sub hl [0, 3, 1, 4, 5, 6, 7, 8, 9, 10, 11, 12, 13, 14] rfl)
                    · refine lv_goto (tgt := 247) hx hb dL_law_174 rfl ?_
                      obtain ⟨v94, ev94⟩ : ∃ z, z = v63 + Int32.ofInt 1 := ⟨_, rfl⟩
                      have ev94i : v94.toInt = (z63 + 1) := i_add ev94 ev63 (by decide) (by first | omega (config := {splitDisjunctions := false}) | (refine Int.le_antisymm ?_ ?_ <;> omega (config := {splitDisjunctions := false})) | omega) (by first | omega (config := {splitDisjunctions := false}) | (refine Int.le_antisymm ?_ ?_ <;> omega (config := {splitDisjunctions := false})) | omega)
                      refine lv_iinc hx hb dL_law_247 hl (k := 0) rfl ev94.symm (by decide) rfl (fun ls hl => ?_)
                      replace hl : lv_has ls 15 [(13, .int v94), (12, .int v32), (11, .int v64), (10, .int v29), (9, .int v26), (8, .int v21), (7, .int v7), (6, .int v6), (5, .int v5), (4, .int v4), (0, .ref (sad X)), (1, .ref h0), (2, .ref mm), (3, .ref ha)] := hl
                      refine lv_goto (tgt := 152) hx hb dL_law_250 rfl ?_
                      exact ih65 H70 locs70 v94 ((z63 + 1)) v64 (z64) ls (ms_lt hm65 (by first | omega (config := {splitDisjunctions := false}) | (refine Int.le_antisymm ?_ ?_ <;> omega (config := {splitDisjunctions := false})) | omega) (by first | omega (config := {splitDisjunctions := false}) | (refine Int.le_antisymm ?_ ?_ <;> omega (config := {splitDisjunctions := false})) | omega)) ev94i ev64 (by first | omega (config := {splitDisjunctions := false}) | (refine Int.le_antisymm ?_ ?_ <;> omega (config := {splitDisjunctions := false})) | omega) (by first | omega (config := {splitDisjunctions := false}) | (refine Int.le_antisymm ?_ ?_ <;> omega (config := {splitDisjunctions := false})) | omega) (by first | omega (config := {splitDisjunctions := false}) | (refine Int.le_antisymm ?_ ?_ <;> omega (config := {splitDisjunctions := false})) | omega) (by first | omega (config := {splitDisjunctions := false}) | (refine Int.le_antisymm ?_ ?_ <;> omega (config := {splitDisjunctions := false})) | omega) (by first | omega (config := {splitDisjunctions := false}) | (refine Int.le_antisymm ?_ ?_ <;> omega (config := {splitDisjunctions := false})) | omega) (by first | omega (config := {splitDisjunctions := false}) | (refine Int.le_antisymm ?_ ?_ <;> omega (config := {splitDisjunctions := false})) | omega) (by first | omega (config := {splitDisjunctions := false}) | (refine Int.le_antisymm ?_ ?_ <;> omega (config := {splitDisjunctions := false})) | omega) hC70 hS70 hKp70 uhd obr ta0 ta1 ta2 ty0 ty1 ty2 hl
              exact L152 _ H34 locs34 0 0 v33 z33 ls (Nat.lt_succ_self _) (by decide) ev33 (by first | omega (config := {splitDisjunctions := false}) | (refine Int.le_antisymm ?_ ?_ <;> omega (config := {splitDisjunctions := false})) | omega) (by first | omega (config := {splitDisjunctions := false}) | (refine Int.le_antisymm ?_ ?_ <;> omega (config := {splitDisjunctions := false})) | omega) (by first | omega (config := {splitDisjunctions := false}) | (refine Int.le_antisymm ?_ ?_ <;> omega (config := {splitDisjunctions := false})) | omega) (by first | omega (config := {splitDisjunctions := false}) | (refine Int.le_antisymm ?_ ?_ <;> omega (config := {splitDisjunctions := false})) | omega) (by first | omega (config := {splitDisjunctions := false}) | (refine Int.le_antisymm ?_ ?_ <;> omega (config := {splitDisjunctions := false})) | omega) (by first | omega (config := {splitDisjunctions := false}) | (refine Int.le_antisymm ?_ ?_ <;> omega (config := {splitDisjunctions := false})) | omega) (by first | omega (config := {splitDisjunctions := false}) | (refine Int.le_antisymm ?_ ?_ <;> omega (config := {splitDisjunctions := false})) | omega) hC34 hS34 hKp34 uhd obr ta0 ta1 ta2 ty0 ty1 ty2 hl
        exact L141 _ H29 locs29 0 0 0 0 ls (Nat.lt_succ_self _) (by decide) (by decide) (by first | omega (config := {splitDisjunctions := false}) | (refine Int.le_antisymm ?_ ?_ <;> omega (config := {splitDisjunctions := false})) | omega) (by first | omega (config := {splitDisjunctions := false}) | (refine Int.le_antisymm ?_ ?_ <;> omega (config := {splitDisjunctions := false})) | omega) (by first | omega (config := {splitDisjunctions := false}) | (refine Int.le_antisymm ?_ ?_ <;> omega (config := {splitDisjunctions := false})) | omega) (by first | omega (config := {splitDisjunctions := false}) | (refine Int.le_antisymm ?_ ?_ <;> omega (config := {splitDisjunctions := false})) | omega) (by first | omega (config := {splitDisjunctions := false}) | (refine Int.le_antisymm ?_ ?_ <;> omega (config := {splitDisjunctions := false})) | omega) (by first | omega (config := {splitDisjunctions := false}) | (refine Int.le_antisymm ?_ ?_ <;> omega (config := {splitDisjunctions := false})) | omega) (by first | omega (config := {splitDisjunctions := false}) | (refine Int.le_antisymm ?_ ?_ <;> omega (config := {splitDisjunctions := false})) | omega) hC29 hS29 hKp29 uhd obr ta0 ta1 ta2 ty0 ty1 ty2 hl
  exact L112 _ H0 locs0 0 0 ls (Nat.lt_succ_self _) (by decide) (by first | omega (config := {splitDisjunctions := false}) | (refine Int.le_antisymm ?_ ?_ <;> omega (config := {splitDisjunctions := false})) | omega) (by first | omega (config := {splitDisjunctions := false}) | (refine Int.le_antisymm ?_ ?_ <;> omega (config := {splitDisjunctions := false})) | omega) (by first | omega (config := {splitDisjunctions := false}) | (refine Int.le_antisymm ?_ ?_ <;> omega (config := {splitDisjunctions := false})) | omega) (by first | omega (config := {splitDisjunctions := false}) | (refine Int.le_antisymm ?_ ?_ <;> omega (config := {splitDisjunctions := false})) | omega) hC0 hS0 hKp0 uhd obr ta0 ta1 ta2 ty0 ty1 ty2 hl
