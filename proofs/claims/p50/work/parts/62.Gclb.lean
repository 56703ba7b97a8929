set_option maxRecDepth 100000 in
set_option maxHeartbeats 8000000 in
theorem sg_clb (l : Launch) {p : Program} {e : Env} {s : State} {m : MethodId} {args : Array Value} {below : List Frame} {meth : Method} {c : Code} {X : xW} {Γ : Nat → Option Nat} {Qz : State → Prop} (E : Ev p s m args meth c cL_law 15 "SnowFortsLaw" ret X Γ s.heap) (H0 : Heap) (hC0 : Conf X Γ H0) (locs0 : List Loc) (hS0 : va_S (AΓ Γ) s.heap H0 locs0) (h0 : Nat) (g0 : Γ h0 = some 0) (mm ha : Nat) (gmm : Γ mm = some 90) (gha : Γ ha = some 91) (yd : Nat) (hyd : sR H0 h0 (X.1.2 10 5) = some yd) (gyd : Γ yd = some 5) (sn wl su lw ic kn hd us br ar fi : Nat) (yn : YN X Γ H0 yd sn wl su lw ic kn hd us br ar fi) (wk : Nat) (hwk : sR H0 h0 (X.1.2 10 12) = some wk) (gwk : Γ wk = some 7) (pa hh wt : Nat) (wn : WN X Γ H0 wk pa hh wt) (w9 h9 s9 : Int) (qw : w9 = 2 ∨ w9 = 4) (qh : 1 ≤ h9 ∧ h9 ≤ 3) (qs : s9 = 1 ∨ s9 = 2) (qa0 : aI H0 ha 0 = w9) (qa1 : aI H0 ha 1 = h9) (qa2 : aI H0 ha 2 = s9) (qy0 : (sI H0 yd (X.1.2 8 0)).toInt = w9) (qy1 : (sI H0 yd (X.1.2 8 1)).toInt = h9) (qy2 : (sI H0 yd (X.1.2 8 2)).toInt = s9) (v7 : Int32) {z7 : Int} (ev7 : v7.toInt = z7) (v6 : Int32) {z6 : Int} (ev6 : v6.toInt = z6) (v5 : Int32) {z5 : Int} (ev5 : v5.toInt = z5) (v4 : Int32) {z4 : Int} (ev4 : v4.toInt = z4) {ls : Array Slot} (hl : lv_has ls 15 [(7, .int v7), (6, .int v6), (5, .int v5), (4, .int v4), (0, .ref (sad X)), (1, .ref h0), (2, .ref mm), (3, .ref ha)]) (hk : ∀ (H1 : Heap) (locs1 : List Loc) (y8 : Int32) (u8 : Int) (ls : Array Slot), Conf X Γ H1 → va_S (AΓ Γ) s.heap H1 locs1 → Kp X Γ [3, 29, 31, 32, 33, 34, 37, 39, 40, 50, 51, 52, 53, 54, 55, 56, 57, 58, 59, 60, 61, 62, 63, 65, 67, 68, 69, 70, 71] H0 H1 → y8.toInt = u8 → (CLB w9 h9 (fun z => aI H1 sn z + aI H1 wl z) w9 u8) → (0 ≤ u8 ∧ u8 ≤ 999) → lv_has ls 15 [(8, .int y8), (7, .int v7), (6, .int v6), (5, .int v5), (4, .int v4), (0, .ref (sad X)), (1, .ref h0), (2, .ref mm), (3, .ref ha)] → W p l e room_1 s m args below meth c H1 locs1 133 8682 Qz (F0 m 552 ls [])) : W p l e room_1 s m args below meth c H0 locs0 133 8682 Qz (F0 m 475 ls []) := by
  have hx := E.1; have hb := E.2.1
  have hKp0 : Kp X Γ [3, 29, 31, 32, 33, 34, 37, 39, 40, 50, 51, 52, 53, 54, 55, 56, 57, 58, 59, 60, 61, 62, 63, 65, 67, 68, 69, 70, 71] H0 H0 := Kp.rf
  have gsn := yn.sn.2; have gwl := yn.wl.2; have gsu := yn.su.2; have glw := yn.lw.2; have gic := yn.ic.2; have gkn := yn.kn.2; have ghd := yn.hd.2; have gus := yn.us.2; have gbr := yn.br.2; have gar := yn.ar.2; have gfi := yn.fi.2
  have gpa := wn.pa.2; have ghh := wn.hh.2; have gwt := wn.wt.2
  have qw1 : 2 ≤ w9 ∧ w9 ≤ 4 := by omega
  have qs1 : 1 ≤ s9 ∧ s9 ≤ 2 := by omega
  clear qw qs
  obtain ⟨fs, hfs⟩ : ∃ f, aI H0 sn = f := ⟨_, rfl⟩
  obtain ⟨fw, hfw⟩ : ∃ f, aI H0 wl = f := ⟨_, rfl⟩
  have asn : aI H0 sn = fs := hfs
  have awl : aI H0 wl = fw := hfw
  refine lv_iconst (v := 0) hx hb dL_law_475 rfl ?_
  refine lv_istore hx hb dL_law_476 hl (by decide) rfl (fun ls hl => ?_)
  replace hl : lv_has ls 15 [(8, .int 0), (7, .int v7), (6, .int v6), (5, .int v5), (4, .int v4), (0, .ref (sad X)), (1, .ref h0), (2, .ref mm), (3, .ref ha)] := hl
  refine lv_iconst (v := 0) hx hb dL_law_478 rfl ?_
  refine lv_istore hx hb dL_law_479 hl (by decide) rfl (fun ls hl => ?_)
  replace hl : lv_has ls 15 [(9, .int 0), (8, .int 0), (7, .int v7), (6, .int v6), (5, .int v5), (4, .int v4), (0, .ref (sad X)), (1, .ref h0), (2, .ref mm), (3, .ref ha)] := hl
  have L481 : ∀ (n23 : Nat) (H23 : Heap) (locs23 : List Loc) (v21 : Int32) (z21 : Int) (v22 : Int32) (z22 : Int) (ls : Array Slot), (4 - z21).toNat < n23 → v21.toInt = z21 → v22.toInt = z22 → 0 ≤ z21 → CLB w9 h9 (fun z => fs z + fw z) z21 z22 → aI H23 ha 0 = w9 → aI H23 ha 1 = h9 → aI H23 ha 2 = s9 → (sI H23 yd (X.1.2 8 0)).toInt = w9 → (sI H23 yd (X.1.2 8 1)).toInt = h9 → (sI H23 yd (X.1.2 8 2)).toInt = s9 → 0 ≤ z22 → z22 ≤ 999 → 0 ≤ z21 → z21 ≤ w9 → Conf X Γ H23 → va_S (AΓ Γ) s.heap H23 locs23 → Kp X Γ [3, 29, 31, 32, 33, 34, 37, 39, 40, 50, 51, 52, 53, 54, 55, 56, 57, 58, 59, 60, 61, 62, 63, 65, 67, 68, 69, 70, 71] H0 H23 → (aI H23 sn = fs) → (aI H23 wl = fw) → lv_has ls 15 [(9, .int v21), (8, .int v22), (7, .int v7), (6, .int v6), (5, .int v5), (4, .int v4), (0, .ref (sad X)), (1, .ref h0), (2, .ref mm), (3, .ref ha)] → W p l e room_1 s m args below meth c H23 locs23 133 8682 Qz (F0 m 481 ls []) := by
    intro n23
    induction n23 with
    | zero => intro H23 locs23 v21 z21 v22 z22 ls hm23 ev21 ev22 iv23_0 iv23_1 iv23_2 iv23_3 iv23_4 iv23_5 iv23_6 iv23_7 iv23_8 iv23_9 iv23_10 iv23_11 hC23 hS23 hKp23 asn awl hl; exact absurd hm23 (Nat.not_lt_zero _)
    | succ n23 ih23 =>
      intro H23 locs23 v21 z21 v22 z22 ls hm23 ev21 ev22 iv23_0 iv23_1 iv23_2 iv23_3 iv23_4 iv23_5 iv23_6 iv23_7 iv23_8 iv23_9 iv23_10 iv23_11 hC23 hS23 hKp23 asn awl hl
      have clb := iv23_1
      refine lv_iload hx hb dL_law_481 (lv_at hl 0 rfl) ?_
      refine lv_aload_n hx hb dL_law_483 rfl (lv_at hl 9 rfl) ?_
      refine lv_iconst (v := 0) hx hb dL_law_484 rfl ?_
      refine q_iald E hC23 gha rfl rfl (rl_91_0 (show (0 : Int32).toInt = 0 from by decide) (by omega) (by omega)) (i_in (a := 0) (show (0 : Int32).toInt = 0 from by decide) (by omega) (by omega)) dL_law_485 (fun v24 ev24 lv24 uv24 => ?_)
      have m25 : aI H23 ha (0) = v24.toInt := aI_of (show (0 : Int32).toInt = 0 from by decide) ev24
      refine q_icmp_ge hx hb (a := z21) (b := v24.toInt) ev21 rfl (tgt := 552) dL_law_486 rfl (fun c26 => ?_) (fun c26 => ?_)
      · exact hk H23 locs23 v22 (z22) ls hC23 hS23 hKp23 ev22 (by rw [asn, awl]; have q9 : (z21 : Int) = w9 := (by omega); rw [q9] at clb; exact clb) (by omega) (lv_sub hl [1, 2, 3, 4, 5, 6, 7, 8, 9] rfl)
      · refine lv_sipush (v := 999) hx hb dL_law_489 rfl ?_
        refine lv_istore hx hb dL_law_492 hl (by decide) rfl (fun ls hl => ?_)
        replace hl : lv_has ls 15 [(10, .int 999), (9, .int v21), (8, .int v22), (7, .int v7), (6, .int v6), (5, .int v5), (4, .int v4), (0, .ref (sad X)), (1, .ref h0), (2, .ref mm), (3, .ref ha)] := hl
        refine lv_iconst (v := 0) hx hb dL_law_494 rfl ?_
        refine lv_istore hx hb dL_law_495 hl (by decide) rfl (fun ls hl => ?_)
        replace hl : lv_has ls 15 [(11, .int 0), (10, .int 999), (9, .int v21), (8, .int v22), (7, .int v7), (6, .int v6), (5, .int v5), (4, .int v4), (0, .ref (sad X)), (1, .ref h0), (2, .ref mm), (3, .ref ha)] := hl
        have L497 : ∀ (n29 : Nat) (H29 : Heap) (locs29 : List Loc) (v27 : Int32) (z27 : Int) (v28 : Int32) (z28 : Int) (ls : Array Slot), (3 - z27).toNat < n29 → v27.toInt = z27 → v28.toInt = z28 → 0 ≤ z27 → (∀ y9 : Int, 0 ≤ y9 → y9 < z27 → z28 ≤ fs (y9 * 6 + z21) + fw (y9 * 6 + z21)) → aI H29 ha 0 = w9 → aI H29 ha 1 = h9 → aI H29 ha 2 = s9 → (sI H29 yd (X.1.2 8 0)).toInt = w9 → (sI H29 yd (X.1.2 8 1)).toInt = h9 → (sI H29 yd (X.1.2 8 2)).toInt = s9 → 0 ≤ z28 → z28 ≤ 999 → 0 ≤ z27 → z27 ≤ h9 → Conf X Γ H29 → va_S (AΓ Γ) s.heap H29 locs29 → Kp X Γ [3, 29, 31, 32, 33, 34, 37, 39, 40, 50, 51, 52, 53, 54, 55, 56, 57, 58, 59, 60, 61, 62, 63, 65, 67, 68, 69, 70, 71] H0 H29 → (aI H29 sn = fs) → (aI H29 wl = fw) → lv_has ls 15 [(11, .int v27), (10, .int v28), (9, .int v21), (8, .int v22), (7, .int v7), (6, .int v6), (5, .int v5), (4, .int v4), (0, .ref (sad X)), (1, .ref h0), (2, .ref mm), (3, .ref ha)] → W p l e room_1 s m args below meth c H29 locs29 133 8682 Qz (F0 m 497 ls []) := by
          intro n29
          induction n29 with
          | zero => intro H29 locs29 v27 z27 v28 z28 ls hm29 ev27 ev28 iv29_0 iv29_1 iv29_2 iv29_3 iv29_4 iv29_5 iv29_6 iv29_7 iv29_8 iv29_9 iv29_10 iv29_11 hC29 hS29 hKp29 asn awl hl; exact absurd hm29 (Nat.not_lt_zero _)
          | succ n29 ih29 =>
            intro H29 locs29 v27 z27 v28 z28 ls hm29 ev27 ev28 iv29_0 iv29_1 iv29_2 iv29_3 iv29_4 iv29_5 iv29_6 iv29_7 iv29_8 iv29_9 iv29_10 iv29_11 hC29 hS29 hKp29 asn awl hl
            have hls := iv29_1
            refine lv_iload hx hb dL_law_497 (lv_at hl 0 rfl) ?_
            refine lv_aload_n hx hb dL_law_499 rfl (lv_at hl 11 rfl) ?_
            refine lv_iconst (v := 1) hx hb dL_law_500 rfl ?_
            refine q_iald E hC29 gha rfl rfl (rl_91_1 (show (1 : Int32).toInt = 1 from by decide) (by omega) (by omega)) (i_in (a := 1) (show (1 : Int32).toInt = 1 from by decide) (by omega) (by omega)) dL_law_501 (fun v30 ev30 lv30 uv30 => ?_)
            have m31 : aI H29 ha (1) = v30.toInt := aI_of (show (1 : Int32).toInt = 1 from by decide) ev30
            refine q_icmp_ge hx hb (a := z27) (b := v30.toInt) ev27 rfl (tgt := 537) dL_law_502 rfl (fun c32 => ?_) (fun c32 => ?_)
            · refine lv_iload hx hb dL_law_537 (lv_at hl 3 rfl) ?_
              refine lv_iload hx hb dL_law_539 (lv_at hl 1 rfl) ?_
              refine r_mmax E hl.1 w_1042 mathw_max (a := z22) (b := z28) ev22 ev28 (by decide) (Nat.zero_le _) dL_law_541 (fun v33 mv33a mv33b mv33c => ?_)
              refine lv_istore hx hb dL_law_544 hl (by decide) rfl (fun ls hl => ?_)
              replace hl : lv_has ls 15 [(8, .int v33), (11, .int v27), (10, .int v28), (9, .int v21), (7, .int v7), (6, .int v6), (5, .int v5), (4, .int v4), (0, .ref (sad X)), (1, .ref h0), (2, .ref mm), (3, .ref ha)] := hl
              have clb2 : CLB w9 h9 (fun z => fs z + fw z) (z21 + 1) v33.toInt := clb.step (by omega) (fun y9 a b => hls y9 a (by omega)) (by omega)
              obtain ⟨v34, ev34⟩ : ∃ z, z = v21 + Int32.ofInt 1 := ⟨_, rfl⟩
              have ev34i : v34.toInt = (z21 + 1) := i_add ev34 ev21 (by decide) (by omega) (by omega)
              refine lv_iinc hx hb dL_law_546 hl (k := 3) rfl ev34.symm (by decide) rfl (fun ls hl => ?_)
              replace hl : lv_has ls 15 [(9, .int v34), (8, .int v33), (11, .int v27), (10, .int v28), (7, .int v7), (6, .int v6), (5, .int v5), (4, .int v4), (0, .ref (sad X)), (1, .ref h0), (2, .ref mm), (3, .ref ha)] := hl
              refine lv_goto (tgt := 481) hx hb dL_law_549 rfl ?_
              exact ih23 H29 locs29 v34 ((z21 + 1)) v33 (v33.toInt) ls (ms_lt hm23 (by omega) (by omega)) ev34i rfl (by omega) (clb2) (by omega) (by omega) (by omega) (by omega) (by omega) (by omega) (by omega) (by omega) (by omega) (by omega) hC29 hS29 hKp29 asn awl (lv_sub hl [0, 1, 4, 5, 6, 7, 8, 9, 10, 11] rfl)
            · refine lv_iload hx hb dL_law_505 (lv_at hl 1 rfl) ?_
              refine lv_aload_n hx hb dL_law_507 rfl (lv_at hl 9 rfl) ?_
              refine lv_iload hx hb dL_law_508 (lv_at hl 2 rfl) ?_
              refine lv_iload hx hb dL_law_510 (lv_at hl 0 rfl) ?_
              refine lv_iconst (v := 0) hx hb dL_law_512 rfl ?_
              refine r_goI (r_runV (As := [.int v21, .int v27, .int 0]) (rest := [.int v28]) E hC29 hS29 (m_X11_cell l X Γ H29 hC29 h0 g0 v21 (a1 := z21) ev21 v27 (a2 := z27) ev27 0 (a3 := 0) (by decide) yd ((kp_R hKp29 g0 (ci := 10) (k := 5) rfl (by decide) rfl).trans hyd) gyd sn wl su lw ic kn hd us br ar fi (yn.kp gyd hKp29 rfl) (by omega) (by omega) (by omega) (by omega) (by omega) (by omega) (by omega) (by omega)) cw_X11_cell cl_RL_106 g0 ⟨rfl, rfl⟩ rfl hl.1 rfl (show _ ≤ _ from by simp [Value.category]) (by decide) dL_law_513) hS29 (fun v35 H35 locs35 hr35 hC35 hS35 => ?_)
              obtain ⟨hp35, hr35⟩ := hr35
              have hKp35 := hKp29.tr (hp35.mono rfl)
              have m36 : aI H35 ha (0) = aI H29 ha (0) := aI_kp hp35 gha rfl rfl
              have m37 : aI H35 ha (1) = aI H29 ha (1) := aI_kp hp35 gha rfl rfl
              have m38 : aI H35 ha (2) = aI H29 ha (2) := aI_kp hp35 gha rfl rfl
              have m39 : (sI H35 yd (X.1.2 8 0)).toInt = (sI H29 yd (X.1.2 8 0)).toInt := congrArg Int32.toInt (kp_I hp35 gyd (ci := 8) (k := 0) rfl (by decide) rfl)
              have m40 : (sI H35 yd (X.1.2 8 1)).toInt = (sI H29 yd (X.1.2 8 1)).toInt := congrArg Int32.toInt (kp_I hp35 gyd (ci := 8) (k := 1) rfl (by decide) rfl)
              have m41 : (sI H35 yd (X.1.2 8 2)).toInt = (sI H29 yd (X.1.2 8 2)).toInt := congrArg Int32.toInt (kp_I hp35 gyd (ci := 8) (k := 2) rfl (by decide) rfl)
              replace asn : aI H35 sn = fs := (funext fun _ => aI_kp hp35 gsn rfl rfl).trans asn
              replace awl : aI H35 wl = fw := (funext fun _ => aI_kp hp35 gwl rfl rfl).trans awl
              obtain ⟨f35_0, f35_1, f35_2, f35_3, f35_4⟩ := hr35
              have hc1 : v35.toInt = fs (z27 * 6 + z21) := by rw [f35_0 rfl, ← aI_kp hp35 gsn rfl rfl, asn]
              replace f35_0 := f35_0 rfl
              clear f35_1
              clear f35_2
              refine lv_aload_n hx hb dL_law_516 rfl (lv_at hl 9 rfl) ?_
              refine lv_iload hx hb dL_law_517 (lv_at hl 2 rfl) ?_
              refine lv_iload hx hb dL_law_519 (lv_at hl 0 rfl) ?_
              refine lv_iconst (v := 1) hx hb dL_law_521 rfl ?_
              refine r_goI (r_runV (As := [.int v21, .int v27, .int 1]) (rest := [.int v35, .int v28]) E hC35 hS35 (m_X11_cell l X Γ H35 hC35 h0 g0 v21 (a1 := z21) ev21 v27 (a2 := z27) ev27 1 (a3 := 1) (by decide) yd ((kp_R hKp35 g0 (ci := 10) (k := 5) rfl (by decide) rfl).trans hyd) gyd sn wl su lw ic kn hd us br ar fi (yn.kp gyd hKp35 rfl) (by omega) (by omega) (by omega) (by omega) (by omega) (by omega) (by omega) (by omega)) cw_X11_cell cl_RL_106 g0 ⟨rfl, rfl⟩ rfl hl.1 rfl (show _ ≤ _ from by simp [Value.category]) (by decide) dL_law_522) hS35 (fun v42 H42 locs42 hr42 hC42 hS42 => ?_)
              obtain ⟨hp42, hr42⟩ := hr42
              have hKp42 := hKp35.tr (hp42.mono rfl)
              have m43 : aI H42 ha (0) = aI H35 ha (0) := aI_kp hp42 gha rfl rfl
              have m44 : aI H42 ha (1) = aI H35 ha (1) := aI_kp hp42 gha rfl rfl
              have m45 : aI H42 ha (2) = aI H35 ha (2) := aI_kp hp42 gha rfl rfl
              have m46 : (sI H42 yd (X.1.2 8 0)).toInt = (sI H35 yd (X.1.2 8 0)).toInt := congrArg Int32.toInt (kp_I hp42 gyd (ci := 8) (k := 0) rfl (by decide) rfl)
              have m47 : (sI H42 yd (X.1.2 8 1)).toInt = (sI H35 yd (X.1.2 8 1)).toInt := congrArg Int32.toInt (kp_I hp42 gyd (ci := 8) (k := 1) rfl (by decide) rfl)
              have m48 : (sI H42 yd (X.1.2 8 2)).toInt = (sI H35 yd (X.1.2 8 2)).toInt := congrArg Int32.toInt (kp_I hp42 gyd (ci := 8) (k := 2) rfl (by decide) rfl)
              replace asn : aI H42 sn = fs := (funext fun _ => aI_kp hp42 gsn rfl rfl).trans asn
              replace awl : aI H42 wl = fw := (funext fun _ => aI_kp hp42 gwl rfl rfl).trans awl
              obtain ⟨f42_0, f42_1, f42_2, f42_3, f42_4⟩ := hr42
              have hc2 : v42.toInt = fw (z27 * 6 + z21) := by rw [f42_1 rfl, ← aI_kp hp42 gwl rfl rfl, awl]
              clear f42_0
              replace f42_1 := f42_1 rfl
              clear f42_2
              refine lv_iadd hx hb dL_law_525 (lv_topi (fun v49 ev49 => ?_))
              have ev49i : v49.toInt = (v35.toInt + v42.toInt) := i_add ev49 rfl rfl (by omega) (by omega)
              refine r_mmin E hl.1 w_1043 mathw_min (a := z28) (b := (v35.toInt + v42.toInt)) ev28 ev49i (by decide) (Nat.zero_le _) dL_law_526 (fun v50 mv50a mv50b mv50c => ?_)
              refine lv_istore hx hb dL_law_529 hl (by decide) rfl (fun ls hl => ?_)
              replace hl : lv_has ls 15 [(10, .int v50), (11, .int v27), (9, .int v21), (8, .int v22), (7, .int v7), (6, .int v6), (5, .int v5), (4, .int v4), (0, .ref (sad X)), (1, .ref h0), (2, .ref mm), (3, .ref ha)] := hl
              have hls2 : ∀ y9 : Int, 0 ≤ y9 → y9 < z27 + 1 → v50.toInt ≤ fs (y9 * 6 + z21) + fw (y9 * 6 + z21) := fun y9 a b => by
                by_cases e : y9 = z27
                · rw [e]; omega
                · have q := hls y9 a (by omega)
                  omega
              obtain ⟨v51, ev51⟩ : ∃ z, z = v27 + Int32.ofInt 1 := ⟨_, rfl⟩
              have ev51i : v51.toInt = (z27 + 1) := i_add ev51 ev27 (by decide) (by omega) (by omega)
              refine lv_iinc hx hb dL_law_531 hl (k := 1) rfl ev51.symm (by decide) rfl (fun ls hl => ?_)
              replace hl : lv_has ls 15 [(11, .int v51), (10, .int v50), (9, .int v21), (8, .int v22), (7, .int v7), (6, .int v6), (5, .int v5), (4, .int v4), (0, .ref (sad X)), (1, .ref h0), (2, .ref mm), (3, .ref ha)] := hl
              refine lv_goto (tgt := 497) hx hb dL_law_534 rfl ?_
              exact ih29 H42 locs42 v51 ((z27 + 1)) v50 (v50.toInt) ls (ms_lt hm29 (by omega) (by omega)) ev51i rfl (by omega) (hls2) (by omega) (by omega) (by omega) (by omega) (by omega) (by omega) (by omega) (by omega) (by omega) (by omega) hC42 hS42 hKp42 asn awl hl
        exact L497 _ H23 locs23 0 0 999 999 ls (Nat.lt_succ_self _) (by decide) (by decide) (by omega) (fun y9 a b => by omega) (by omega) (by omega) (by omega) (by omega) (by omega) (by omega) (by omega) (by omega) (by omega) (by omega) hC23 hS23 hKp23 asn awl hl
  exact L481 _ H0 locs0 0 0 0 0 ls (Nat.lt_succ_self _) (by decide) (by decide) (by omega) (CLB.nil) (by omega) (by omega) (by omega) (by omega) (by omega) (by omega) (by omega) (by omega) (by omega) (by omega) hC0 hS0 hKp0 asn awl hl
