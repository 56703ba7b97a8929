set_option maxRecDepth 100000 in
set_option maxHeartbeats 8000000 in
theorem sg_cel (l : Launch) {p : Program} {e : Env} {s : State} {m : MethodId} {args : Array Value} {below : List Frame} {meth : Method} {c : Code} {X : xW} {Γ : Nat → Option Nat} {Qz : State → Prop} (E : Ev p s m args meth c cL_law 15 "SnowFortsLaw" ret X Γ s.heap) (H0 : Heap) (hC0 : Conf X Γ H0) (locs0 : List Loc) (hS0 : va_S (AΓ Γ) s.heap H0 locs0) (h0 : Nat) (g0 : Γ h0 = some 0) (mm ha : Nat) (gmm : Γ mm = some 90) (gha : Γ ha = some 91) (yd : Nat) (hyd : sR H0 h0 (X.1.2 10 5) = some yd) (gyd : Γ yd = some 5) (sn wl su lw ic kn hd us br ar fi : Nat) (yn : YN X Γ H0 yd sn wl su lw ic kn hd us br ar fi) (wk : Nat) (hwk : sR H0 h0 (X.1.2 10 12) = some wk) (gwk : Γ wk = some 7) (pa hh wt : Nat) (wn : WN X Γ H0 wk pa hh wt) (w9 h9 s9 : Int) (qw : w9 = 2 ∨ w9 = 4) (qh : 1 ≤ h9 ∧ h9 ≤ 3) (qs : s9 = 1 ∨ s9 = 2) (qa0 : aI H0 ha 0 = w9) (qa1 : aI H0 ha 1 = h9) (qa2 : aI H0 ha 2 = s9) (qy0 : (sI H0 yd (X.1.2 8 0)).toInt = w9) (qy1 : (sI H0 yd (X.1.2 8 1)).toInt = h9) (qy2 : (sI H0 yd (X.1.2 8 2)).toInt = s9) (v9 : Int32) {z9 : Int} (ev9 : v9.toInt = z9) (v7 : Int32) {z7 : Int} (ev7 : v7.toInt = z7) (v6 : Int32) {z6 : Int} (ev6 : v6.toInt = z6) (v5 : Int32) {z5 : Int} (ev5 : v5.toInt = z5) (v4 : Int32) {z4 : Int} (ev4 : v4.toInt = z4) (hpt0 : PTH w9 h9 (fun z => aI H0 sn z + aI H0 wl z) (aI H0 pa) (sI H0 wk (X.1.2 7 1)).toInt z9) {ls : Array Slot} (hl : lv_has ls 15 [(9, .int v9), (7, .int v7), (6, .int v6), (5, .int v5), (4, .int v4), (0, .ref (sad X)), (1, .ref h0), (2, .ref mm), (3, .ref ha)]) (hk : ∀ (H1 : Heap) (locs1 : List Loc) (ls : Array Slot), Conf X Γ H1 → va_S (AΓ Γ) s.heap H1 locs1 → Kp X Γ [3, 29, 31, 32, 33, 34, 37, 39, 40, 50, 51, 52, 53, 54, 55, 56, 57, 58, 59, 60, 61, 62, 63, 65, 67, 68, 69, 70, 71] H0 H1 → lv_has ls 15 [(7, .int v7), (6, .int v6), (5, .int v5), (4, .int v4), (0, .ref (sad X)), (1, .ref h0), (2, .ref mm), (3, .ref ha)] → W p l e room_1 s m args below meth c H1 locs1 133 8682 Qz (F0 m 731 ls [])) : W p l e room_1 s m args below meth c H0 locs0 133 8682 Qz (F0 m 594 ls []) := by
  have hx := E.1; have hb := E.2.1
  have hKp0 : Kp X Γ [3, 29, 31, 32, 33, 34, 37, 39, 40, 50, 51, 52, 53, 54, 55, 56, 57, 58, 59, 60, 61, 62, 63, 65, 67, 68, 69, 70, 71] H0 H0 := Kp.rf
  have gsn := yn.sn.2; have gwl := yn.wl.2; have gsu := yn.su.2; have glw := yn.lw.2; have gic := yn.ic.2; have gkn := yn.kn.2; have ghd := yn.hd.2; have gus := yn.us.2; have gbr := yn.br.2; have gar := yn.ar.2; have gfi := yn.fi.2
  have gpa := wn.pa.2; have ghh := wn.hh.2; have gwt := wn.wt.2
  have qw1 : 2 ≤ w9 ∧ w9 ≤ 4 := by omega
  have qs1 : 1 ≤ s9 ∧ s9 ≤ 2 := by omega
  clear qw qs
  obtain ⟨fs, hfs⟩ : ∃ f, aI H0 sn = f := ⟨_, rfl⟩
  obtain ⟨fw, hfw⟩ : ∃ f, aI H0 wl = f := ⟨_, rfl⟩
  obtain ⟨P9, hP9⟩ : ∃ f, aI H0 pa = f := ⟨_, rfl⟩
  obtain ⟨n9, hn9⟩ : ∃ z, (sI H0 wk (X.1.2 7 1)).toInt = z := ⟨_, rfl⟩
  have hpt : PTH w9 h9 (fun z => fs z + fw z) P9 n9 z9 := by rw [← hfs, ← hfw, ← hP9, ← hn9]; exact hpt0
  have hz0 := hpt.2.2.2.1; have hz1 := hpt.1; have hz2 := hpt.2.1
  have asn : aI H0 sn = fs := hfs
  have awl : aI H0 wl = fw := hfw
  have apa : aI H0 pa = P9 := hP9
  refine lv_iconst (v := 0) hx hb dL_law_594 rfl ?_
  refine lv_istore hx hb dL_law_595 hl (by decide) rfl (fun ls hl => ?_)
  replace hl : lv_has ls 15 [(10, .int 0), (9, .int v9), (7, .int v7), (6, .int v6), (5, .int v5), (4, .int v4), (0, .ref (sad X)), (1, .ref h0), (2, .ref mm), (3, .ref ha)] := hl
  refine lv_iconst (v := 0) hx hb dL_law_597 rfl ?_
  refine lv_istore hx hb dL_law_598 hl (by decide) rfl (fun ls hl => ?_)
  replace hl : lv_has ls 15 [(11, .int 0), (10, .int 0), (9, .int v9), (7, .int v7), (6, .int v6), (5, .int v5), (4, .int v4), (0, .ref (sad X)), (1, .ref h0), (2, .ref mm), (3, .ref ha)] := hl
  refine lv_iconst (v := 0) hx hb dL_law_600 rfl ?_
  refine lv_istore hx hb dL_law_601 hl (by decide) rfl (fun ls hl => ?_)
  replace hl : lv_has ls 15 [(12, .int 0), (11, .int 0), (10, .int 0), (9, .int v9), (7, .int v7), (6, .int v6), (5, .int v5), (4, .int v4), (0, .ref (sad X)), (1, .ref h0), (2, .ref mm), (3, .ref ha)] := hl
  refine lv_iconst (v := 0) hx hb dL_law_603 rfl ?_
  refine lv_istore hx hb dL_law_604 hl (by decide) rfl (fun ls hl => ?_)
  replace hl : lv_has ls 15 [(13, .int 0), (12, .int 0), (11, .int 0), (10, .int 0), (9, .int v9), (7, .int v7), (6, .int v6), (5, .int v5), (4, .int v4), (0, .ref (sad X)), (1, .ref h0), (2, .ref mm), (3, .ref ha)] := hl
  have L606 : ∀ (n25 : Nat) (H25 : Heap) (locs25 : List Loc) (v21 : Int32) (z21 : Int) (v22 : Int32) (z22 : Int) (v23 : Int32) (z23 : Int) (v24 : Int32) (z24 : Int) (ls : Array Slot), (n9 - z22).toNat < n25 → v21.toInt = z21 → v22.toInt = z22 → v23.toInt = z23 → v24.toInt = z24 → z24 = cst (fun z => fs z + fw z) P9 (z22).toNat → ((z22 = 0 → z23 = 0) ∧ (0 < z22 → z23 = (fun z => fs z + fw z) (P9 (z22 - 1)))) → (0 < z22 → z21 = P9 (z22 - 1) % 6) → aI H25 ha 0 = w9 → aI H25 ha 1 = h9 → aI H25 ha 2 = s9 → (sI H25 yd (X.1.2 8 0)).toInt = w9 → (sI H25 yd (X.1.2 8 1)).toInt = h9 → (sI H25 yd (X.1.2 8 2)).toInt = s9 → (sI H25 wk (X.1.2 7 1)).toInt = n9 → 0 ≤ z22 → z22 ≤ n9 → 0 ≤ z23 → z23 ≤ 198 → 0 ≤ z24 → z24 ≤ 198 * z22 → 0 ≤ z21 → z21 ≤ 5 → Conf X Γ H25 → va_S (AΓ Γ) s.heap H25 locs25 → Kp X Γ [3, 29, 31, 32, 33, 34, 37, 39, 40, 50, 51, 52, 53, 54, 55, 56, 57, 58, 59, 60, 61, 62, 63, 65, 67, 68, 69, 70, 71] H0 H25 → (aI H25 sn = fs) → (aI H25 wl = fw) → (aI H25 pa = P9) → lv_has ls 15 [(13, .int v21), (12, .int v22), (11, .int v23), (10, .int v24), (9, .int v9), (7, .int v7), (6, .int v6), (5, .int v5), (4, .int v4), (0, .ref (sad X)), (1, .ref h0), (2, .ref mm), (3, .ref ha)] → W p l e room_1 s m args below meth c H25 locs25 133 8682 Qz (F0 m 606 ls []) := by
    intro n25
    induction n25 with
    | zero => intro H25 locs25 v21 z21 v22 z22 v23 z23 v24 z24 ls hm25 ev21 ev22 ev23 ev24 iv25_0 iv25_1 iv25_2 iv25_3 iv25_4 iv25_5 iv25_6 iv25_7 iv25_8 iv25_9 iv25_10 iv25_11 iv25_12 iv25_13 iv25_14 iv25_15 iv25_16 iv25_17 hC25 hS25 hKp25 asn awl apa hl; exact absurd hm25 (Nat.not_lt_zero _)
    | succ n25 ih25 =>
      intro H25 locs25 v21 z21 v22 z22 v23 z23 v24 z24 ls hm25 ev21 ev22 ev23 ev24 iv25_0 iv25_1 iv25_2 iv25_3 iv25_4 iv25_5 iv25_6 iv25_7 iv25_8 iv25_9 iv25_10 iv25_11 iv25_12 iv25_13 iv25_14 iv25_15 iv25_16 iv25_17 hC25 hS25 hKp25 asn awl apa hl
      have hcost := iv25_0; have hat := Hd.mk iv25_1; have hlx := Hd.mk iv25_2; clear iv25_1 iv25_2
      obtain ⟨k9, hk9⟩ : ∃ z, z22 = z := ⟨_, rfl⟩
      refine lv_aload_n hx hb dL_law_606 rfl (lv_at hl 10 rfl) ?_
      refine lv_iload hx hb dL_law_607 (lv_at hl 1 rfl) ?_
      refine lv_iconst (v := 0) hx hb dL_law_609 rfl ?_
      refine r_goI (r_runV (As := [.int v22, .int 0]) (rest := []) E hC25 hS25 (m_X11_wayAt l X Γ H25 hC25 h0 g0 v22 (a1 := z22) ev22 0 (a2 := 0) (by decide) wk ((kp_R hKp25 g0 (ci := 10) (k := 12) rfl (by decide) rfl).trans hwk) gwk pa hh wt (wn.kp gwk hKp25 rfl) (by omega) (by omega)) cw_X11_wayAt cl_RL_141 g0 ⟨rfl, rfl⟩ rfl hl.1 rfl (Nat.zero_le _) (by decide) dL_law_610) hS25 (fun v26 H26 locs26 hr26 hC26 hS26 => ?_)
      obtain ⟨hp26, hr26⟩ := hr26
      have hKp26 := hKp25.tr (hp26.mono rfl)
      have m27 : aI H26 ha (0) = aI H25 ha (0) := aI_kp hp26 gha rfl rfl
      have m28 : aI H26 ha (1) = aI H25 ha (1) := aI_kp hp26 gha rfl rfl
      have m29 : aI H26 ha (2) = aI H25 ha (2) := aI_kp hp26 gha rfl rfl
      have m30 : (sI H26 yd (X.1.2 8 0)).toInt = (sI H25 yd (X.1.2 8 0)).toInt := congrArg Int32.toInt (kp_I hp26 gyd (ci := 8) (k := 0) rfl (by decide) rfl)
      have m31 : (sI H26 yd (X.1.2 8 1)).toInt = (sI H25 yd (X.1.2 8 1)).toInt := congrArg Int32.toInt (kp_I hp26 gyd (ci := 8) (k := 1) rfl (by decide) rfl)
      have m32 : (sI H26 yd (X.1.2 8 2)).toInt = (sI H25 yd (X.1.2 8 2)).toInt := congrArg Int32.toInt (kp_I hp26 gyd (ci := 8) (k := 2) rfl (by decide) rfl)
      have m33 : (sI H26 wk (X.1.2 7 4)).toInt = (sI H25 wk (X.1.2 7 4)).toInt := congrArg Int32.toInt (kp_I hp26 gwk (ci := 7) (k := 4) rfl (by decide) rfl)
      have m34 : (sI H26 wk (X.1.2 7 5)).toInt = (sI H25 wk (X.1.2 7 5)).toInt := congrArg Int32.toInt (kp_I hp26 gwk (ci := 7) (k := 5) rfl (by decide) rfl)
      have m35 : (sI H26 wk (X.1.2 7 1)).toInt = (sI H25 wk (X.1.2 7 1)).toInt := congrArg Int32.toInt (kp_I hp26 gwk (ci := 7) (k := 1) rfl (by decide) rfl)
      have m36 : (sI H26 wk (X.1.2 7 7)).toInt = (sI H25 wk (X.1.2 7 7)).toInt := congrArg Int32.toInt (kp_I hp26 gwk (ci := 7) (k := 7) rfl (by decide) rfl)
      replace asn : aI H26 sn = fs := (funext fun _ => aI_kp hp26 gsn rfl rfl).trans asn
      replace awl : aI H26 wl = fw := (funext fun _ => aI_kp hp26 gwl rfl rfl).trans awl
      replace apa : aI H26 pa = P9 := (funext fun _ => aI_kp hp26 gpa rfl rfl).trans apa
      obtain ⟨f26_0, f26_1, f26_2⟩ := hr26
      have hp1 : aI H25 pa z22 = P9 z22 := by rw [← aI_kp (z := z22) hp26 gpa rfl rfl, apa]
      rw [hp1] at f26_0; clear hp1
      have hw1 := Hd.mk f26_0; clear f26_0
      refine q_if_lt hx hb (a := v26.toInt) rfl (tgt := 700) dL_law_613 rfl (fun c37 => ?_) (fun c37 => ?_)
      · have hn8 : z22 = n9 := (wy_out hw1.get (by omega) (by omega) (by omega) (by omega)).trans (by omega)
        have he1 := hpt.2.2.2.2.2.2
        have he2 := hpt.2.2.2.2.2.1
        have he3 := hat.get.2 (by omega)
        have he4 := hlx.get (by omega)
        have he5 := hcost
        rw [hn8] at he3 he4 he5
        rw [← he3, ← he5] at he1
        have he6 := stp_0 (a := z23) (by omega)
        refine lv_iload hx hb dL_law_700 (lv_at hl 0 rfl) ?_
        refine lv_aload_n hx hb dL_law_702 rfl (lv_at hl 12 rfl) ?_
        refine lv_iconst (v := 0) hx hb dL_law_703 rfl ?_
        refine q_iald E hC26 gha rfl rfl (rl_91_0 (show (0 : Int32).toInt = 0 from by decide) (by omega) (by omega)) (i_in (a := 0) (show (0 : Int32).toInt = 0 from by decide) (by omega) (by omega)) dL_law_704 (fun v38 ev38 lv38 uv38 => ?_)
        have m39 : aI H26 ha (0) = v38.toInt := aI_of (show (0 : Int32).toInt = 0 from by decide) ev38
        refine lv_iconst (v := 1) hx hb dL_law_705 rfl ?_
        refine lv_isub hx hb dL_law_706 (lv_topi (fun v40 ev40 => ?_))
        have ev40i : v40.toInt = (v38.toInt - 1) := i_sub ev40 rfl (by decide) (by omega) (by omega)
        refine q_icmp_ne hx hb (a := z21) (b := (v38.toInt - 1)) ev21 ev40i (tgt := 729) dL_law_707 rfl (fun c41 => ?_) (fun c41 => ?_)
        · (exfalso; omega)
        · refine lv_iload hx hb dL_law_710 (lv_at hl 3 rfl) ?_
          refine lv_iload hx hb dL_law_712 (lv_at hl 2 rfl) ?_
          refine lv_iconst (v := 3) hx hb dL_law_714 rfl ?_
          refine q_icmp_le hx hb (a := z23) (b := 3) ev23 (by decide) (tgt := 722) dL_law_715 rfl (fun c42 => ?_) (fun c42 => ?_)
          · refine lv_iconst (v := 0) hx hb dL_law_722 rfl ?_
            refine lv_iadd hx hb dL_law_723 (lv_topi (fun v43 ev43 => ?_))
            have ev43i : v43.toInt = (z24 + 0) := i_add ev43 ev24 (by decide) (by omega) (by omega)
            refine lv_iload hx hb dL_law_724 (lv_at hl 4 rfl) ?_
            have c44 := i_rng v9; rw [show v9.toInt = z9 from ev9] at c44
            refine q_icmp_eq hx hb (a := (z24 + 0)) (b := z9) ev43i ev9 (tgt := 731) dL_law_726 rfl (fun c45 => ?_) (fun c45 => ?_)
            · exact hk H26 locs26 ls hC26 hS26 hKp26 (lv_sub hl [5, 6, 7, 8, 9, 10, 11, 12] rfl)
            · (exfalso; omega)
          · refine lv_iconst (v := 2) hx hb dL_law_718 rfl ?_
            refine lv_goto (tgt := 723) hx hb dL_law_719 rfl ?_
            refine lv_iadd hx hb dL_law_723 (lv_topi (fun v46 ev46 => ?_))
            have ev46i : v46.toInt = (z24 + 2) := i_add ev46 ev24 (by decide) (by omega) (by omega)
            refine lv_iload hx hb dL_law_724 (lv_at hl 4 rfl) ?_
            have c47 := i_rng v9; rw [show v9.toInt = z9 from ev9] at c47
            refine q_icmp_eq hx hb (a := (z24 + 2)) (b := z9) ev46i ev9 (tgt := 731) dL_law_726 rfl (fun c48 => ?_) (fun c48 => ?_)
            · exact hk H26 locs26 ls hC26 hS26 hKp26 (lv_sub hl [5, 6, 7, 8, 9, 10, 11, 12] rfl)
            · (exfalso; omega)
      · obtain ⟨hw1b, hw1c, hw1d⟩ := wy_in hw1.get (by omega)
        replace hw1c := hw1c rfl; clear hw1 hw1d
        refine lv_aload_n hx hb dL_law_616 rfl (lv_at hl 10 rfl) ?_
        refine lv_iload hx hb dL_law_617 (lv_at hl 1 rfl) ?_
        refine lv_iconst (v := 0) hx hb dL_law_619 rfl ?_
        refine r_goI (r_runV (As := [.int v22, .int 0]) (rest := []) E hC26 hS26 (m_X11_wayAt l X Γ H26 hC26 h0 g0 v22 (a1 := z22) ev22 0 (a2 := 0) (by decide) wk ((kp_R hKp26 g0 (ci := 10) (k := 12) rfl (by decide) rfl).trans hwk) gwk pa hh wt (wn.kp gwk hKp26 rfl) (by omega) (by omega)) cw_X11_wayAt cl_RL_141 g0 ⟨rfl, rfl⟩ rfl hl.1 rfl (Nat.zero_le _) (by decide) dL_law_620) hS26 (fun v49 H49 locs49 hr49 hC49 hS49 => ?_)
        obtain ⟨hp49, hr49⟩ := hr49
        have hKp49 := hKp26.tr (hp49.mono rfl)
        have m50 : aI H49 ha (0) = aI H26 ha (0) := aI_kp hp49 gha rfl rfl
        have m51 : aI H49 ha (1) = aI H26 ha (1) := aI_kp hp49 gha rfl rfl
        have m52 : aI H49 ha (2) = aI H26 ha (2) := aI_kp hp49 gha rfl rfl
        have m53 : (sI H49 yd (X.1.2 8 0)).toInt = (sI H26 yd (X.1.2 8 0)).toInt := congrArg Int32.toInt (kp_I hp49 gyd (ci := 8) (k := 0) rfl (by decide) rfl)
        have m54 : (sI H49 yd (X.1.2 8 1)).toInt = (sI H26 yd (X.1.2 8 1)).toInt := congrArg Int32.toInt (kp_I hp49 gyd (ci := 8) (k := 1) rfl (by decide) rfl)
        have m55 : (sI H49 yd (X.1.2 8 2)).toInt = (sI H26 yd (X.1.2 8 2)).toInt := congrArg Int32.toInt (kp_I hp49 gyd (ci := 8) (k := 2) rfl (by decide) rfl)
        have m56 : (sI H49 wk (X.1.2 7 4)).toInt = (sI H26 wk (X.1.2 7 4)).toInt := congrArg Int32.toInt (kp_I hp49 gwk (ci := 7) (k := 4) rfl (by decide) rfl)
        have m57 : (sI H49 wk (X.1.2 7 5)).toInt = (sI H26 wk (X.1.2 7 5)).toInt := congrArg Int32.toInt (kp_I hp49 gwk (ci := 7) (k := 5) rfl (by decide) rfl)
        have m58 : (sI H49 wk (X.1.2 7 1)).toInt = (sI H26 wk (X.1.2 7 1)).toInt := congrArg Int32.toInt (kp_I hp49 gwk (ci := 7) (k := 1) rfl (by decide) rfl)
        have m59 : (sI H49 wk (X.1.2 7 7)).toInt = (sI H26 wk (X.1.2 7 7)).toInt := congrArg Int32.toInt (kp_I hp49 gwk (ci := 7) (k := 7) rfl (by decide) rfl)
        replace asn : aI H49 sn = fs := (funext fun _ => aI_kp hp49 gsn rfl rfl).trans asn
        replace awl : aI H49 wl = fw := (funext fun _ => aI_kp hp49 gwl rfl rfl).trans awl
        replace apa : aI H49 pa = P9 := (funext fun _ => aI_kp hp49 gpa rfl rfl).trans apa
        obtain ⟨f49_0, f49_1, f49_2⟩ := hr49
        have hp2 : aI H26 pa z22 = P9 z22 := by rw [← aI_kp (z := z22) hp49 gpa rfl rfl, apa]
        rw [hp2] at f49_0; clear hp2
        have hw2 := (wy_at f49_0 (by omega) (by omega) (by omega)).1 rfl; clear f49_0
        have hcl := hpt.cell (j := z22) (by omega) (by omega)
        refine lv_istore hx hb dL_law_623 hl (by decide) rfl (fun ls hl => ?_)
        replace hl : lv_has ls 15 [(13, .int v49), (12, .int v22), (11, .int v23), (10, .int v24), (9, .int v9), (7, .int v7), (6, .int v6), (5, .int v5), (4, .int v4), (0, .ref (sad X)), (1, .ref h0), (2, .ref mm), (3, .ref ha)] := hl
        refine lv_aload_n hx hb dL_law_625 rfl (lv_at hl 10 rfl) ?_
        refine lv_iload hx hb dL_law_626 (lv_at hl 0 rfl) ?_
        refine lv_aload_n hx hb dL_law_628 rfl (lv_at hl 10 rfl) ?_
        refine lv_iload hx hb dL_law_629 (lv_at hl 1 rfl) ?_
        refine lv_iconst (v := 1) hx hb dL_law_631 rfl ?_
        refine r_goI (r_runV (As := [.int v22, .int 1]) (rest := [.int v49, .ref h0]) E hC49 hS49 (m_X11_wayAt l X Γ H49 hC49 h0 g0 v22 (a1 := z22) ev22 1 (a2 := 1) (by decide) wk ((kp_R hKp49 g0 (ci := 10) (k := 12) rfl (by decide) rfl).trans hwk) gwk pa hh wt (wn.kp gwk hKp49 rfl) (by omega) (by omega)) cw_X11_wayAt cl_RL_141 g0 ⟨rfl, rfl⟩ rfl hl.1 rfl (show _ ≤ _ from by simp [Value.category]) (by decide) dL_law_632) hS49 (fun v60 H60 locs60 hr60 hC60 hS60 => ?_)
        obtain ⟨hp60, hr60⟩ := hr60
        have hKp60 := hKp49.tr (hp60.mono rfl)
        have m61 : aI H60 ha (0) = aI H49 ha (0) := aI_kp hp60 gha rfl rfl
        have m62 : aI H60 ha (1) = aI H49 ha (1) := aI_kp hp60 gha rfl rfl
        have m63 : aI H60 ha (2) = aI H49 ha (2) := aI_kp hp60 gha rfl rfl
        have m64 : (sI H60 yd (X.1.2 8 0)).toInt = (sI H49 yd (X.1.2 8 0)).toInt := congrArg Int32.toInt (kp_I hp60 gyd (ci := 8) (k := 0) rfl (by decide) rfl)
        have m65 : (sI H60 yd (X.1.2 8 1)).toInt = (sI H49 yd (X.1.2 8 1)).toInt := congrArg Int32.toInt (kp_I hp60 gyd (ci := 8) (k := 1) rfl (by decide) rfl)
        have m66 : (sI H60 yd (X.1.2 8 2)).toInt = (sI H49 yd (X.1.2 8 2)).toInt := congrArg Int32.toInt (kp_I hp60 gyd (ci := 8) (k := 2) rfl (by decide) rfl)
        have m67 : (sI H60 wk (X.1.2 7 4)).toInt = (sI H49 wk (X.1.2 7 4)).toInt := congrArg Int32.toInt (kp_I hp60 gwk (ci := 7) (k := 4) rfl (by decide) rfl)
        have m68 : (sI H60 wk (X.1.2 7 5)).toInt = (sI H49 wk (X.1.2 7 5)).toInt := congrArg Int32.toInt (kp_I hp60 gwk (ci := 7) (k := 5) rfl (by decide) rfl)
        have m69 : (sI H60 wk (X.1.2 7 1)).toInt = (sI H49 wk (X.1.2 7 1)).toInt := congrArg Int32.toInt (kp_I hp60 gwk (ci := 7) (k := 1) rfl (by decide) rfl)
        have m70 : (sI H60 wk (X.1.2 7 7)).toInt = (sI H49 wk (X.1.2 7 7)).toInt := congrArg Int32.toInt (kp_I hp60 gwk (ci := 7) (k := 7) rfl (by decide) rfl)
        replace asn : aI H60 sn = fs := (funext fun _ => aI_kp hp60 gsn rfl rfl).trans asn
        replace awl : aI H60 wl = fw := (funext fun _ => aI_kp hp60 gwl rfl rfl).trans awl
        replace apa : aI H60 pa = P9 := (funext fun _ => aI_kp hp60 gpa rfl rfl).trans apa
        obtain ⟨f60_0, f60_1, f60_2⟩ := hr60
        have hp3 : aI H49 pa z22 = P9 z22 := by rw [← aI_kp (z := z22) hp60 gpa rfl rfl, apa]
        rw [hp3] at f60_0; clear hp3
        have hw3 := (wy_at f60_0 (by omega) (by omega) (by omega)).2 rfl; clear f60_0
        refine lv_iconst (v := 0) hx hb dL_law_635 rfl ?_
        refine r_goI (r_runV (As := [.int v49, .int v60, .int 0]) (rest := []) E hC60 hS60 (m_X11_cell l X Γ H60 hC60 h0 g0 v49 (a1 := v49.toInt) rfl v60 (a2 := v60.toInt) rfl 0 (a3 := 0) (by decide) yd ((kp_R hKp60 g0 (ci := 10) (k := 5) rfl (by decide) rfl).trans hyd) gyd sn wl su lw ic kn hd us br ar fi (yn.kp gyd hKp60 rfl) (by omega) (by omega) (by omega) (by omega) (by omega) (by omega) (by omega) (by omega)) cw_X11_cell cl_RL_106 g0 ⟨rfl, rfl⟩ rfl hl.1 rfl (Nat.zero_le _) (by decide) dL_law_636) hS60 (fun v71 H71 locs71 hr71 hC71 hS71 => ?_)
        obtain ⟨hp71, hr71⟩ := hr71
        have hKp71 := hKp60.tr (hp71.mono rfl)
        have m72 : aI H71 ha (0) = aI H60 ha (0) := aI_kp hp71 gha rfl rfl
        have m73 : aI H71 ha (1) = aI H60 ha (1) := aI_kp hp71 gha rfl rfl
        have m74 : aI H71 ha (2) = aI H60 ha (2) := aI_kp hp71 gha rfl rfl
        have m75 : (sI H71 yd (X.1.2 8 0)).toInt = (sI H60 yd (X.1.2 8 0)).toInt := congrArg Int32.toInt (kp_I hp71 gyd (ci := 8) (k := 0) rfl (by decide) rfl)
        have m76 : (sI H71 yd (X.1.2 8 1)).toInt = (sI H60 yd (X.1.2 8 1)).toInt := congrArg Int32.toInt (kp_I hp71 gyd (ci := 8) (k := 1) rfl (by decide) rfl)
        have m77 : (sI H71 yd (X.1.2 8 2)).toInt = (sI H60 yd (X.1.2 8 2)).toInt := congrArg Int32.toInt (kp_I hp71 gyd (ci := 8) (k := 2) rfl (by decide) rfl)
        have m78 : (sI H71 wk (X.1.2 7 4)).toInt = (sI H60 wk (X.1.2 7 4)).toInt := congrArg Int32.toInt (kp_I hp71 gwk (ci := 7) (k := 4) rfl (by decide) rfl)
        have m79 : (sI H71 wk (X.1.2 7 5)).toInt = (sI H60 wk (X.1.2 7 5)).toInt := congrArg Int32.toInt (kp_I hp71 gwk (ci := 7) (k := 5) rfl (by decide) rfl)
        have m80 : (sI H71 wk (X.1.2 7 1)).toInt = (sI H60 wk (X.1.2 7 1)).toInt := congrArg Int32.toInt (kp_I hp71 gwk (ci := 7) (k := 1) rfl (by decide) rfl)
        have m81 : (sI H71 wk (X.1.2 7 7)).toInt = (sI H60 wk (X.1.2 7 7)).toInt := congrArg Int32.toInt (kp_I hp71 gwk (ci := 7) (k := 7) rfl (by decide) rfl)
        replace asn : aI H71 sn = fs := (funext fun _ => aI_kp hp71 gsn rfl rfl).trans asn
        replace awl : aI H71 wl = fw := (funext fun _ => aI_kp hp71 gwl rfl rfl).trans awl
        replace apa : aI H71 pa = P9 := (funext fun _ => aI_kp hp71 gpa rfl rfl).trans apa
        obtain ⟨f71_0, f71_1, f71_2, f71_3, f71_4⟩ := hr71
        have hc1 : v71.toInt = fs (P9 z22) := by rw [f71_0 rfl, show (v60.toInt * 6 + v49.toInt : Int) = P9 z22 by omega, ← aI_kp hp71 gsn rfl rfl, asn]
        replace f71_0 := f71_0 rfl
        clear f71_1
        clear f71_2
        refine lv_aload_n hx hb dL_law_639 rfl (lv_at hl 10 rfl) ?_
        refine lv_iload hx hb dL_law_640 (lv_at hl 0 rfl) ?_
        refine lv_aload_n hx hb dL_law_642 rfl (lv_at hl 10 rfl) ?_
        refine lv_iload hx hb dL_law_643 (lv_at hl 1 rfl) ?_
        refine lv_iconst (v := 1) hx hb dL_law_645 rfl ?_
        refine r_goI (r_runV (As := [.int v22, .int 1]) (rest := [.int v49, .ref h0, .int v71]) E hC71 hS71 (m_X11_wayAt l X Γ H71 hC71 h0 g0 v22 (a1 := z22) ev22 1 (a2 := 1) (by decide) wk ((kp_R hKp71 g0 (ci := 10) (k := 12) rfl (by decide) rfl).trans hwk) gwk pa hh wt (wn.kp gwk hKp71 rfl) (by omega) (by omega)) cw_X11_wayAt cl_RL_141 g0 ⟨rfl, rfl⟩ rfl hl.1 rfl (show _ ≤ _ from by simp [Value.category]) (by decide) dL_law_646) hS71 (fun v82 H82 locs82 hr82 hC82 hS82 => ?_)
        obtain ⟨hp82, hr82⟩ := hr82
        have hKp82 := hKp71.tr (hp82.mono rfl)
        have m83 : aI H82 ha (0) = aI H71 ha (0) := aI_kp hp82 gha rfl rfl
        have m84 : aI H82 ha (1) = aI H71 ha (1) := aI_kp hp82 gha rfl rfl
        have m85 : aI H82 ha (2) = aI H71 ha (2) := aI_kp hp82 gha rfl rfl
        have m86 : (sI H82 yd (X.1.2 8 0)).toInt = (sI H71 yd (X.1.2 8 0)).toInt := congrArg Int32.toInt (kp_I hp82 gyd (ci := 8) (k := 0) rfl (by decide) rfl)
        have m87 : (sI H82 yd (X.1.2 8 1)).toInt = (sI H71 yd (X.1.2 8 1)).toInt := congrArg Int32.toInt (kp_I hp82 gyd (ci := 8) (k := 1) rfl (by decide) rfl)
        have m88 : (sI H82 yd (X.1.2 8 2)).toInt = (sI H71 yd (X.1.2 8 2)).toInt := congrArg Int32.toInt (kp_I hp82 gyd (ci := 8) (k := 2) rfl (by decide) rfl)
        have m89 : (sI H82 wk (X.1.2 7 4)).toInt = (sI H71 wk (X.1.2 7 4)).toInt := congrArg Int32.toInt (kp_I hp82 gwk (ci := 7) (k := 4) rfl (by decide) rfl)
        have m90 : (sI H82 wk (X.1.2 7 5)).toInt = (sI H71 wk (X.1.2 7 5)).toInt := congrArg Int32.toInt (kp_I hp82 gwk (ci := 7) (k := 5) rfl (by decide) rfl)
        have m91 : (sI H82 wk (X.1.2 7 1)).toInt = (sI H71 wk (X.1.2 7 1)).toInt := congrArg Int32.toInt (kp_I hp82 gwk (ci := 7) (k := 1) rfl (by decide) rfl)
        have m92 : (sI H82 wk (X.1.2 7 7)).toInt = (sI H71 wk (X.1.2 7 7)).toInt := congrArg Int32.toInt (kp_I hp82 gwk (ci := 7) (k := 7) rfl (by decide) rfl)
        replace asn : aI H82 sn = fs := (funext fun _ => aI_kp hp82 gsn rfl rfl).trans asn
        replace awl : aI H82 wl = fw := (funext fun _ => aI_kp hp82 gwl rfl rfl).trans awl
        replace apa : aI H82 pa = P9 := (funext fun _ => aI_kp hp82 gpa rfl rfl).trans apa
        obtain ⟨f82_0, f82_1, f82_2⟩ := hr82
        have hp4 : aI H71 pa z22 = P9 z22 := by rw [← aI_kp (z := z22) hp82 gpa rfl rfl, apa]
        rw [hp4] at f82_0; clear hp4
        have hw4 := (wy_at f82_0 (by omega) (by omega) (by omega)).2 rfl; clear f82_0
        refine lv_iconst (v := 1) hx hb dL_law_649 rfl ?_
        refine r_goI (r_runV (As := [.int v49, .int v82, .int 1]) (rest := [.int v71]) E hC82 hS82 (m_X11_cell l X Γ H82 hC82 h0 g0 v49 (a1 := v49.toInt) rfl v82 (a2 := v82.toInt) rfl 1 (a3 := 1) (by decide) yd ((kp_R hKp82 g0 (ci := 10) (k := 5) rfl (by decide) rfl).trans hyd) gyd sn wl su lw ic kn hd us br ar fi (yn.kp gyd hKp82 rfl) (by omega) (by omega) (by omega) (by omega) (by omega) (by omega) (by omega) (by omega)) cw_X11_cell cl_RL_106 g0 ⟨rfl, rfl⟩ rfl hl.1 rfl (show _ ≤ _ from by simp [Value.category]) (by decide) dL_law_650) hS82 (fun v93 H93 locs93 hr93 hC93 hS93 => ?_)
        obtain ⟨hp93, hr93⟩ := hr93
        have hKp93 := hKp82.tr (hp93.mono rfl)
        have m94 : aI H93 ha (0) = aI H82 ha (0) := aI_kp hp93 gha rfl rfl
        have m95 : aI H93 ha (1) = aI H82 ha (1) := aI_kp hp93 gha rfl rfl
        have m96 : aI H93 ha (2) = aI H82 ha (2) := aI_kp hp93 gha rfl rfl
        have m97 : (sI H93 yd (X.1.2 8 0)).toInt = (sI H82 yd (X.1.2 8 0)).toInt := congrArg Int32.toInt (kp_I hp93 gyd (ci := 8) (k := 0) rfl (by decide) rfl)
        have m98 : (sI H93 yd (X.1.2 8 1)).toInt = (sI H82 yd (X.1.2 8 1)).toInt := congrArg Int32.toInt (kp_I hp93 gyd (ci := 8) (k := 1) rfl (by decide) rfl)
        have m99 : (sI H93 yd (X.1.2 8 2)).toInt = (sI H82 yd (X.1.2 8 2)).toInt := congrArg Int32.toInt (kp_I hp93 gyd (ci := 8) (k := 2) rfl (by decide) rfl)
        have m100 : (sI H93 wk (X.1.2 7 4)).toInt = (sI H82 wk (X.1.2 7 4)).toInt := congrArg Int32.toInt (kp_I hp93 gwk (ci := 7) (k := 4) rfl (by decide) rfl)
        have m101 : (sI H93 wk (X.1.2 7 5)).toInt = (sI H82 wk (X.1.2 7 5)).toInt := congrArg Int32.toInt (kp_I hp93 gwk (ci := 7) (k := 5) rfl (by decide) rfl)
        have m102 : (sI H93 wk (X.1.2 7 1)).toInt = (sI H82 wk (X.1.2 7 1)).toInt := congrArg Int32.toInt (kp_I hp93 gwk (ci := 7) (k := 1) rfl (by decide) rfl)
        have m103 : (sI H93 wk (X.1.2 7 7)).toInt = (sI H82 wk (X.1.2 7 7)).toInt := congrArg Int32.toInt (kp_I hp93 gwk (ci := 7) (k := 7) rfl (by decide) rfl)
        replace asn : aI H93 sn = fs := (funext fun _ => aI_kp hp93 gsn rfl rfl).trans asn
        replace awl : aI H93 wl = fw := (funext fun _ => aI_kp hp93 gwl rfl rfl).trans awl
        replace apa : aI H93 pa = P9 := (funext fun _ => aI_kp hp93 gpa rfl rfl).trans apa
        obtain ⟨f93_0, f93_1, f93_2, f93_3, f93_4⟩ := hr93
        have hc2 : v93.toInt = fw (P9 z22) := by rw [f93_1 rfl, show (v82.toInt * 6 + v49.toInt : Int) = P9 z22 by omega, ← aI_kp hp93 gwl rfl rfl, awl]
        clear f93_0
        replace f93_1 := f93_1 rfl
        clear f93_2
        refine lv_iadd hx hb dL_law_653 (lv_topi (fun v104 ev104 => ?_))
        have ev104i : v104.toInt = (v71.toInt + v93.toInt) := i_add ev104 rfl rfl (by omega) (by omega)
        refine lv_istore hx hb dL_law_654 hl (by decide) rfl (fun ls hl => ?_)
        replace hl : lv_has ls 15 [(14, .int v104), (13, .int v49), (12, .int v22), (11, .int v23), (10, .int v24), (9, .int v9), (7, .int v7), (6, .int v6), (5, .int v5), (4, .int v4), (0, .ref (sad X)), (1, .ref h0), (2, .ref mm), (3, .ref ha)] := hl
        refine lv_iload hx hb dL_law_656 (lv_at hl 4 rfl) ?_
        refine lv_iload hx hb dL_law_658 (lv_at hl 0 rfl) ?_
        refine lv_iload hx hb dL_law_660 (lv_at hl 3 rfl) ?_
        refine q_icmp_le hx hb (a := (v71.toInt + v93.toInt)) (b := z23) ev104i ev23 (tgt := 673) dL_law_662 rfl (fun c105 => ?_) (fun c105 => ?_)
        · refine lv_iload hx hb dL_law_673 (lv_at hl 3 rfl) ?_
          refine lv_iload hx hb dL_law_675 (lv_at hl 0 rfl) ?_
          refine lv_isub hx hb dL_law_677 (lv_topi (fun v106 ev106 => ?_))
          have ev106i : v106.toInt = (z23 - (v71.toInt + v93.toInt)) := i_sub ev106 ev23 ev104i (by omega) (by omega)
          refine lv_iconst (v := 3) hx hb dL_law_678 rfl ?_
          refine q_icmp_le hx hb (a := (z23 - (v71.toInt + v93.toInt))) (b := 3) ev106i (by decide) (tgt := 686) dL_law_679 rfl (fun c107 => ?_) (fun c107 => ?_)
          · refine lv_iconst (v := 0) hx hb dL_law_686 rfl ?_
            have htop : (v71.toInt + v93.toInt) = (fun z => fs z + fw z) (P9 z22) := by show _ = fs (P9 z22) + fw (P9 z22); omega
            have hcx := cst_nx (ft := (fun z => fs z + fw z)) (p := P9) (k := z22) (by omega) hat.get htop
            have hst9 : 0 = stp z23 (v71.toInt + v93.toInt) := by unfold stp; first | (rw [if_pos (by omega)]) | (rw [if_neg (by omega), if_pos (by omega)]) | (rw [if_neg (by omega), if_neg (by omega)])
            refine lv_iadd hx hb dL_law_687 (lv_topi (fun v108 ev108 => ?_))
            have ev108i : v108.toInt = (z24 + 0) := i_add ev108 ev24 (by decide) (by omega) (by omega)
            refine lv_istore hx hb dL_law_688 hl (by decide) rfl (fun ls hl => ?_)
            replace hl : lv_has ls 15 [(10, .int v108), (14, .int v104), (13, .int v49), (12, .int v22), (11, .int v23), (9, .int v9), (7, .int v7), (6, .int v6), (5, .int v5), (4, .int v4), (0, .ref (sad X)), (1, .ref h0), (2, .ref mm), (3, .ref ha)] := hl
            refine lv_iload hx hb dL_law_690 (lv_at hl 1 rfl) ?_
            refine lv_istore hx hb dL_law_692 hl (by decide) rfl (fun ls hl => ?_)
            replace hl : lv_has ls 15 [(11, .int v104), (10, .int v108), (14, .int v104), (13, .int v49), (12, .int v22), (9, .int v9), (7, .int v7), (6, .int v6), (5, .int v5), (4, .int v4), (0, .ref (sad X)), (1, .ref h0), (2, .ref mm), (3, .ref ha)] := hl
            obtain ⟨v109, ev109⟩ : ∃ z, z = v22 + Int32.ofInt 1 := ⟨_, rfl⟩
            have ev109i : v109.toInt = (z22 + 1) := i_add ev109 ev22 (by decide) (by omega) (by omega)
            refine lv_iinc hx hb dL_law_694 hl (k := 4) rfl ev109.symm (by decide) rfl (fun ls hl => ?_)
            replace hl : lv_has ls 15 [(12, .int v109), (11, .int v104), (10, .int v108), (14, .int v104), (13, .int v49), (9, .int v9), (7, .int v7), (6, .int v6), (5, .int v5), (4, .int v4), (0, .ref (sad X)), (1, .ref h0), (2, .ref mm), (3, .ref ha)] := hl
            refine lv_goto (tgt := 606) hx hb dL_law_697 rfl ?_
            exact ih25 H93 locs93 v49 (v49.toInt) v109 ((z22 + 1)) v104 ((v71.toInt + v93.toInt)) v108 ((z24 + 0)) ls (ms_lt hm25 (by omega) (by omega)) rfl ev109i ev104i ev108i (by rw [hcx]; omega) (⟨fun q => by omega, fun _ => by rw [show ((z22 + 1) - 1 : Int) = k9 by omega, ← hk9]; exact htop⟩) (fun _ => by rw [show ((z22 + 1) - 1 : Int) = k9 by omega, ← hk9]; omega) (by omega) (by omega) (by omega) (by omega) (by omega) (by omega) (by omega) (by omega) (by omega) (by omega) (by omega) (by omega) (by omega) (by omega) (by omega) hC93 hS93 hKp93 asn awl apa (lv_sub hl [4, 0, 1, 2, 5, 6, 7, 8, 9, 10, 11, 12, 13] rfl)
          · refine lv_iconst (v := 2) hx hb dL_law_682 rfl ?_
            refine lv_goto (tgt := 687) hx hb dL_law_683 rfl ?_
            have htop : (v71.toInt + v93.toInt) = (fun z => fs z + fw z) (P9 z22) := by show _ = fs (P9 z22) + fw (P9 z22); omega
            have hcx := cst_nx (ft := (fun z => fs z + fw z)) (p := P9) (k := z22) (by omega) hat.get htop
            have hst9 : 2 = stp z23 (v71.toInt + v93.toInt) := by unfold stp; first | (rw [if_pos (by omega)]) | (rw [if_neg (by omega), if_pos (by omega)]) | (rw [if_neg (by omega), if_neg (by omega)])
            refine lv_iadd hx hb dL_law_687 (lv_topi (fun v110 ev110 => ?_))
            have ev110i : v110.toInt = (z24 + 2) := i_add ev110 ev24 (by decide) (by omega) (by omega)
            refine lv_istore hx hb dL_law_688 hl (by decide) rfl (fun ls hl => ?_)
            replace hl : lv_has ls 15 [(10, .int v110), (14, .int v104), (13, .int v49), (12, .int v22), (11, .int v23), (9, .int v9), (7, .int v7), (6, .int v6), (5, .int v5), (4, .int v4), (0, .ref (sad X)), (1, .ref h0), (2, .ref mm), (3, .ref ha)] := hl
            refine lv_iload hx hb dL_law_690 (lv_at hl 1 rfl) ?_
            refine lv_istore hx hb dL_law_692 hl (by decide) rfl (fun ls hl => ?_)
            replace hl : lv_has ls 15 [(11, .int v104), (10, .int v110), (14, .int v104), (13, .int v49), (12, .int v22), (9, .int v9), (7, .int v7), (6, .int v6), (5, .int v5), (4, .int v4), (0, .ref (sad X)), (1, .ref h0), (2, .ref mm), (3, .ref ha)] := hl
            obtain ⟨v111, ev111⟩ : ∃ z, z = v22 + Int32.ofInt 1 := ⟨_, rfl⟩
            have ev111i : v111.toInt = (z22 + 1) := i_add ev111 ev22 (by decide) (by omega) (by omega)
            refine lv_iinc hx hb dL_law_694 hl (k := 4) rfl ev111.symm (by decide) rfl (fun ls hl => ?_)
            replace hl : lv_has ls 15 [(12, .int v111), (11, .int v104), (10, .int v110), (14, .int v104), (13, .int v49), (9, .int v9), (7, .int v7), (6, .int v6), (5, .int v5), (4, .int v4), (0, .ref (sad X)), (1, .ref h0), (2, .ref mm), (3, .ref ha)] := hl
            refine lv_goto (tgt := 606) hx hb dL_law_697 rfl ?_
            exact ih25 H93 locs93 v49 (v49.toInt) v111 ((z22 + 1)) v104 ((v71.toInt + v93.toInt)) v110 ((z24 + 2)) ls (ms_lt hm25 (by omega) (by omega)) rfl ev111i ev104i ev110i (by rw [hcx]; omega) (⟨fun q => by omega, fun _ => by rw [show ((z22 + 1) - 1 : Int) = k9 by omega, ← hk9]; exact htop⟩) (fun _ => by rw [show ((z22 + 1) - 1 : Int) = k9 by omega, ← hk9]; omega) (by omega) (by omega) (by omega) (by omega) (by omega) (by omega) (by omega) (by omega) (by omega) (by omega) (by omega) (by omega) (by omega) (by omega) (by omega) hC93 hS93 hKp93 asn awl apa (lv_sub hl [4, 0, 1, 2, 5, 6, 7, 8, 9, 10, 11, 12, 13] rfl)
        · refine lv_iload hx hb dL_law_665 (lv_at hl 0 rfl) ?_
          refine lv_iload hx hb dL_law_667 (lv_at hl 3 rfl) ?_
          refine lv_isub hx hb dL_law_669 (lv_topi (fun v112 ev112 => ?_))
          have ev112i : v112.toInt = ((v71.toInt + v93.toInt) - z23) := i_sub ev112 ev104i ev23 (by omega) (by omega)
          refine lv_goto (tgt := 687) hx hb dL_law_670 rfl ?_
          have htop : (v71.toInt + v93.toInt) = (fun z => fs z + fw z) (P9 z22) := by show _ = fs (P9 z22) + fw (P9 z22); omega
          have hcx := cst_nx (ft := (fun z => fs z + fw z)) (p := P9) (k := z22) (by omega) hat.get htop
          have hst9 : ((v71.toInt + v93.toInt) - z23) = stp z23 (v71.toInt + v93.toInt) := by unfold stp; first | (rw [if_pos (by omega)]) | (rw [if_neg (by omega), if_pos (by omega)]) | (rw [if_neg (by omega), if_neg (by omega)])
          refine lv_iadd hx hb dL_law_687 (lv_topi (fun v113 ev113 => ?_))
          have ev113i : v113.toInt = (z24 + ((v71.toInt + v93.toInt) - z23)) := i_add ev113 ev24 ev112i (by omega) (by omega)
          refine lv_istore hx hb dL_law_688 hl (by decide) rfl (fun ls hl => ?_)
          replace hl : lv_has ls 15 [(10, .int v113), (14, .int v104), (13, .int v49), (12, .int v22), (11, .int v23), (9, .int v9), (7, .int v7), (6, .int v6), (5, .int v5), (4, .int v4), (0, .ref (sad X)), (1, .ref h0), (2, .ref mm), (3, .ref ha)] := hl
          refine lv_iload hx hb dL_law_690 (lv_at hl 1 rfl) ?_
          refine lv_istore hx hb dL_law_692 hl (by decide) rfl (fun ls hl => ?_)
          replace hl : lv_has ls 15 [(11, .int v104), (10, .int v113), (14, .int v104), (13, .int v49), (12, .int v22), (9, .int v9), (7, .int v7), (6, .int v6), (5, .int v5), (4, .int v4), (0, .ref (sad X)), (1, .ref h0), (2, .ref mm), (3, .ref ha)] := hl
          obtain ⟨v114, ev114⟩ : ∃ z, z = v22 + Int32.ofInt 1 := ⟨_, rfl⟩
          have ev114i : v114.toInt = (z22 + 1) := i_add ev114 ev22 (by decide) (by omega) (by omega)
          refine lv_iinc hx hb dL_law_694 hl (k := 4) rfl ev114.symm (by decide) rfl (fun ls hl => ?_)
          replace hl : lv_has ls 15 [(12, .int v114), (11, .int v104), (10, .int v113), (14, .int v104), (13, .int v49), (9, .int v9), (7, .int v7), (6, .int v6), (5, .int v5), (4, .int v4), (0, .ref (sad X)), (1, .ref h0), (2, .ref mm), (3, .ref ha)] := hl
          refine lv_goto (tgt := 606) hx hb dL_law_697 rfl ?_
          exact ih25 H93 locs93 v49 (v49.toInt) v114 ((z22 + 1)) v104 ((v71.toInt + v93.toInt)) v113 ((z24 + ((v71.toInt + v93.toInt) - z23))) ls (ms_lt hm25 (by omega) (by omega)) rfl ev114i ev104i ev113i (by rw [hcx]; omega) (⟨fun q => by omega, fun _ => by rw [show ((z22 + 1) - 1 : Int) = k9 by omega, ← hk9]; exact htop⟩) (fun _ => by rw [show ((z22 + 1) - 1 : Int) = k9 by omega, ← hk9]; omega) (by omega) (by omega) (by omega) (by omega) (by omega) (by omega) (by omega) (by omega) (by omega) (by omega) (by omega) (by omega) (by omega) (by omega) (by omega) hC93 hS93 hKp93 asn awl apa (lv_sub hl [4, 0, 1, 2, 5, 6, 7, 8, 9, 10, 11, 12, 13] rfl)
  exact L606 _ H0 locs0 0 0 0 0 0 0 0 0 ls (Nat.lt_succ_self _) (by decide) (by decide) (by decide) (by decide) (by rw [show ((0 : Int)).toNat = 0 by decide]; rfl) (⟨fun _ => rfl, fun q => by omega⟩) (fun q => by omega) (by omega) (by omega) (by omega) (by omega) (by omega) (by omega) (by omega) (by omega) (by omega) (by omega) (by omega) (by omega) (by omega) (by omega) (by omega) hC0 hS0 hKp0 asn awl apa hl
