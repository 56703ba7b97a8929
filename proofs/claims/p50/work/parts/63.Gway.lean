set_option maxRecDepth 100000 in
set_option maxHeartbeats 8000000 in
theorem sg_way (l : Launch) {p : Program} {e : Env} {s : State} {m : MethodId} {args : Array Value} {below : List Frame} {meth : Method} {c : Code} {X : xW} {Γ : Nat → Option Nat} {Qz : State → Prop} (E : Ev p s m args meth c cL_law 15 "SnowFortsLaw" ret X Γ s.heap) (H0 : Heap) (hC0 : Conf X Γ H0) (locs0 : List Loc) (hS0 : va_S (AΓ Γ) s.heap H0 locs0) (h0 : Nat) (g0 : Γ h0 = some 0) (mm ha : Nat) (gmm : Γ mm = some 90) (gha : Γ ha = some 91) (yd : Nat) (hyd : sR H0 h0 (X.1.2 10 5) = some yd) (gyd : Γ yd = some 5) (sn wl su lw ic kn hd us br ar fi : Nat) (yn : YN X Γ H0 yd sn wl su lw ic kn hd us br ar fi) (wk : Nat) (hwk : sR H0 h0 (X.1.2 10 12) = some wk) (gwk : Γ wk = some 7) (pa hh wt : Nat) (wn : WN X Γ H0 wk pa hh wt) (w9 h9 s9 : Int) (qw : w9 = 2 ∨ w9 = 4) (qh : 1 ≤ h9 ∧ h9 ≤ 3) (qs : s9 = 1 ∨ s9 = 2) (qa0 : aI H0 ha 0 = w9) (qa1 : aI H0 ha 1 = h9) (qa2 : aI H0 ha 2 = s9) (qy0 : (sI H0 yd (X.1.2 8 0)).toInt = w9) (qy1 : (sI H0 yd (X.1.2 8 1)).toInt = h9) (qy2 : (sI H0 yd (X.1.2 8 2)).toInt = s9) (v8 : Int32) {z8 : Int} (ev8 : v8.toInt = z8) (v7 : Int32) {z7 : Int} (ev7 : v7.toInt = z7) (v6 : Int32) {z6 : Int} (ev6 : v6.toInt = z6) (v5 : Int32) {z5 : Int} (ev5 : v5.toInt = z5) (v4 : Int32) {z4 : Int} (ev4 : v4.toInt = z4) (clb : CLB w9 h9 (fun z => aI H0 sn z + aI H0 wl z) w9 z8) (hwp : (sI H0 wk (X.1.2 7 4)).toInt = 0 ∨ WKS X H0 wk hh wt) (hcl0 : 0 ≤ z8 ∧ z8 ≤ 999) {ls : Array Slot} (hl : lv_has ls 15 [(8, .int v8), (7, .int v7), (6, .int v6), (5, .int v5), (4, .int v4), (0, .ref (sad X)), (1, .ref h0), (2, .ref mm), (3, .ref ha)]) (hk : ∀ (H1 : Heap) (locs1 : List Loc) (y9 : Int32) (u9 : Int) (ls : Array Slot), Conf X Γ H1 → va_S (AΓ Γ) s.heap H1 locs1 → Kp X Γ [3, 29, 31, 32, 33, 34, 37, 39, 40, 50, 51, 52, 53, 54, 55, 56, 57, 58, 59, 60, 61, 62, 63, 65, 70, 71] H0 H1 → y9.toInt = u9 → (PTH w9 h9 (fun z => aI H1 sn z + aI H1 wl z) (aI H1 pa) (sI H1 wk (X.1.2 7 1)).toInt u9) → (WKS X H1 wk hh wt) → lv_has ls 15 [(9, .int y9), (7, .int v7), (6, .int v6), (5, .int v5), (4, .int v4), (0, .ref (sad X)), (1, .ref h0), (2, .ref mm), (3, .ref ha)] → W p l e room_1 s m args below meth c H1 locs1 133 8682 Qz (F0 m 594 ls [])) : W p l e room_1 s m args below meth c H0 locs0 133 8682 Qz (F0 m 552 ls []) := by
  have hx := E.1; have hb := E.2.1
  have hKp0 : Kp X Γ [3, 29, 31, 32, 33, 34, 37, 39, 40, 50, 51, 52, 53, 54, 55, 56, 57, 58, 59, 60, 61, 62, 63, 65, 70, 71] H0 H0 := Kp.rf
  have gsn := yn.sn.2; have gwl := yn.wl.2; have gsu := yn.su.2; have glw := yn.lw.2; have gic := yn.ic.2; have gkn := yn.kn.2; have ghd := yn.hd.2; have gus := yn.us.2; have gbr := yn.br.2; have gar := yn.ar.2; have gfi := yn.fi.2
  have gpa := wn.pa.2; have ghh := wn.hh.2; have gwt := wn.wt.2
  have qw1 : 2 ≤ w9 ∧ w9 ≤ 4 := by omega
  have qs1 : 1 ≤ s9 ∧ s9 ≤ 2 := by omega
  clear qw qs
  obtain ⟨fs, hfs⟩ : ∃ f, aI H0 sn = f := ⟨_, rfl⟩
  obtain ⟨fw, hfw⟩ : ∃ f, aI H0 wl = f := ⟨_, rfl⟩
  have clb9 : CLB w9 h9 (fun z => fs z + fw z) w9 z8 := by rw [← hfs, ← hfw]; exact clb
  have hfp : ∀ z : Int, 0 ≤ z → z < 36 → 0 ≤ fs z + fw z := fun z a b => by
    have q1 := el_bd hC0 gsn rfl rfl (fun _ => rfl) (z := z) a (by omega)
    have q2 := el_bd hC0 gwl rfl rfl (fun _ => rfl) (z := z) a (by omega)
    rw [hfs] at q1
    rw [hfw] at q2
    omega
  have asn : aI H0 sn = fs := hfs
  have awl : aI H0 wl = fw := hfw
  refine lv_aload_n hx hb dL_law_552 rfl (lv_at hl 6 rfl) ?_
  refine r_goI (r_runV (As := []) (rest := []) E hC0 hS0 (m_X11_way l X Γ H0 hC0 h0 g0 yd hyd gyd sn wl su lw ic kn hd us br ar fi yn wk hwk gwk pa hh wt wn (by exact hwp) (by omega) (by omega)) cw_X11_way cl_RL_135 g0 ⟨rfl, rfl⟩ rfl hl.1 rfl (Nat.zero_le _) (by decide) dL_law_553) hS0 (fun v21 H21 locs21 hr21 hC21 hS21 => ?_)
  obtain ⟨hp21, hr21⟩ := hr21
  have hKp21 := hKp0.tr (hp21.mono rfl)
  have m22 : aI H21 ha (0) = aI H0 ha (0) := aI_kp hp21 gha rfl rfl
  have m23 : aI H21 ha (1) = aI H0 ha (1) := aI_kp hp21 gha rfl rfl
  have m24 : aI H21 ha (2) = aI H0 ha (2) := aI_kp hp21 gha rfl rfl
  have m25 : (sI H21 yd (X.1.2 8 0)).toInt = (sI H0 yd (X.1.2 8 0)).toInt := congrArg Int32.toInt (kp_I hp21 gyd (ci := 8) (k := 0) rfl (by decide) rfl)
  have m26 : (sI H21 yd (X.1.2 8 1)).toInt = (sI H0 yd (X.1.2 8 1)).toInt := congrArg Int32.toInt (kp_I hp21 gyd (ci := 8) (k := 1) rfl (by decide) rfl)
  have m27 : (sI H21 yd (X.1.2 8 2)).toInt = (sI H0 yd (X.1.2 8 2)).toInt := congrArg Int32.toInt (kp_I hp21 gyd (ci := 8) (k := 2) rfl (by decide) rfl)
  replace asn : aI H21 sn = fs := (funext fun _ => aI_kp hp21 gsn rfl rfl).trans asn
  replace awl : aI H21 wl = fw := (funext fun _ => aI_kp hp21 gwl rfl rfl).trans awl
  obtain ⟨f21_0, f21_1, f21_2, f21_3, f21_4, f21_5⟩ := hr21
  have hpt : PTH w9 h9 (fun z => fs z + fw z) (aI H21 pa) (sI H21 wk (X.1.2 7 1)).toInt v21.toInt := PTH.cg (by rw [← (show (sI H0 yd (X.1.2 8 0)).toInt = w9 by omega), ← (show (sI H0 yd (X.1.2 8 1)).toInt = h9 by omega)]; exact f21_3) (fun z a b => by rw [f21_4 z a b, hfs, hfw])
  have htp := f21_4
  have bsn := asn
  have bwl := awl
  have hkc := f21_5; have hk4 := f21_1; have hk5 := f21_2
  have hwp : (sI H21 wk (X.1.2 7 4)).toInt = 0 ∨ WKS X H21 wk hh wt := Or.inr f21_0
  obtain ⟨P9, hP9⟩ : ∃ f, aI H21 pa = f := ⟨_, rfl⟩
  obtain ⟨n9, hn9⟩ : ∃ z, (sI H21 wk (X.1.2 7 1)).toInt = z := ⟨_, rfl⟩
  rw [hP9, hn9] at hpt
  have apa : aI H21 pa = P9 := hP9
  have hcl := CLB.fin clb9 hpt hfp (by omega)
  have hz0 := hpt.2.2.2.1; have hz1 := hpt.1; have hz2 := hpt.2.1
  refine lv_istore hx hb dL_law_556 hl (by decide) rfl (fun ls hl => ?_)
  replace hl : lv_has ls 15 [(9, .int v21), (8, .int v8), (7, .int v7), (6, .int v6), (5, .int v5), (4, .int v4), (0, .ref (sad X)), (1, .ref h0), (2, .ref mm), (3, .ref ha)] := hl
  refine lv_iload hx hb dL_law_558 (lv_at hl 0 rfl) ?_
  refine lv_iload hx hb dL_law_560 (lv_at hl 1 rfl) ?_
  have c32 := i_rng v21; rw [show v21.toInt = v21.toInt from rfl] at c32
  refine q_icmp_lt hx hb (a := v21.toInt) (b := z8) rfl ev8 (tgt := 592) dL_law_562 rfl (fun c33 => ?_) (fun c33 => ?_)
  · (exfalso; omega)
  · refine lv_aload_n hx hb dL_law_565 rfl (lv_at hl 7 rfl) ?_
    refine r_goI (r_runV (As := []) (rest := []) E hC21 hS21 (m_X11_peace l X Γ H21 hC21 h0 g0 yd ((kp_R hKp21 g0 (ci := 10) (k := 5) rfl (by decide) rfl).trans hyd) gyd sn wl su lw ic kn hd us br ar fi (yn.kp gyd hKp21 rfl) wk ((kp_R hKp21 g0 (ci := 10) (k := 12) rfl (by decide) rfl).trans hwk) gwk pa hh wt (wn.kp gwk hKp21 rfl) (by exact hwp) (by omega) (by omega)) cw_X11_peace cl_RL_138 g0 ⟨rfl, rfl⟩ rfl hl.1 rfl (Nat.zero_le _) (by decide) dL_law_566) hS21 (fun v34 H34 locs34 hr34 hC34 hS34 => ?_)
    obtain ⟨hp34, hr34⟩ := hr34
    have hKp34 := hKp21.tr (hp34.mono rfl)
    have m35 : aI H34 ha (0) = aI H21 ha (0) := aI_kp hp34 gha rfl rfl
    have m36 : aI H34 ha (1) = aI H21 ha (1) := aI_kp hp34 gha rfl rfl
    have m37 : aI H34 ha (2) = aI H21 ha (2) := aI_kp hp34 gha rfl rfl
    have m38 : (sI H34 yd (X.1.2 8 0)).toInt = (sI H21 yd (X.1.2 8 0)).toInt := congrArg Int32.toInt (kp_I hp34 gyd (ci := 8) (k := 0) rfl (by decide) rfl)
    have m39 : (sI H34 yd (X.1.2 8 1)).toInt = (sI H21 yd (X.1.2 8 1)).toInt := congrArg Int32.toInt (kp_I hp34 gyd (ci := 8) (k := 1) rfl (by decide) rfl)
    have m40 : (sI H34 yd (X.1.2 8 2)).toInt = (sI H21 yd (X.1.2 8 2)).toInt := congrArg Int32.toInt (kp_I hp34 gyd (ci := 8) (k := 2) rfl (by decide) rfl)
    have m43 : (sI H34 wk (X.1.2 7 1)).toInt = (sI H21 wk (X.1.2 7 1)).toInt := congrArg Int32.toInt (kp_I hp34 gwk (ci := 7) (k := 1) rfl (by decide) rfl)
    replace asn : aI H34 sn = fs := (funext fun _ => aI_kp hp34 gsn rfl rfl).trans asn
    replace awl : aI H34 wl = fw := (funext fun _ => aI_kp hp34 gwl rfl rfl).trans awl
    replace apa : aI H34 pa = P9 := (funext fun _ => aI_kp hp34 gpa rfl rfl).trans apa
    obtain ⟨f34_0, f34_1, f34_2, f34_3, f34_4⟩ := hr34
    have hcs := f34_4 ⟨by omega, by omega, fun z a b => by rw [bsn, bwl]; exact (htp z a b).trans (by rw [hfs, hfw])⟩
    have hpv := f34_0
    have hwq := f34_1
    refine lv_iload hx hb dL_law_569 (lv_at hl 0 rfl) ?_
    refine lv_iconst (v := 5) hx hb dL_law_571 rfl ?_
    refine q_icmp_ge hx hb (a := v21.toInt) (b := 5) rfl (by decide) (tgt := 579) dL_law_572 rfl (fun c45 => ?_) (fun c45 => ?_)
    · refine lv_iconst (v := 0) hx hb dL_law_579 rfl ?_
      refine q_icmp_ne hx hb (a := v34.toInt) (b := 0) rfl (by decide) (tgt := 592) dL_law_580 rfl (fun c46 => ?_) (fun c46 => ?_)
      · (exfalso; omega)
      · refine lv_aload_n hx hb dL_law_583 rfl (lv_at hl 7 rfl) ?_
        refine lv_iconst (v := 0) hx hb dL_law_584 rfl ?_
        refine lv_iconst (v := 0) hx hb dL_law_585 rfl ?_
        refine r_goI (r_runV (As := [.int 0, .int 0]) (rest := []) E hC34 hS34 (m_X11_wayAt l X Γ H34 hC34 h0 g0 0 (a1 := 0) (by decide) 0 (a2 := 0) (by decide) wk ((kp_R hKp34 g0 (ci := 10) (k := 12) rfl (by decide) rfl).trans hwk) gwk pa hh wt (wn.kp gwk hKp34 rfl) (by omega) (by omega)) cw_X11_wayAt cl_RL_141 g0 ⟨rfl, rfl⟩ rfl hl.1 rfl (Nat.zero_le _) (by decide) dL_law_586) hS34 (fun v47 H47 locs47 hr47 hC47 hS47 => ?_)
        obtain ⟨hp47, hr47⟩ := hr47
        have hKp47 := hKp34.tr (hp47.mono rfl)
        have m48 : aI H47 ha (0) = aI H34 ha (0) := aI_kp hp47 gha rfl rfl
        have m49 : aI H47 ha (1) = aI H34 ha (1) := aI_kp hp47 gha rfl rfl
        have m50 : aI H47 ha (2) = aI H34 ha (2) := aI_kp hp47 gha rfl rfl
        have m51 : (sI H47 yd (X.1.2 8 0)).toInt = (sI H34 yd (X.1.2 8 0)).toInt := congrArg Int32.toInt (kp_I hp47 gyd (ci := 8) (k := 0) rfl (by decide) rfl)
        have m52 : (sI H47 yd (X.1.2 8 1)).toInt = (sI H34 yd (X.1.2 8 1)).toInt := congrArg Int32.toInt (kp_I hp47 gyd (ci := 8) (k := 1) rfl (by decide) rfl)
        have m53 : (sI H47 yd (X.1.2 8 2)).toInt = (sI H34 yd (X.1.2 8 2)).toInt := congrArg Int32.toInt (kp_I hp47 gyd (ci := 8) (k := 2) rfl (by decide) rfl)
        have m54 : (sI H47 wk (X.1.2 7 4)).toInt = (sI H34 wk (X.1.2 7 4)).toInt := congrArg Int32.toInt (kp_I hp47 gwk (ci := 7) (k := 4) rfl (by decide) rfl)
        have m55 : (sI H47 wk (X.1.2 7 5)).toInt = (sI H34 wk (X.1.2 7 5)).toInt := congrArg Int32.toInt (kp_I hp47 gwk (ci := 7) (k := 5) rfl (by decide) rfl)
        have m56 : (sI H47 wk (X.1.2 7 1)).toInt = (sI H34 wk (X.1.2 7 1)).toInt := congrArg Int32.toInt (kp_I hp47 gwk (ci := 7) (k := 1) rfl (by decide) rfl)
        have m57 : (sI H47 wk (X.1.2 7 7)).toInt = (sI H34 wk (X.1.2 7 7)).toInt := congrArg Int32.toInt (kp_I hp47 gwk (ci := 7) (k := 7) rfl (by decide) rfl)
        replace asn : aI H47 sn = fs := (funext fun _ => aI_kp hp47 gsn rfl rfl).trans asn
        replace awl : aI H47 wl = fw := (funext fun _ => aI_kp hp47 gwl rfl rfl).trans awl
        replace apa : aI H47 pa = P9 := (funext fun _ => aI_kp hp47 gpa rfl rfl).trans apa
        obtain ⟨f47_0, f47_1, f47_2⟩ := hr47
        have hp0 : aI H34 pa 0 = P9 0 := by rw [← aI_kp (z := 0) hp47 gpa rfl rfl, apa]
        have hpx := f47_0
        have hwq := hwq.kp gwk ghh gwt hp47 rfl rfl
        refine q_if_eq hx hb (a := v47.toInt) rfl (tgt := 594) dL_law_589 rfl (fun c58 => ?_) (fun c58 => ?_)
        · exact hk H47 locs47 v21 (v21.toInt) ls hC47 hS47 hKp47 rfl (by rw [asn, awl, apa, show (sI H47 wk (X.1.2 7 1)).toInt = n9 by omega]; exact hpt) (hwq) (lv_sub hl [0, 2, 3, 4, 5, 6, 7, 8, 9] rfl)
        · (exfalso; omega)
    · refine lv_iconst (v := 1) hx hb dL_law_575 rfl ?_
      refine lv_goto (tgt := 580) hx hb dL_law_576 rfl ?_
      refine q_icmp_ne hx hb (a := v34.toInt) (b := 1) rfl (by decide) (tgt := 592) dL_law_580 rfl (fun c59 => ?_) (fun c59 => ?_)
      · (exfalso; omega)
      · refine lv_aload_n hx hb dL_law_583 rfl (lv_at hl 7 rfl) ?_
        refine lv_iconst (v := 0) hx hb dL_law_584 rfl ?_
        refine lv_iconst (v := 0) hx hb dL_law_585 rfl ?_
        refine r_goI (r_runV (As := [.int 0, .int 0]) (rest := []) E hC34 hS34 (m_X11_wayAt l X Γ H34 hC34 h0 g0 0 (a1 := 0) (by decide) 0 (a2 := 0) (by decide) wk ((kp_R hKp34 g0 (ci := 10) (k := 12) rfl (by decide) rfl).trans hwk) gwk pa hh wt (wn.kp gwk hKp34 rfl) (by omega) (by omega)) cw_X11_wayAt cl_RL_141 g0 ⟨rfl, rfl⟩ rfl hl.1 rfl (Nat.zero_le _) (by decide) dL_law_586) hS34 (fun v60 H60 locs60 hr60 hC60 hS60 => ?_)
        obtain ⟨hp60, hr60⟩ := hr60
        have hKp60 := hKp34.tr (hp60.mono rfl)
        have m61 : aI H60 ha (0) = aI H34 ha (0) := aI_kp hp60 gha rfl rfl
        have m62 : aI H60 ha (1) = aI H34 ha (1) := aI_kp hp60 gha rfl rfl
        have m63 : aI H60 ha (2) = aI H34 ha (2) := aI_kp hp60 gha rfl rfl
        have m64 : (sI H60 yd (X.1.2 8 0)).toInt = (sI H34 yd (X.1.2 8 0)).toInt := congrArg Int32.toInt (kp_I hp60 gyd (ci := 8) (k := 0) rfl (by decide) rfl)
        have m65 : (sI H60 yd (X.1.2 8 1)).toInt = (sI H34 yd (X.1.2 8 1)).toInt := congrArg Int32.toInt (kp_I hp60 gyd (ci := 8) (k := 1) rfl (by decide) rfl)
        have m66 : (sI H60 yd (X.1.2 8 2)).toInt = (sI H34 yd (X.1.2 8 2)).toInt := congrArg Int32.toInt (kp_I hp60 gyd (ci := 8) (k := 2) rfl (by decide) rfl)
        have m67 : (sI H60 wk (X.1.2 7 4)).toInt = (sI H34 wk (X.1.2 7 4)).toInt := congrArg Int32.toInt (kp_I hp60 gwk (ci := 7) (k := 4) rfl (by decide) rfl)
        have m68 : (sI H60 wk (X.1.2 7 5)).toInt = (sI H34 wk (X.1.2 7 5)).toInt := congrArg Int32.toInt (kp_I hp60 gwk (ci := 7) (k := 5) rfl (by decide) rfl)
        have m69 : (sI H60 wk (X.1.2 7 1)).toInt = (sI H34 wk (X.1.2 7 1)).toInt := congrArg Int32.toInt (kp_I hp60 gwk (ci := 7) (k := 1) rfl (by decide) rfl)
        have m70 : (sI H60 wk (X.1.2 7 7)).toInt = (sI H34 wk (X.1.2 7 7)).toInt := congrArg Int32.toInt (kp_I hp60 gwk (ci := 7) (k := 7) rfl (by decide) rfl)
        replace asn : aI H60 sn = fs := (funext fun _ => aI_kp hp60 gsn rfl rfl).trans asn
        replace awl : aI H60 wl = fw := (funext fun _ => aI_kp hp60 gwl rfl rfl).trans awl
        replace apa : aI H60 pa = P9 := (funext fun _ => aI_kp hp60 gpa rfl rfl).trans apa
        obtain ⟨f60_0, f60_1, f60_2⟩ := hr60
        have hp0 : aI H34 pa 0 = P9 0 := by rw [← aI_kp (z := 0) hp60 gpa rfl rfl, apa]
        have hpx := f60_0
        have hwq := hwq.kp gwk ghh gwt hp60 rfl rfl
        refine q_if_eq hx hb (a := v60.toInt) rfl (tgt := 594) dL_law_589 rfl (fun c71 => ?_) (fun c71 => ?_)
        · exact hk H60 locs60 v21 (v21.toInt) ls hC60 hS60 hKp60 rfl (by rw [asn, awl, apa, show (sI H60 wk (X.1.2 7 1)).toInt = n9 by omega]; exact hpt) (hwq) (lv_sub hl [0, 2, 3, 4, 5, 6, 7, 8, 9] rfl)
        · (exfalso; omega)
