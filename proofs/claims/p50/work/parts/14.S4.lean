set_option maxRecDepth 100000 in
set_option maxHeartbeats 4000000 in
theorem m_X11_yard (l : Launch) (X : xW) (Γ : Nat → Option Nat) (H0 : Heap) (hC0 : Conf X Γ H0) (h0 : Nat) (g0 : Γ h0 = some 0) (p1 : Int32) {a1 : Int} (e1 : p1.toInt = a1) (ra : Nat) (gra : Γ ra = some 2) (ur : ∀ a, Γ a = some 2 → a = ra) (tp : Nat) (htp : sR H0 ra (X.1.2 4 0) = some tp) (gtp : Γ tp = some 25) (r0 : 0 ≤ a1) (r1 : a1 ≤ (sI H0 ra (X.1.2 4 1)).toInt) : Ctr l X Γ yX11_yard cX11_yard 4 (some .int) 7 [.ref h0, .int p1] H0 (QI X Γ (fun v H1 => Kp X Γ [29, 37, 67, 68, 69, 70, 71] H0 H1 ∧ ((∃ (kd vl w3 : Nat → Int) (pos : Nat → Nat) (N : Nat), TKS (bf H0 tp) (a1).toNat N pos kd vl w3 ∧ ((∃ w h T, gYard kd vl w h ∧ gFin kd vl 1000 (Si0 vl) 5 T ∧ v.toInt = w * h ∧ YD0 X Γ H1 h0 w h T.2.2.1) ∨ ∀ w h, ¬ gYard kd vl w h))))) := by
  refine q_enterI (own := "SnowForts") (by decide) rfl (Nat.le_of_ble_eq_true rfl) ?_
  intro p e s m args below meth c ls Qz E hl ret hS0
  have hx := E.1; have hb := E.2.1
  have hKp0 : Kp X Γ [29, 37, 67, 68, 69, 70, 71] H0 H0 := Kp.rf
  have hl : lv_has ls 4 [(0, .ref h0), (1, .int p1)] := hl
  obtain ⟨sy, hsy, gsy⟩ := f_ref hC0 g0 (ci := 10) (kf := 6) rfl rfl
  obtain ⟨sn, wl, su, lw, ic, kn, hd, us, br, ar, fi, yn⟩ := YN.of hC0 gsy
  have gsn := yn.sn.2; have gwl := yn.wl.2; have gsu := yn.su.2; have glw := yn.lw.2; have gic := yn.ic.2; have gkn := yn.kn.2; have ghd := yn.hd.2; have gus := yn.us.2; have gbr := yn.br.2; have gar := yn.ar.2; have gfi := yn.fi.2
  have hfb := f_bd hC0 gra (ci := 4) (k := 1) rfl rfl
  have sp : sR H0 h0 (X.1.2 10 6) = some sy := hsy
  refine lv_iload_n hx hb dX11_yard_0 rfl (lv_at hl 1 rfl) ?_
  refine lv_i2l (v := p1.toInt64) hx hb dX11_yard_1 rfl (lv_topl (fun v21 ev21 => ?_))
  have ev21i : v21.toInt = a1 := l_ofi ev21.symm e1
  refine lv_iconst (v := 0) hx hb dX11_yard_2 rfl ?_
  refine lv_aload_n hx hb dX11_yard_3 rfl (lv_at hl 0 rfl) ?_
  refine q_getU E hC0 g0 fa_RX11_19 ur dX11_yard_4 ?_
  refine q_getI E hC0 gra fa_RX11_171 dX11_yard_7 (fun v22 ev22 lv22 uv22 => ?_)
  have m23 : (sI H0 ra (X.1.2 4 1)).toInt = v22.toInt := congrArg Int32.toInt ev22
  refine q_goIp (q_runS (As := [.long v21, .int 0, .int v22]) (rest := []) E hS0 (m_X11_isWithin l X Γ H0 hC0 v21 (a0 := a1) ev21i 0 (a1 := 0) (by decide) v22 (a2 := v22.toInt) rfl) cw_X11_isWithin cl_RX11_113 rfl hl.1 rfl (Nat.zero_le _) (by decide) dX11_yard_10) hS0 (fun v24 locs24 hr24 hS24 => ?_)
  rcases hr24 with ⟨rfl, f24a0, f24a1⟩ | ⟨rfl, f24b⟩
  · refine q_if_ne hx hb (a := 1) (by decide) (tgt := 22) dX11_yard_13 rfl (fun c25 => ?_) (fun c25 => absurd c25 (by omega))
    refine lv_aload_n hx hb dX11_yard_22 rfl (lv_at hl 0 rfl) ?_
    refine q_getR E hC0 g0 fa_RX11_28 dX11_yard_23 (fun q26 eq26 gq26 => ?_)
    refine lv_iload_n hx hb dX11_yard_26 rfl (lv_at hl 1 rfl) ?_
    refine lv_aload_n hx hb dX11_yard_27 rfl (lv_at hl 0 rfl) ?_
    refine q_getS E hC0 g0 fa_RX11_46 hsy dX11_yard_28 (fun _ => ?_)
    refine q_goI (q_runV (As := [.int p1, .ref sy]) (rest := []) E hC0 hS24 (m_X10_parse l X Γ H0 hC0 q26 gq26 p1 (a1 := a1) e1 sy gsy ra gra ur tp htp gtp sn wl su lw ic kn hd us br ar fi yn (by omega) (by omega)) cw_X10_parse cl_RX11_178 gq26 ⟨rfl, rfl⟩ rfl hl.1 rfl (Nat.zero_le _) (by decide) dX11_yard_31) hS24 (fun v27 H27 locs27 hr27 hC27 hS27 => ?_)
    obtain ⟨hp27, hr27⟩ := hr27
    have hKp27 := hKp0.tr (hp27.mono rfl)
    replace sp : sR H27 h0 (X.1.2 10 6) = some sy := (kp_R hp27 g0 (ci := 10) (k := 6) rfl (by decide) rfl).trans sp
    obtain ⟨kd, vl, w3, pos, N, htk, ⟨hz0, hz1, hz2, hz3, hz4, hz5, hz6, hz7⟩, hzz⟩ := hr27.2
    rcases hzz with ⟨rfl, w, h, hgy, hw, hh, T, hfT, hsT⟩ | ⟨rfl, hgn⟩
    · refine lv_istore_n hx hb dX11_yard_34 rfl hl (by decide) rfl (fun ls hl => ?_)
      replace hl : lv_has ls 4 [(2, .int 1), (0, .ref h0), (1, .int p1)] := hl
      refine lv_aload_n hx hb dX11_yard_35 rfl (lv_at hl 1 rfl) ?_
      refine q_getU E hC27 g0 fa_RX11_19 ur dX11_yard_36 ?_
      refine lv_iconst (v := 0) hx hb dX11_yard_39 rfl ?_
      refine q_put E hC27 hS27 gra fp_RX11_171 (tv_I (show (0 : Int32).toInt = 0 from by decide) (by omega) (by omega)) rfl rfl dX11_yard_40 (fun H39 locs39 hC39 hS39 U39 => ?_)
      have hKp39 := Kp.upO E gra fp_RX11_171 rfl U39 hKp27
      have e40 := up_I U39
      have m41 : aI H39 us (0) = aI H27 us (0) := aI_ne U39 (nek gra gus (by decide))
      have m42 : aI H39 us (1) = aI H27 us (1) := aI_ne U39 (nek gra gus (by decide))
      have m43 : aI H39 br (0) = aI H27 br (0) := aI_ne U39 (nek gra gbr (by decide))
      have m44 : aI H39 br (1) = aI H27 br (1) := aI_ne U39 (nek gra gbr (by decide))
      have m45 : (sI H39 sy (X.1.2 8 0)).toInt = (sI H27 sy (X.1.2 8 0)).toInt := congrArg Int32.toInt (up_nI U39 (ne_k gsy gra (by decide)))
      have m46 : (sI H39 sy (X.1.2 8 1)).toInt = (sI H27 sy (X.1.2 8 1)).toInt := congrArg Int32.toInt (up_nI U39 (ne_k gsy gra (by decide)))
      have m47 : (sI H39 sy (X.1.2 8 2)).toInt = (sI H27 sy (X.1.2 8 2)).toInt := congrArg Int32.toInt (up_nI U39 (ne_k gsy gra (by decide)))
      have m48 : (sI H39 sy (X.1.2 8 3)).toInt = (sI H27 sy (X.1.2 8 3)).toInt := congrArg Int32.toInt (up_nI U39 (ne_k gsy gra (by decide)))
      have m49 : (sI H39 sy (X.1.2 8 4)).toInt = (sI H27 sy (X.1.2 8 4)).toInt := congrArg Int32.toInt (up_nI U39 (ne_k gsy gra (by decide)))
      have m50 : (sI H39 sy (X.1.2 8 5)).toInt = (sI H27 sy (X.1.2 8 5)).toInt := congrArg Int32.toInt (up_nI U39 (ne_k gsy gra (by decide)))
      have m51 : (sI H39 sy (X.1.2 8 6)).toInt = (sI H27 sy (X.1.2 8 6)).toInt := congrArg Int32.toInt (up_nI U39 (ne_k gsy gra (by decide)))
      replace sp : sR H39 h0 (X.1.2 10 6) = some sy := (up_nR U39 (ne_k g0 gra (by decide))).trans sp
      refine lv_iload_n hx hb dX11_yard_43 rfl (lv_at hl 0 rfl) ?_
      refine q_if_ne hx hb (a := 1) (by decide) (tgt := 54) dX11_yard_44 rfl (fun c52 => ?_) (fun c52 => absurd c52 (by omega))
      refine lv_aload_n hx hb dX11_yard_54 rfl (lv_at hl 1 rfl) ?_
      refine q_getR E hC39 g0 fa_RX11_42 dX11_yard_55 (fun q53 eq53 gq53 => ?_)
      refine lv_astore_n hx hb dX11_yard_58 rfl hl (by decide) rfl (fun ls hl => ?_)
      replace hl : lv_has ls 4 [(3, .ref q53), (2, .int 1), (0, .ref h0), (1, .int p1)] := hl
      refine lv_aload_n hx hb dX11_yard_59 rfl (lv_at hl 2 rfl) ?_
      refine lv_aload_n hx hb dX11_yard_60 rfl (lv_at hl 2 rfl) ?_
      refine q_getR E hC39 g0 fa_RX11_46 dX11_yard_61 (fun q54 eq54 gq54 => ?_)
      have eq2 := Option.some.inj (eq54.symm.trans sp)
      refine q_put E hC39 hS39 g0 fp_RX11_42 (tv_R gq54) rfl rfl dX11_yard_64 (fun H55 locs55 hC55 hS55 U55 => ?_)
      have hKp55 := Kp.upO E g0 fp_RX11_42 rfl U55 hKp39
      have m56 : aI H55 us (0) = aI H39 us (0) := aI_ne U55 (nek g0 gus (by decide))
      have m57 : aI H55 us (1) = aI H39 us (1) := aI_ne U55 (nek g0 gus (by decide))
      have m58 : aI H55 br (0) = aI H39 br (0) := aI_ne U55 (nek g0 gbr (by decide))
      have m59 : aI H55 br (1) = aI H39 br (1) := aI_ne U55 (nek g0 gbr (by decide))
      have m60 : (sI H55 sy (X.1.2 8 0)).toInt = (sI H39 sy (X.1.2 8 0)).toInt := congrArg Int32.toInt (up_nI U55 (ne_k gsy g0 (by decide)))
      have m61 : (sI H55 sy (X.1.2 8 1)).toInt = (sI H39 sy (X.1.2 8 1)).toInt := congrArg Int32.toInt (up_nI U55 (ne_k gsy g0 (by decide)))
      have m62 : (sI H55 sy (X.1.2 8 2)).toInt = (sI H39 sy (X.1.2 8 2)).toInt := congrArg Int32.toInt (up_nI U55 (ne_k gsy g0 (by decide)))
      have m63 : (sI H55 sy (X.1.2 8 3)).toInt = (sI H39 sy (X.1.2 8 3)).toInt := congrArg Int32.toInt (up_nI U55 (ne_k gsy g0 (by decide)))
      have m64 : (sI H55 sy (X.1.2 8 4)).toInt = (sI H39 sy (X.1.2 8 4)).toInt := congrArg Int32.toInt (up_nI U55 (ne_k gsy g0 (by decide)))
      have m65 : (sI H55 sy (X.1.2 8 5)).toInt = (sI H39 sy (X.1.2 8 5)).toInt := congrArg Int32.toInt (up_nI U55 (ne_k gsy g0 (by decide)))
      have m66 : (sI H55 sy (X.1.2 8 6)).toInt = (sI H39 sy (X.1.2 8 6)).toInt := congrArg Int32.toInt (up_nI U55 (ne_k gsy g0 (by decide)))
      have hy1 : sR H55 h0 (X.1.2 10 5) = some sy := eq2 ▸ up_R U55
      refine lv_aload_n hx hb dX11_yard_67 rfl (lv_at hl 2 rfl) ?_
      refine lv_aload_n hx hb dX11_yard_68 rfl (lv_at hl 0 rfl) ?_
      refine q_put E hC55 hS55 g0 fp_RX11_46 (tv_R gq53) rfl rfl dX11_yard_69 (fun H67 locs67 hC67 hS67 U67 => ?_)
      have hKp67 := Kp.upO E g0 fp_RX11_46 rfl U67 hKp55
      have m68 : aI H67 us (0) = aI H55 us (0) := aI_ne U67 (nek g0 gus (by decide))
      have m69 : aI H67 us (1) = aI H55 us (1) := aI_ne U67 (nek g0 gus (by decide))
      have m70 : aI H67 br (0) = aI H55 br (0) := aI_ne U67 (nek g0 gbr (by decide))
      have m71 : aI H67 br (1) = aI H55 br (1) := aI_ne U67 (nek g0 gbr (by decide))
      have m72 : (sI H67 sy (X.1.2 8 0)).toInt = (sI H55 sy (X.1.2 8 0)).toInt := congrArg Int32.toInt (up_nI U67 (ne_k gsy g0 (by decide)))
      have m73 : (sI H67 sy (X.1.2 8 1)).toInt = (sI H55 sy (X.1.2 8 1)).toInt := congrArg Int32.toInt (up_nI U67 (ne_k gsy g0 (by decide)))
      have m74 : (sI H67 sy (X.1.2 8 2)).toInt = (sI H55 sy (X.1.2 8 2)).toInt := congrArg Int32.toInt (up_nI U67 (ne_k gsy g0 (by decide)))
      have m75 : (sI H67 sy (X.1.2 8 3)).toInt = (sI H55 sy (X.1.2 8 3)).toInt := congrArg Int32.toInt (up_nI U67 (ne_k gsy g0 (by decide)))
      have m76 : (sI H67 sy (X.1.2 8 4)).toInt = (sI H55 sy (X.1.2 8 4)).toInt := congrArg Int32.toInt (up_nI U67 (ne_k gsy g0 (by decide)))
      have m77 : (sI H67 sy (X.1.2 8 5)).toInt = (sI H55 sy (X.1.2 8 5)).toInt := congrArg Int32.toInt (up_nI U67 (ne_k gsy g0 (by decide)))
      have m78 : (sI H67 sy (X.1.2 8 6)).toInt = (sI H55 sy (X.1.2 8 6)).toInt := congrArg Int32.toInt (up_nI U67 (ne_k gsy g0 (by decide)))
      have hy2 : sR H67 h0 (X.1.2 10 5) = some sy := (up_nR U67 (ne_f E 10 5 6 rfl (by decide) (by decide) (by decide))).trans hy1
      refine lv_aload_n hx hb dX11_yard_72 rfl (lv_at hl 2 rfl) ?_
      refine q_getR E hC67 g0 fa_RX11_52 dX11_yard_73 (fun q79 eq79 gq79 => ?_)
      refine q_goV (q_runV (As := []) (rest := []) E hC67 hS67 (m_X2_clear l X Γ H67 hC67 q79 gq79) cw_X2_clear cl_RX11_182 gq79 ⟨rfl, rfl⟩ rfl hl.1 rfl (Nat.zero_le _) (by decide) dX11_yard_76) hS67 (fun H80 locs80 hr80 hC80 hS80 => ?_)
      have hKp80 := hKp67.tr (hr80.mono rfl)
      have m81 : aI H80 us (0) = aI H67 us (0) := aI_kp hr80 gus rfl rfl
      have m82 : aI H80 us (1) = aI H67 us (1) := aI_kp hr80 gus rfl rfl
      have m83 : aI H80 br (0) = aI H67 br (0) := aI_kp hr80 gbr rfl rfl
      have m84 : aI H80 br (1) = aI H67 br (1) := aI_kp hr80 gbr rfl rfl
      have m85 : (sI H80 sy (X.1.2 8 0)).toInt = (sI H67 sy (X.1.2 8 0)).toInt := congrArg Int32.toInt (kp_I hr80 gsy (ci := 8) (k := 0) rfl (by decide) rfl)
      have m86 : (sI H80 sy (X.1.2 8 1)).toInt = (sI H67 sy (X.1.2 8 1)).toInt := congrArg Int32.toInt (kp_I hr80 gsy (ci := 8) (k := 1) rfl (by decide) rfl)
      have m87 : (sI H80 sy (X.1.2 8 2)).toInt = (sI H67 sy (X.1.2 8 2)).toInt := congrArg Int32.toInt (kp_I hr80 gsy (ci := 8) (k := 2) rfl (by decide) rfl)
      have m88 : (sI H80 sy (X.1.2 8 3)).toInt = (sI H67 sy (X.1.2 8 3)).toInt := congrArg Int32.toInt (kp_I hr80 gsy (ci := 8) (k := 3) rfl (by decide) rfl)
      have m89 : (sI H80 sy (X.1.2 8 4)).toInt = (sI H67 sy (X.1.2 8 4)).toInt := congrArg Int32.toInt (kp_I hr80 gsy (ci := 8) (k := 4) rfl (by decide) rfl)
      have m90 : (sI H80 sy (X.1.2 8 5)).toInt = (sI H67 sy (X.1.2 8 5)).toInt := congrArg Int32.toInt (kp_I hr80 gsy (ci := 8) (k := 5) rfl (by decide) rfl)
      have m91 : (sI H80 sy (X.1.2 8 6)).toInt = (sI H67 sy (X.1.2 8 6)).toInt := congrArg Int32.toInt (kp_I hr80 gsy (ci := 8) (k := 6) rfl (by decide) rfl)
      have hy3 := (kp_R hr80 g0 (ci := 10) (k := 5) rfl (by decide) rfl).trans hy2
      refine lv_aload_n hx hb dX11_yard_79 rfl (lv_at hl 2 rfl) ?_
      refine lv_aload_n hx hb dX11_yard_80 rfl (lv_at hl 2 rfl) ?_
      refine q_getR E hC80 g0 fa_RX11_42 dX11_yard_81 (fun q92 eq92 gq92 => ?_)
      have ey1 : (sI H80 q92 (X.1.2 8 0)).toInt = (sI H80 sy (X.1.2 8 0)).toInt := by rw [Option.some.inj (eq92.symm.trans hy3)]
      refine q_getI E hC80 gq92 fa_RX11_185 dX11_yard_84 (fun v93 ev93 lv93 uv93 => ?_)
      have m94 : (sI H80 q92 (X.1.2 8 0)).toInt = v93.toInt := congrArg Int32.toInt ev93
      refine lv_aload_n hx hb dX11_yard_87 rfl (lv_at hl 2 rfl) ?_
      refine q_getR E hC80 g0 fa_RX11_42 dX11_yard_88 (fun q95 eq95 gq95 => ?_)
      have ey2 : (sI H80 q95 (X.1.2 8 1)).toInt = (sI H80 sy (X.1.2 8 1)).toInt := by rw [Option.some.inj (eq95.symm.trans hy3)]
      refine q_getI E hC80 gq95 fa_RX11_188 dX11_yard_91 (fun v96 ev96 lv96 uv96 => ?_)
      have m97 : (sI H80 q95 (X.1.2 8 1)).toInt = v96.toInt := congrArg Int32.toInt ev96
      refine lv_imul hx hb dX11_yard_94 (lv_topi (fun v98 ev98 => ?_))
      have hmul := mul_small ev98 (a := w) (b := h) (by omega) (by omega) (gYard_bd hgy)
      refine q_goI (q_runV (As := [.int v98]) (rest := []) E hC80 hS80 (m_X11_answer l X Γ H80 hC80 h0 g0 v98 (a1 := v98.toInt) rfl) cw_X11_answer cl_RX11_191 g0 ⟨rfl, rfl⟩ rfl hl.1 rfl (Nat.zero_le _) (by decide) dX11_yard_95) hS80 (fun v99 H99 locs99 hr99 hC99 hS99 => ?_)
      obtain ⟨hp99, hr99⟩ := hr99
      have hKp99 := hKp80.tr (hp99.mono rfl)
      have m100 : aI H99 us (0) = aI H80 us (0) := aI_kp hp99 gus rfl rfl
      have m101 : aI H99 us (1) = aI H80 us (1) := aI_kp hp99 gus rfl rfl
      have m102 : aI H99 br (0) = aI H80 br (0) := aI_kp hp99 gbr rfl rfl
      have m103 : aI H99 br (1) = aI H80 br (1) := aI_kp hp99 gbr rfl rfl
      have m104 : (sI H99 sy (X.1.2 8 0)).toInt = (sI H80 sy (X.1.2 8 0)).toInt := congrArg Int32.toInt (kp_I hp99 gsy (ci := 8) (k := 0) rfl (by decide) rfl)
      have m105 : (sI H99 sy (X.1.2 8 1)).toInt = (sI H80 sy (X.1.2 8 1)).toInt := congrArg Int32.toInt (kp_I hp99 gsy (ci := 8) (k := 1) rfl (by decide) rfl)
      have m106 : (sI H99 sy (X.1.2 8 2)).toInt = (sI H80 sy (X.1.2 8 2)).toInt := congrArg Int32.toInt (kp_I hp99 gsy (ci := 8) (k := 2) rfl (by decide) rfl)
      have m107 : (sI H99 sy (X.1.2 8 3)).toInt = (sI H80 sy (X.1.2 8 3)).toInt := congrArg Int32.toInt (kp_I hp99 gsy (ci := 8) (k := 3) rfl (by decide) rfl)
      have m108 : (sI H99 sy (X.1.2 8 4)).toInt = (sI H80 sy (X.1.2 8 4)).toInt := congrArg Int32.toInt (kp_I hp99 gsy (ci := 8) (k := 4) rfl (by decide) rfl)
      have m109 : (sI H99 sy (X.1.2 8 5)).toInt = (sI H80 sy (X.1.2 8 5)).toInt := congrArg Int32.toInt (kp_I hp99 gsy (ci := 8) (k := 5) rfl (by decide) rfl)
      have m110 : (sI H99 sy (X.1.2 8 6)).toInt = (sI H80 sy (X.1.2 8 6)).toInt := congrArg Int32.toInt (kp_I hp99 gsy (ci := 8) (k := 6) rfl (by decide) rfl)
      obtain ⟨f99_0, f99_1⟩ := hr99
      have hans := f99_0
      have hy4 := (kp_R hp99 g0 (ci := 10) (k := 5) rfl (by decide) rfl).trans hy3
      have hyd : ∃ (kd vl w3 : Nat → Int) (pos : Nat → Nat) (N : Nat), TKS (bf H0 tp) (a1).toNat N pos kd vl w3 ∧ ((∃ w h T, gYard kd vl w h ∧ gFin kd vl 1000 (Si0 vl) 5 T ∧ (v99 : Int32).toInt = w * h ∧ YD0 X Γ H99 h0 w h T.2.2.1) ∨ ∀ w h, ¬ gYard kd vl w h) := ⟨kd, vl, w3, pos, N, htk, Or.inl ⟨w, h, T, hgy, hfT, hans.trans hmul, sy, sn, wl, su, lw, ic, kn, hd, us, br, ar, fi, hy4, gsy, yn.kp gsy hKp99 rfl, by omega, by omega, by omega, by omega, by omega, by omega, by omega, by omega, by omega, by omega, by omega⟩⟩
      have c111 : v99.toInt = v99.toInt := rfl
      exact ret v99 H99 locs99 _ _ dX11_yard_98 ⟨hKp99, hyd⟩ hC99 hS99
    · refine lv_istore_n hx hb dX11_yard_34 rfl hl (by decide) rfl (fun ls hl => ?_)
      replace hl : lv_has ls 4 [(2, .int 0), (0, .ref h0), (1, .int p1)] := hl
      refine lv_aload_n hx hb dX11_yard_35 rfl (lv_at hl 1 rfl) ?_
      refine q_getU E hC27 g0 fa_RX11_19 ur dX11_yard_36 ?_
      refine lv_iconst (v := 0) hx hb dX11_yard_39 rfl ?_
      refine q_put E hC27 hS27 gra fp_RX11_171 (tv_I (show (0 : Int32).toInt = 0 from by decide) (by omega) (by omega)) rfl rfl dX11_yard_40 (fun H112 locs112 hC112 hS112 U112 => ?_)
      have hKp112 := Kp.upO E gra fp_RX11_171 rfl U112 hKp27
      have e113 := up_I U112
      have m114 : aI H112 us (0) = aI H27 us (0) := aI_ne U112 (nek gra gus (by decide))
      have m115 : aI H112 us (1) = aI H27 us (1) := aI_ne U112 (nek gra gus (by decide))
      have m116 : aI H112 br (0) = aI H27 br (0) := aI_ne U112 (nek gra gbr (by decide))
      have m117 : aI H112 br (1) = aI H27 br (1) := aI_ne U112 (nek gra gbr (by decide))
      have m118 : (sI H112 sy (X.1.2 8 0)).toInt = (sI H27 sy (X.1.2 8 0)).toInt := congrArg Int32.toInt (up_nI U112 (ne_k gsy gra (by decide)))
      have m119 : (sI H112 sy (X.1.2 8 1)).toInt = (sI H27 sy (X.1.2 8 1)).toInt := congrArg Int32.toInt (up_nI U112 (ne_k gsy gra (by decide)))
      have m120 : (sI H112 sy (X.1.2 8 2)).toInt = (sI H27 sy (X.1.2 8 2)).toInt := congrArg Int32.toInt (up_nI U112 (ne_k gsy gra (by decide)))
      have m121 : (sI H112 sy (X.1.2 8 3)).toInt = (sI H27 sy (X.1.2 8 3)).toInt := congrArg Int32.toInt (up_nI U112 (ne_k gsy gra (by decide)))
      have m122 : (sI H112 sy (X.1.2 8 4)).toInt = (sI H27 sy (X.1.2 8 4)).toInt := congrArg Int32.toInt (up_nI U112 (ne_k gsy gra (by decide)))
      have m123 : (sI H112 sy (X.1.2 8 5)).toInt = (sI H27 sy (X.1.2 8 5)).toInt := congrArg Int32.toInt (up_nI U112 (ne_k gsy gra (by decide)))
      have m124 : (sI H112 sy (X.1.2 8 6)).toInt = (sI H27 sy (X.1.2 8 6)).toInt := congrArg Int32.toInt (up_nI U112 (ne_k gsy gra (by decide)))
      replace sp : sR H112 h0 (X.1.2 10 6) = some sy := (up_nR U112 (ne_k g0 gra (by decide))).trans sp
      refine lv_iload_n hx hb dX11_yard_43 rfl (lv_at hl 0 rfl) ?_
      refine q_if_ne hx hb (a := 0) (by decide) (tgt := 54) dX11_yard_44 rfl (fun c125 => absurd c125 (by omega)) (fun c125 => ?_)
      refine lv_aload_n hx hb dX11_yard_47 rfl (lv_at hl 1 rfl) ?_
      refine lv_bipush (v := 10) hx hb dX11_yard_48 rfl ?_
      refine q_goI (q_runV (As := [.int 10]) (rest := []) E hC112 hS112 (m_X11_refuse l X Γ H112 hC112 h0 g0 10 (a1 := 10) (by decide)) cw_X11_refuse cl_RX11_146 g0 ⟨rfl, rfl⟩ rfl hl.1 rfl (Nat.zero_le _) (by decide) dX11_yard_50) hS112 (fun v126 H126 locs126 hr126 hC126 hS126 => ?_)
      obtain ⟨hp126, hr126⟩ := hr126
      have hKp126 := hKp112.tr (hp126.mono rfl)
      have m127 : aI H126 us (0) = aI H112 us (0) := aI_kp hp126 gus rfl rfl
      have m128 : aI H126 us (1) = aI H112 us (1) := aI_kp hp126 gus rfl rfl
      have m129 : aI H126 br (0) = aI H112 br (0) := aI_kp hp126 gbr rfl rfl
      have m130 : aI H126 br (1) = aI H112 br (1) := aI_kp hp126 gbr rfl rfl
      have m131 : (sI H126 sy (X.1.2 8 0)).toInt = (sI H112 sy (X.1.2 8 0)).toInt := congrArg Int32.toInt (kp_I hp126 gsy (ci := 8) (k := 0) rfl (by decide) rfl)
      have m132 : (sI H126 sy (X.1.2 8 1)).toInt = (sI H112 sy (X.1.2 8 1)).toInt := congrArg Int32.toInt (kp_I hp126 gsy (ci := 8) (k := 1) rfl (by decide) rfl)
      have m133 : (sI H126 sy (X.1.2 8 2)).toInt = (sI H112 sy (X.1.2 8 2)).toInt := congrArg Int32.toInt (kp_I hp126 gsy (ci := 8) (k := 2) rfl (by decide) rfl)
      have m134 : (sI H126 sy (X.1.2 8 3)).toInt = (sI H112 sy (X.1.2 8 3)).toInt := congrArg Int32.toInt (kp_I hp126 gsy (ci := 8) (k := 3) rfl (by decide) rfl)
      have m135 : (sI H126 sy (X.1.2 8 4)).toInt = (sI H112 sy (X.1.2 8 4)).toInt := congrArg Int32.toInt (kp_I hp126 gsy (ci := 8) (k := 4) rfl (by decide) rfl)
      have m136 : (sI H126 sy (X.1.2 8 5)).toInt = (sI H112 sy (X.1.2 8 5)).toInt := congrArg Int32.toInt (kp_I hp126 gsy (ci := 8) (k := 5) rfl (by decide) rfl)
      have m137 : (sI H126 sy (X.1.2 8 6)).toInt = (sI H112 sy (X.1.2 8 6)).toInt := congrArg Int32.toInt (kp_I hp126 gsy (ci := 8) (k := 6) rfl (by decide) rfl)
      replace sp : sR H126 h0 (X.1.2 10 6) = some sy := (kp_R hp126 g0 (ci := 10) (k := 6) rfl (by decide) rfl).trans sp
      have f126_0 := hr126
      have hyd : ∃ (kd vl w3 : Nat → Int) (pos : Nat → Nat) (N : Nat), TKS (bf H0 tp) (a1).toNat N pos kd vl w3 ∧ ((∃ w h T, gYard kd vl w h ∧ gFin kd vl 1000 (Si0 vl) 5 T ∧ (v126 : Int32).toInt = w * h ∧ YD0 X Γ H126 h0 w h T.2.2.1) ∨ ∀ w h, ¬ gYard kd vl w h) := ⟨kd, vl, w3, pos, N, htk, Or.inr hgn⟩
      have c138 : v126.toInt = v126.toInt := rfl
      exact ret v126 H126 locs126 _ _ dX11_yard_53 ⟨hKp126, hyd⟩ hC126 hS126
  · refine q_if_ne hx hb (a := 0) (by decide) (tgt := 22) dX11_yard_13 rfl (fun c139 => absurd c139 (by omega)) (fun c139 => ?_)
    (exfalso; omega)
