set_option maxRecDepth 100000 in
set_option maxHeartbeats 4000000 in
theorem m_X11_back (l : Launch) (X : xW) (Γ : Nat → Option Nat) (H0 : Heap) (hC0 : Conf X Γ H0) (h0 : Nat) (g0 : Γ h0 = some 0) : Ctr l X Γ yX11_back cX11_back 1 (some .int) 2 [.ref h0] H0 (QI X Γ (fun v H1 => Kp X Γ [0, 2, 3, 5, 18, 21, 23, 25, 27] H0 H1 ∧ ((((sI H0 h0 (X.1.2 10 11)).toInt ≤ 0 ∧ v.toInt = -1 ∧ (sI H1 h0 (X.1.2 10 11)).toInt = (sI H0 h0 (X.1.2 10 11)).toInt) ∨ (1 ≤ (sI H0 h0 (X.1.2 10 11)).toInt ∧ v.toInt = (sI H0 h0 (X.1.2 10 11)).toInt - 1 ∧ (sI H1 h0 (X.1.2 10 11)).toInt = (sI H0 h0 (X.1.2 10 11)).toInt - 1))))) := by
  refine q_enterI (own := "SnowForts") (by decide) rfl (Nat.le_of_ble_eq_true rfl) ?_
  intro p e s m args below meth c ls Qz E hl ret hS0
  have hx := E.1; have hb := E.2.1
  have hKp0 : Kp X Γ [0, 2, 3, 5, 18, 21, 23, 25, 27] H0 H0 := Kp.rf
  have hl : lv_has ls 1 [(0, .ref h0)] := hl
  have hz1 := f_bd hC0 g0 (ci := 10) (k := 11) rfl rfl
  refine lv_aload_n hx hb dX11_back_0 rfl (lv_at hl 0 rfl) ?_
  refine q_getI E hC0 g0 fa_RX11_381 dX11_back_1 (fun v21 ev21 lv21 uv21 => ?_)
  have m22 : (sI H0 h0 (X.1.2 10 11)).toInt = v21.toInt := (congrArg Int32.toInt ev21).trans rfl
  refine lv_i2l (v := v21.toInt64) hx hb dX11_back_4 rfl (lv_topl (fun v23 ev23 => ?_))
  have ev23i : v23.toInt = v21.toInt := l_ofi ev23.symm rfl
  refine lv_iconst (v := 1) hx hb dX11_back_5 rfl ?_
  refine lv_iconst (v := 3) hx hb dX11_back_6 rfl ?_
  refine q_goIp (q_runS (As := [.long v23, .int 1, .int 3]) (rest := []) E hS0 (m_X11_isWithin l X Γ H0 hC0 v23 (a0 := v21.toInt) ev23i 1 (a1 := 1) (by decide) 3 (a2 := 3) (by decide)) cw_X11_isWithin cl_RX11_113 rfl hl.1 rfl (Nat.zero_le _) (by decide) dX11_back_7) hS0 (fun v24 locs24 hr24 hS24 => ?_)
  rcases hr24 with ⟨rfl, f24a0, f24a1⟩ | ⟨rfl, f24b⟩
  · refine q_if_ne hx hb (a := 1) (by decide) (tgt := 20) dX11_back_10 rfl (fun c25 => ?_) (fun c25 => absurd c25 (by omega))
    refine lv_aload_n hx hb dX11_back_20 rfl (lv_at hl 0 rfl) ?_
    refine lv_dup hx hb dX11_back_21 rfl ?_
    refine q_getI E hC0 g0 fa_RX11_381 dX11_back_22 (fun v26 ev26 lv26 uv26 => ?_)
    have qv26 := ev21.symm.trans ev26; subst qv26
    refine lv_iconst (v := 1) hx hb dX11_back_25 rfl ?_
    refine lv_isub hx hb dX11_back_26 (lv_topi (fun v27 ev27 => ?_))
    have ev27i : v27.toInt = (v21.toInt - 1) := i_sub ev27 rfl (by decide) (by omega) (by omega)
    refine q_put E hC0 hS24 g0 fp_RX11_381 (tv_I ev27i (by omega) (by omega)) rfl rfl dX11_back_27 (fun H28 locs28 hC28 hS28 U28 => ?_)
    have hKp28 := Kp.upO E g0 fp_RX11_381 rfl U28 hKp0
    have e29 := up_I U28
    have m30 : (sI H28 h0 (X.1.2 10 11)).toInt = (v21.toInt - 1) := (congrArg Int32.toInt e29).trans ev27i
    refine lv_aload_n hx hb dX11_back_30 rfl (lv_at hl 0 rfl) ?_
    refine q_getR E hC28 g0 fa_RX11_42 dX11_back_31 (fun q31 eq31 gq31 => ?_)
    refine lv_aload_n hx hb dX11_back_34 rfl (lv_at hl 0 rfl) ?_
    refine q_getR E hC28 g0 fa_RX11_59 dX11_back_35 (fun q32 eq32 gq32 => ?_)
    refine lv_aload_n hx hb dX11_back_38 rfl (lv_at hl 0 rfl) ?_
    refine q_getI E hC28 g0 fa_RX11_381 dX11_back_39 (fun v33 ev33 lv33 uv33 => ?_)
    have qv33 := e29.symm.trans ev33; subst qv33
    refine q_aald E hC28 gq32 rfl rfl (fun _ => rfl) (C := "SnowForts$Yard") rfl (i_in (a := (v21.toInt - 1)) ev27i (by omega) (by omega)) dX11_back_42 (fun q34 eq34 gq34 => ?_)
    refine q_goV (q_runV (As := [.ref q34]) (rest := []) E hC28 hS28 (m_X9_copyOf l X Γ H28 hC28 q31 gq31 q34 gq34) cw_X9_copyOf cl_RX11_374 gq31 ⟨rfl, rfl⟩ rfl hl.1 rfl (Nat.zero_le _) (by decide) dX11_back_43) hS28 (fun H35 locs35 hr35 hC35 hS35 => ?_)
    have hKp35 := hKp28.tr (hr35.mono rfl)
    have m36 : (sI H35 h0 (X.1.2 10 11)).toInt = (sI H28 h0 (X.1.2 10 11)).toInt := congrArg Int32.toInt (kp_I hr35 g0 (k := 11) rfl (by decide) rfl)
    refine lv_aload_n hx hb dX11_back_46 rfl (lv_at hl 0 rfl) ?_
    refine q_getR E hC35 g0 fa_RX11_52 dX11_back_47 (fun q37 eq37 gq37 => ?_)
    refine lv_aload_n hx hb dX11_back_50 rfl (lv_at hl 0 rfl) ?_
    refine q_getR E hC35 g0 fa_RX11_63 dX11_back_51 (fun q38 eq38 gq38 => ?_)
    refine lv_aload_n hx hb dX11_back_54 rfl (lv_at hl 0 rfl) ?_
    have e40 := (kp_I hr35 g0 (k := 11) rfl (by decide) rfl).trans e29
    refine q_getI E hC35 g0 fa_RX11_381 dX11_back_55 (fun v39 ev39 lv39 uv39 => ?_)
    have qv39 := e40.symm.trans ev39; subst qv39
    have m41 : (sI H35 h0 (X.1.2 10 11)).toInt = (v21.toInt - 1) := (congrArg Int32.toInt ev39).trans ev27i
    refine q_aald E hC35 gq38 rfl rfl (fun _ => rfl) (C := "SnowForts$Orders") rfl (i_in (a := (v21.toInt - 1)) ev27i (by omega) (by omega)) dX11_back_58 (fun q42 eq42 gq42 => ?_)
    refine q_goV (q_runV (As := [.ref q42]) (rest := []) E hC35 hS35 (m_X2_copyOf l X Γ H35 hC35 q37 gq37 q42 gq42) cw_X2_copyOf cl_RX11_384 gq37 ⟨rfl, rfl⟩ rfl hl.1 rfl (Nat.zero_le _) (by decide) dX11_back_59) hS35 (fun H43 locs43 hr43 hC43 hS43 => ?_)
    have hKp43 := hKp35.tr (hr43.mono rfl)
    have m44 : (sI H43 h0 (X.1.2 10 11)).toInt = (sI H35 h0 (X.1.2 10 11)).toInt := congrArg Int32.toInt (kp_I hr43 g0 (k := 11) rfl (by decide) rfl)
    refine lv_aload_n hx hb dX11_back_62 rfl (lv_at hl 0 rfl) ?_
    refine lv_aload_n hx hb dX11_back_63 rfl (lv_at hl 0 rfl) ?_
    have e46 := (kp_I hr43 g0 (k := 11) rfl (by decide) rfl).trans e40
    refine q_getI E hC43 g0 fa_RX11_381 dX11_back_64 (fun v45 ev45 lv45 uv45 => ?_)
    have qv45 := e46.symm.trans ev45; subst qv45
    have m47 : (sI H43 h0 (X.1.2 10 11)).toInt = (v21.toInt - 1) := (congrArg Int32.toInt ev45).trans ev27i
    refine q_goI (q_runV (As := [.int v27]) (rest := []) E hC43 hS43 (m_X11_answer l X Γ H43 hC43 h0 g0 v27 (a1 := (v21.toInt - 1)) ev27i) cw_X11_answer cl_RX11_191 g0 ⟨rfl, rfl⟩ rfl hl.1 rfl (Nat.zero_le _) (by decide) dX11_back_67) hS43 (fun v48 H48 locs48 hr48 hC48 hS48 => ?_)
    obtain ⟨hp48, hr48⟩ := hr48
    have hKp48 := hKp43.tr (hp48.mono rfl)
    have m49 : (sI H48 h0 (X.1.2 10 11)).toInt = (sI H43 h0 (X.1.2 10 11)).toInt := congrArg Int32.toInt (kp_I hp48 g0 (k := 11) rfl (by decide) rfl)
    have f48_0 := hr48
    have e50 := (kp_I hp48 g0 (k := 11) rfl (by decide) rfl).trans e46
    have m51 : (sI H48 h0 (X.1.2 10 11)).toInt = (v21.toInt - 1) := (congrArg Int32.toInt e50).trans ev27i
    have c52 : v48.toInt = v48.toInt := rfl
    exact ret v48 H48 locs48 _ _ dX11_back_70 ⟨hKp48, by omega⟩ hC48 hS48
  · refine q_if_ne hx hb (a := 0) (by decide) (tgt := 20) dX11_back_10 rfl (fun c53 => absurd c53 (by omega)) (fun c53 => ?_)
    refine lv_aload_n hx hb dX11_back_13 rfl (lv_at hl 0 rfl) ?_
    refine lv_bipush (v := 8) hx hb dX11_back_14 rfl ?_
    refine q_goI (q_runV (As := [.int 8]) (rest := []) E hC0 hS24 (m_X11_refuse l X Γ H0 hC0 h0 g0 8 (a1 := 8) (by decide)) cw_X11_refuse cl_RX11_146 g0 ⟨rfl, rfl⟩ rfl hl.1 rfl (Nat.zero_le _) (by decide) dX11_back_16) hS24 (fun v54 H54 locs54 hr54 hC54 hS54 => ?_)
    obtain ⟨hp54, hr54⟩ := hr54
    have hKp54 := hKp0.tr (hp54.mono rfl)
    have m55 : (sI H54 h0 (X.1.2 10 11)).toInt = (sI H0 h0 (X.1.2 10 11)).toInt := congrArg Int32.toInt (kp_I hp54 g0 (k := 11) rfl (by decide) rfl)
    have f54_0 := hr54
    have e56 := (kp_I hp54 g0 (k := 11) rfl (by decide) rfl).trans ev21
    have m57 : (sI H54 h0 (X.1.2 10 11)).toInt = v21.toInt := (congrArg Int32.toInt e56).trans rfl
    have c58 : v54.toInt = v54.toInt := rfl
    exact ret v54 H54 locs54 _ _ dX11_back_19 ⟨hKp54, by omega⟩ hC54 hS54
