set_option maxRecDepth 100000 in
set_option maxHeartbeats 4000000 in
theorem m_X11_mark (l : Launch) (X : xW) (Γ : Nat → Option Nat) (H0 : Heap) (hC0 : Conf X Γ H0) (h0 : Nat) (g0 : Γ h0 = some 0) (qm : Nat) (yd ya : Nat → Nat) (cu : Nat) (yp : YDP X Γ H0 h0 qm yd ya cu) : Ctr l X Γ yX11_mark cX11_mark 1 (some .int) 2 [.ref h0] H0 (QI X Γ (fun v H1 => Kp X Γ [0, 2, 3, 5, 18, 21, 23, 25, 27, 29, 31, 32, 34, 37, 39, 41] H0 H1 ∧ (((3 ≤ (sI H0 h0 (X.1.2 10 11)).toInt ∧ v.toInt = -1 ∧ (sI H1 h0 (X.1.2 10 11)).toInt = (sI H0 h0 (X.1.2 10 11)).toInt) ∨ ((sI H0 h0 (X.1.2 10 11)).toInt ≤ 2 ∧ v.toInt = (sI H0 h0 (X.1.2 10 11)).toInt + 1 ∧ (sI H1 h0 (X.1.2 10 11)).toInt = (sI H0 h0 (X.1.2 10 11)).toInt + 1)) ∧ ((3 ≤ (sI H0 h0 (X.1.2 10 11)).toInt ∧ AKE Γ H0 H1) ∨ ((sI H0 h0 (X.1.2 10 11)).toInt ≤ 2 ∧ ARP Γ H0 H1 (ya (2 + ((sI H0 h0 (X.1.2 10 11)).toInt).toNat)) (ya cu)))))) := by
  refine q_enterI (own := "SnowForts") (by decide) rfl (Nat.le_of_ble_eq_true rfl) ?_
  intro p e s m args below meth c ls Qz E hl ret hS0
  have hx := E.1; have hb := E.2.1
  have hKp0 : Kp X Γ [0, 2, 3, 5, 18, 21, 23, 25, 27, 29, 31, 32, 34, 37, 39, 41] H0 H0 := Kp.rf
  have hl : lv_has ls 1 [(0, .ref h0)] := hl
  have hz1 := f_bd hC0 g0 (ci := 10) (k := 11) rfl rfl
  have hcu := yp.le
  have ake : AKE Γ H0 H0 := AKE.rf
  refine lv_aload_n hx hb dX11_mark_0 rfl (lv_at hl 0 rfl) ?_
  refine q_getI E hC0 g0 fa_RX11_381 dX11_mark_1 (fun v21 ev21 lv21 uv21 => ?_)
  have m22 : (sI H0 h0 (X.1.2 10 11)).toInt = v21.toInt := (congrArg Int32.toInt ev21).trans rfl
  refine lv_i2l (v := v21.toInt64) hx hb dX11_mark_4 rfl (lv_topl (fun v23 ev23 => ?_))
  have ev23i : v23.toInt = v21.toInt := l_ofi ev23.symm rfl
  refine lv_iconst (v := 0) hx hb dX11_mark_5 rfl ?_
  refine lv_iconst (v := 2) hx hb dX11_mark_6 rfl ?_
  refine q_goIp (q_runS (As := [.long v23, .int 0, .int 2]) (rest := []) E hS0 (m_X11_isWithin l X Γ H0 hC0 v23 (a0 := v21.toInt) ev23i 0 (a1 := 0) (by decide) 2 (a2 := 2) (by decide)) cw_X11_isWithin cl_RX11_113 rfl hl.1 rfl (Nat.zero_le _) (by decide) dX11_mark_7) hS0 (fun v24 locs24 hr24 hS24 => ?_)
  rcases hr24 with ⟨rfl, f24a0, f24a1⟩ | ⟨rfl, f24b⟩
  · refine q_if_ne hx hb (a := 1) (by decide) (tgt := 20) dX11_mark_10 rfl (fun c25 => ?_) (fun c25 => absurd c25 (by omega))
    refine lv_aload_n hx hb dX11_mark_20 rfl (lv_at hl 0 rfl) ?_
    refine q_getS E hC0 g0 fa_RX11_59 yp.q dX11_mark_21 (fun g26 => ?_)
    refine lv_aload_n hx hb dX11_mark_24 rfl (lv_at hl 0 rfl) ?_
    refine q_getI E hC0 g0 fa_RX11_381 dX11_mark_25 (fun v27 ev27 lv27 uv27 => ?_)
    have qv27 := ev21.symm.trans ev27; subst qv27
    refine q_aaldS E hC0 g26 rfl rfl (fun _ => rfl) (C := "SnowForts$Yard") rfl (z := v21.toInt) rfl (by omega) (by omega) (yp.m (by omega)) dX11_mark_28 (fun g28 => ?_)
    refine lv_aload_n hx hb dX11_mark_29 rfl (lv_at hl 0 rfl) ?_
    refine q_getS E hC0 g0 fa_RX11_42 yp.hy dX11_mark_30 (fun g29 => ?_)
    have hb9 := ake
    have yb9 := yp.kp g0 hKp0 rfl rfl rfl
    refine q_goV (q_runV (As := [.ref (yd cu)]) (rest := []) E hC0 hS24 (m_X9_copyOf l X Γ H0 hC0 (yd (2 + (v21.toInt : Int).toNat)) g28 (yd cu) g29) cw_X9_copyOf cl_RX11_374 g28 ⟨rfl, rfl⟩ rfl hl.1 rfl (Nat.zero_le _) (by decide) dX11_mark_33) hS24 (fun H30 locs30 hr30 hC30 hS30 => ?_)
    obtain ⟨hp30, hr30⟩ := hr30
    have hKp30 := hKp0.tr (hp30.mono rfl)
    have m31 : (sI H30 h0 (X.1.2 10 11)).toInt = (sI H0 h0 (X.1.2 10 11)).toInt := congrArg Int32.toInt (kp_I hp30 g0 (k := 11) rfl (by decide) rfl)
    have f30_0 := hr30
    have gat : Γ (ya (2 + ((sI H0 h0 (X.1.2 10 11)).toInt).toNat)) = some 34 := yp.ga (by omega)
    have arp : ARP Γ H0 H30 (ya (2 + ((sI H0 h0 (X.1.2 10 11)).toInt).toNat)) (ya cu) := (f30_0 (ya (2 + ((sI H0 h0 (X.1.2 10 11)).toInt).toNat)) (ya cu) (by rw [show 2 + (v21.toInt : Int).toNat = 2 + ((sI H0 h0 (X.1.2 10 11)).toInt).toNat by omega]; exact yb9.ha (by omega)) (yb9.ha (by omega))).pre hb9 (yp.ga (by omega))
    refine lv_aload_n hx hb dX11_mark_36 rfl (lv_at hl 0 rfl) ?_
    refine q_getR E hC30 g0 fa_RX11_63 dX11_mark_37 (fun q32 eq32 gq32 => ?_)
    refine lv_aload_n hx hb dX11_mark_40 rfl (lv_at hl 0 rfl) ?_
    have e34 := (kp_I hp30 g0 (k := 11) rfl (by decide) rfl).trans ev21
    refine q_getI E hC30 g0 fa_RX11_381 dX11_mark_41 (fun v33 ev33 lv33 uv33 => ?_)
    have qv33 := e34.symm.trans ev33; subst qv33
    have m35 : (sI H30 h0 (X.1.2 10 11)).toInt = v21.toInt := (congrArg Int32.toInt ev33).trans rfl
    refine q_aald E hC30 gq32 rfl rfl (fun _ => rfl) (C := "SnowForts$Orders") rfl (i_in (a := v21.toInt) rfl (by omega) (by omega)) dX11_mark_44 (fun q36 eq36 gq36 => ?_)
    refine lv_aload_n hx hb dX11_mark_45 rfl (lv_at hl 0 rfl) ?_
    refine q_getR E hC30 g0 fa_RX11_52 dX11_mark_46 (fun q37 eq37 gq37 => ?_)
    refine q_goV (q_runV (As := [.ref q37]) (rest := []) E hC30 hS30 (m_X2_copyOf l X Γ H30 hC30 q36 gq36 q37 gq37) cw_X2_copyOf cl_RX11_384 gq36 ⟨rfl, rfl⟩ rfl hl.1 rfl (Nat.zero_le _) (by decide) dX11_mark_49) hS30 (fun H38 locs38 hr38 hC38 hS38 => ?_)
    have hKp38 := hKp30.tr (hr38.mono rfl)
    have arp : ARP Γ H0 H38 (ya (2 + ((sI H0 h0 (X.1.2 10 11)).toInt).toNat)) (ya cu) := arp.kp hr38 gat rfl
    have m39 : (sI H38 h0 (X.1.2 10 11)).toInt = (sI H30 h0 (X.1.2 10 11)).toInt := congrArg Int32.toInt (kp_I hr38 g0 (k := 11) rfl (by decide) rfl)
    refine lv_aload_n hx hb dX11_mark_52 rfl (lv_at hl 0 rfl) ?_
    refine lv_dup hx hb dX11_mark_53 rfl ?_
    have e41 := (kp_I hr38 g0 (k := 11) rfl (by decide) rfl).trans e34
    refine q_getI E hC38 g0 fa_RX11_381 dX11_mark_54 (fun v40 ev40 lv40 uv40 => ?_)
    have qv40 := e41.symm.trans ev40; subst qv40
    have m42 : (sI H38 h0 (X.1.2 10 11)).toInt = v21.toInt := (congrArg Int32.toInt ev40).trans rfl
    refine lv_iconst (v := 1) hx hb dX11_mark_57 rfl ?_
    refine lv_iadd hx hb dX11_mark_58 (lv_topi (fun v43 ev43 => ?_))
    have ev43i : v43.toInt = (v21.toInt + 1) := i_add ev43 rfl (by decide) (by omega) (by omega)
    refine q_put E hC38 hS38 g0 fp_RX11_381 (tv_I ev43i (by omega) (by omega)) rfl rfl dX11_mark_59 (fun H44 locs44 hC44 hS44 U44 => ?_)
    have hKp44 := Kp.upO E g0 fp_RX11_381 rfl U44 hKp38
    have e45 := up_I U44
    have m46 : (sI H44 h0 (X.1.2 10 11)).toInt = (v21.toInt + 1) := (congrArg Int32.toInt e45).trans ev43i
    have arp : ARP Γ H0 H44 (ya (2 + ((sI H0 h0 (X.1.2 10 11)).toInt).toNat)) (ya cu) := arp.ne U44 gat g0 (by decide)
    refine lv_aload_n hx hb dX11_mark_62 rfl (lv_at hl 0 rfl) ?_
    refine lv_aload_n hx hb dX11_mark_63 rfl (lv_at hl 0 rfl) ?_
    refine q_getI E hC44 g0 fa_RX11_381 dX11_mark_64 (fun v47 ev47 lv47 uv47 => ?_)
    have qv47 := e45.symm.trans ev47; subst qv47
    refine q_goI (q_runV (As := [.int v43]) (rest := []) E hC44 hS44 (m_X11_answer l X Γ H44 hC44 h0 g0 v43 (a1 := (v21.toInt + 1)) ev43i) cw_X11_answer cl_RX11_191 g0 ⟨rfl, rfl⟩ rfl hl.1 rfl (Nat.zero_le _) (by decide) dX11_mark_67) hS44 (fun v48 H48 locs48 hr48 hC48 hS48 => ?_)
    obtain ⟨hp48, hr48⟩ := hr48
    have hKp48 := hKp44.tr (hp48.mono rfl)
    have arp : ARP Γ H0 H48 (ya (2 + ((sI H0 h0 (X.1.2 10 11)).toInt).toNat)) (ya cu) := arp.kp hp48 gat rfl
    have m49 : (sI H48 h0 (X.1.2 10 11)).toInt = (sI H44 h0 (X.1.2 10 11)).toInt := congrArg Int32.toInt (kp_I hp48 g0 (k := 11) rfl (by decide) rfl)
    have f48_0 := hr48
    have e50 := (kp_I hp48 g0 (k := 11) rfl (by decide) rfl).trans e45
    have m51 : (sI H48 h0 (X.1.2 10 11)).toInt = (v21.toInt + 1) := (congrArg Int32.toInt e50).trans ev43i
    have hpost : (3 ≤ (sI H0 h0 (X.1.2 10 11)).toInt ∧ AKE Γ H0 H48) ∨ ((sI H0 h0 (X.1.2 10 11)).toInt ≤ 2 ∧ ARP Γ H0 H48 (ya (2 + ((sI H0 h0 (X.1.2 10 11)).toInt).toNat)) (ya cu)) := Or.inr ⟨by omega, arp⟩
    have c52 : v48.toInt = v48.toInt := rfl
    exact ret v48 H48 locs48 _ _ dX11_mark_70 ⟨hKp48, ⟨by omega, hpost⟩⟩ hC48 hS48
  · refine q_if_ne hx hb (a := 0) (by decide) (tgt := 20) dX11_mark_10 rfl (fun c53 => absurd c53 (by omega)) (fun c53 => ?_)
    refine lv_aload_n hx hb dX11_mark_13 rfl (lv_at hl 0 rfl) ?_
    refine lv_bipush (v := 7) hx hb dX11_mark_14 rfl ?_
    refine q_goI (q_runV (As := [.int 7]) (rest := []) E hC0 hS24 (m_X11_refuse l X Γ H0 hC0 h0 g0 7 (a1 := 7) (by decide)) cw_X11_refuse cl_RX11_146 g0 ⟨rfl, rfl⟩ rfl hl.1 rfl (Nat.zero_le _) (by decide) dX11_mark_16) hS24 (fun v54 H54 locs54 hr54 hC54 hS54 => ?_)
    obtain ⟨hp54, hr54⟩ := hr54
    have hKp54 := hKp0.tr (hp54.mono rfl)
    have ake : AKE Γ H0 H54 := ake.kp hp54 rfl
    have m55 : (sI H54 h0 (X.1.2 10 11)).toInt = (sI H0 h0 (X.1.2 10 11)).toInt := congrArg Int32.toInt (kp_I hp54 g0 (k := 11) rfl (by decide) rfl)
    have f54_0 := hr54
    have e56 := (kp_I hp54 g0 (k := 11) rfl (by decide) rfl).trans ev21
    have m57 : (sI H54 h0 (X.1.2 10 11)).toInt = v21.toInt := (congrArg Int32.toInt e56).trans rfl
    have hpost : (3 ≤ (sI H0 h0 (X.1.2 10 11)).toInt ∧ AKE Γ H0 H54) ∨ ((sI H0 h0 (X.1.2 10 11)).toInt ≤ 2 ∧ ARP Γ H0 H54 (ya (2 + ((sI H0 h0 (X.1.2 10 11)).toInt).toNat)) (ya cu)) := Or.inl ⟨by omega, ake⟩
    have c58 : v54.toInt = v54.toInt := rfl
    exact ret v54 H54 locs54 _ _ dX11_mark_19 ⟨hKp54, ⟨by omega, hpost⟩⟩ hC54 hS54
set_option maxRecDepth 100000 in
set_option maxHeartbeats 4000000 in
theorem m_X11_back (l : Launch) (X : xW) (Γ : Nat → Option Nat) (H0 : Heap) (hC0 : Conf X Γ H0) (h0 : Nat) (g0 : Γ h0 = some 0) (qm : Nat) (yd ya : Nat → Nat) (cu : Nat) (yp : YDP X Γ H0 h0 qm yd ya cu) : Ctr l X Γ yX11_back cX11_back 1 (some .int) 2 [.ref h0] H0 (QI X Γ (fun v H1 => Kp X Γ [0, 2, 3, 5, 18, 21, 23, 25, 27, 29, 31, 32, 34, 37, 39, 41] H0 H1 ∧ ((((sI H0 h0 (X.1.2 10 11)).toInt ≤ 0 ∧ v.toInt = -1 ∧ (sI H1 h0 (X.1.2 10 11)).toInt = (sI H0 h0 (X.1.2 10 11)).toInt) ∨ (1 ≤ (sI H0 h0 (X.1.2 10 11)).toInt ∧ v.toInt = (sI H0 h0 (X.1.2 10 11)).toInt - 1 ∧ (sI H1 h0 (X.1.2 10 11)).toInt = (sI H0 h0 (X.1.2 10 11)).toInt - 1)) ∧ (((sI H0 h0 (X.1.2 10 11)).toInt ≤ 0 ∧ AKE Γ H0 H1) ∨ (1 ≤ (sI H0 h0 (X.1.2 10 11)).toInt ∧ ARP Γ H0 H1 (ya cu) (ya (1 + ((sI H0 h0 (X.1.2 10 11)).toInt).toNat))))))) := by
  refine q_enterI (own := "SnowForts") (by decide) rfl (Nat.le_of_ble_eq_true rfl) ?_
  intro p e s m args below meth c ls Qz E hl ret hS0
  have hx := E.1; have hb := E.2.1
  have hKp0 : Kp X Γ [0, 2, 3, 5, 18, 21, 23, 25, 27, 29, 31, 32, 34, 37, 39, 41] H0 H0 := Kp.rf
  have hl : lv_has ls 1 [(0, .ref h0)] := hl
  have hz1 := f_bd hC0 g0 (ci := 10) (k := 11) rfl rfl
  have hcu := yp.le
  have gat : Γ (ya cu) = some 34 := yp.ga (by omega)
  have ake : AKE Γ H0 H0 := AKE.rf
  refine lv_aload_n hx hb dX11_back_0 rfl (lv_at hl 0 rfl) ?_
  refine q_getI E hC0 g0 fa_RX11_381 dX11_back_1 (fun v21 ev21 lv21 uv21 => ?_)
  have m22 : (sI H0 h0 (X.1.2 10 11)).toInt = v21.toInt := (congrArg Int32.toInt ev21).trans rfl
  refine lv_i2l (v := v21.toInt64) hx hb dX11_back_4 rfl (lv_topl (fun v23 ev23 => ?_))
  have ev23i : v23.toInt = v21.toInt := l_ofi ev23.symm rfl
  refine lv_iconst (v := 1) hx hb dX11_back_5 rfl ?_
  refine lv_iconst (v := 3) hx hb dX11_back_6 rfl ?_
  refine q_goIp (q_runS (As := [.long v23, .int 1, .int 3]) (rest := []) E hS0 (m_X11_isWithin l X Γ H0 hC0 v23 (a0 := v21.toInt) ev23i 1 (a1 := 1) (by decide) 3 (a2 := 3) (by decide)) cw_X11_isWithin cl_RX11_113 rfl hl.1 rfl (Nat.zero_le _) (by decide) dX11_back_7) hS0 (fun v24 locs24 hr24 hS24 => ?_)
  rcases hr24 with ⟨rfl, f24a0, f24a1⟩ | ⟨rfl, f24b⟩
  · refine q_if_ne hx hb (a := 1) (by decide) (tgt := 20) dX11_back_10 rfl (fun c25 => ?_) (fun c25 => absurd c25 (by omega))
    refine lv_aload_n hx hb dX11_back_20 rfl (lv_at hl 0 rfl) ?_
    refine lv_dup hx hb dX11_back_21 rfl ?_
    refine q_getI E hC0 g0 fa_RX11_381 dX11_back_22 (fun v26 ev26 lv26 uv26 => ?_)
    have qv26 := ev21.symm.trans ev26; subst qv26
    refine lv_iconst (v := 1) hx hb dX11_back_25 rfl ?_
    refine lv_isub hx hb dX11_back_26 (lv_topi (fun v27 ev27 => ?_))
    have ev27i : v27.toInt = (v21.toInt - 1) := i_sub ev27 rfl (by decide) (by omega) (by omega)
    refine q_put E hC0 hS24 g0 fp_RX11_381 (tv_I ev27i (by omega) (by omega)) rfl rfl dX11_back_27 (fun H28 locs28 hC28 hS28 U28 => ?_)
    have hKp28 := Kp.upO E g0 fp_RX11_381 rfl U28 hKp0
    have e29 := up_I U28
    have m30 : (sI H28 h0 (X.1.2 10 11)).toInt = (v21.toInt - 1) := (congrArg Int32.toInt e29).trans ev27i
    have ake : AKE Γ H0 H28 := ake.ne U28 g0 (by decide)
    refine lv_aload_n hx hb dX11_back_30 rfl (lv_at hl 0 rfl) ?_
    refine q_getS E hC28 g0 fa_RX11_42 (yp.kp g0 hKp28 rfl rfl rfl).hy dX11_back_31 (fun g31 => ?_)
    refine lv_aload_n hx hb dX11_back_34 rfl (lv_at hl 0 rfl) ?_
    refine q_getS E hC28 g0 fa_RX11_59 (yp.kp g0 hKp28 rfl rfl rfl).q dX11_back_35 (fun g32 => ?_)
    refine lv_aload_n hx hb dX11_back_38 rfl (lv_at hl 0 rfl) ?_
    refine q_getI E hC28 g0 fa_RX11_381 dX11_back_39 (fun v33 ev33 lv33 uv33 => ?_)
    have qv33 := e29.symm.trans ev33; subst qv33
    refine q_aaldS E hC28 g32 rfl rfl (fun _ => rfl) (C := "SnowForts$Yard") rfl (z := (v21.toInt - 1)) ev27i (by omega) (by omega) ((yp.kp g0 hKp28 rfl rfl rfl).m (by omega)) dX11_back_42 (fun g34 => ?_)
    have hb9 := ake
    have yb9 := yp.kp g0 hKp28 rfl rfl rfl
    refine q_goV (q_runV (As := [.ref (yd (2 + ((v21.toInt - 1) : Int).toNat))]) (rest := []) E hC28 hS28 (m_X9_copyOf l X Γ H28 hC28 (yd cu) g31 (yd (2 + ((v21.toInt - 1) : Int).toNat)) g34) cw_X9_copyOf cl_RX11_374 g31 ⟨rfl, rfl⟩ rfl hl.1 rfl (Nat.zero_le _) (by decide) dX11_back_43) hS28 (fun H35 locs35 hr35 hC35 hS35 => ?_)
    obtain ⟨hp35, hr35⟩ := hr35
    have hKp35 := hKp28.tr (hp35.mono rfl)
    have m36 : (sI H35 h0 (X.1.2 10 11)).toInt = (sI H28 h0 (X.1.2 10 11)).toInt := congrArg Int32.toInt (kp_I hp35 g0 (k := 11) rfl (by decide) rfl)
    have f35_0 := hr35
    have arp : ARP Γ H0 H35 (ya cu) (ya (1 + ((sI H0 h0 (X.1.2 10 11)).toInt).toNat)) := (f35_0 (ya cu) (ya (1 + ((sI H0 h0 (X.1.2 10 11)).toInt).toNat)) (yb9.ha (by omega)) (by rw [show 2 + ((v21.toInt - 1) : Int).toNat = 1 + ((sI H0 h0 (X.1.2 10 11)).toInt).toNat by omega]; exact yb9.ha (by omega))).pre hb9 (yp.ga (by omega))
    refine lv_aload_n hx hb dX11_back_46 rfl (lv_at hl 0 rfl) ?_
    refine q_getR E hC35 g0 fa_RX11_52 dX11_back_47 (fun q37 eq37 gq37 => ?_)
    refine lv_aload_n hx hb dX11_back_50 rfl (lv_at hl 0 rfl) ?_
    refine q_getR E hC35 g0 fa_RX11_63 dX11_back_51 (fun q38 eq38 gq38 => ?_)
    refine lv_aload_n hx hb dX11_back_54 rfl (lv_at hl 0 rfl) ?_
    have e40 := (kp_I hp35 g0 (k := 11) rfl (by decide) rfl).trans e29
    refine q_getI E hC35 g0 fa_RX11_381 dX11_back_55 (fun v39 ev39 lv39 uv39 => ?_)
    have qv39 := e40.symm.trans ev39; subst qv39
    have m41 : (sI H35 h0 (X.1.2 10 11)).toInt = (v21.toInt - 1) := (congrArg Int32.toInt ev39).trans ev27i
    refine q_aald E hC35 gq38 rfl rfl (fun _ => rfl) (C := "SnowForts$Orders") rfl (i_in (a := (v21.toInt - 1)) ev27i (by omega) (by omega)) dX11_back_58 (fun q42 eq42 gq42 => ?_)
    refine q_goV (q_runV (As := [.ref q42]) (rest := []) E hC35 hS35 (m_X2_copyOf l X Γ H35 hC35 q37 gq37 q42 gq42) cw_X2_copyOf cl_RX11_384 gq37 ⟨rfl, rfl⟩ rfl hl.1 rfl (Nat.zero_le _) (by decide) dX11_back_59) hS35 (fun H43 locs43 hr43 hC43 hS43 => ?_)
    have hKp43 := hKp35.tr (hr43.mono rfl)
    have arp : ARP Γ H0 H43 (ya cu) (ya (1 + ((sI H0 h0 (X.1.2 10 11)).toInt).toNat)) := arp.kp hr43 gat rfl
    have m44 : (sI H43 h0 (X.1.2 10 11)).toInt = (sI H35 h0 (X.1.2 10 11)).toInt := congrArg Int32.toInt (kp_I hr43 g0 (k := 11) rfl (by decide) rfl)
    refine lv_aload_n hx hb dX11_back_62 rfl (lv_at hl 0 rfl) ?_
    refine lv_aload_n hx hb dX11_back_63 rfl (lv_at hl 0 rfl) ?_
    have e46 := (kp_I hr43 g0 (k := 11) rfl (by decide) rfl).trans e40
    refine q_getI E hC43 g0 fa_RX11_381 dX11_back_64 (fun v45 ev45 lv45 uv45 => ?_)
    have qv45 := e46.symm.trans ev45; subst qv45
    have m47 : (sI H43 h0 (X.1.2 10 11)).toInt = (v21.toInt - 1) := (congrArg Int32.toInt ev45).trans ev27i
    refine q_goI (q_runV (As := [.int v27]) (rest := []) E hC43 hS43 (m_X11_answer l X Γ H43 hC43 h0 g0 v27 (a1 := (v21.toInt - 1)) ev27i) cw_X11_answer cl_RX11_191 g0 ⟨rfl, rfl⟩ rfl hl.1 rfl (Nat.zero_le _) (by decide) dX11_back_67) hS43 (fun v48 H48 locs48 hr48 hC48 hS48 => ?_)
    obtain ⟨hp48, hr48⟩ := hr48
    have hKp48 := hKp43.tr (hp48.mono rfl)
    have arp : ARP Γ H0 H48 (ya cu) (ya (1 + ((sI H0 h0 (X.1.2 10 11)).toInt).toNat)) := arp.kp hp48 gat rfl
    have m49 : (sI H48 h0 (X.1.2 10 11)).toInt = (sI H43 h0 (X.1.2 10 11)).toInt := congrArg Int32.toInt (kp_I hp48 g0 (k := 11) rfl (by decide) rfl)
    have f48_0 := hr48
    have e50 := (kp_I hp48 g0 (k := 11) rfl (by decide) rfl).trans e46
    have m51 : (sI H48 h0 (X.1.2 10 11)).toInt = (v21.toInt - 1) := (congrArg Int32.toInt e50).trans ev27i
    have hpost : ((sI H0 h0 (X.1.2 10 11)).toInt ≤ 0 ∧ AKE Γ H0 H48) ∨ (1 ≤ (sI H0 h0 (X.1.2 10 11)).toInt ∧ ARP Γ H0 H48 (ya cu) (ya (1 + ((sI H0 h0 (X.1.2 10 11)).toInt).toNat))) := Or.inr ⟨by omega, arp⟩
    have c52 : v48.toInt = v48.toInt := rfl
    exact ret v48 H48 locs48 _ _ dX11_back_70 ⟨hKp48, ⟨by omega, hpost⟩⟩ hC48 hS48
  · refine q_if_ne hx hb (a := 0) (by decide) (tgt := 20) dX11_back_10 rfl (fun c53 => absurd c53 (by omega)) (fun c53 => ?_)
    refine lv_aload_n hx hb dX11_back_13 rfl (lv_at hl 0 rfl) ?_
    refine lv_bipush (v := 8) hx hb dX11_back_14 rfl ?_
    refine q_goI (q_runV (As := [.int 8]) (rest := []) E hC0 hS24 (m_X11_refuse l X Γ H0 hC0 h0 g0 8 (a1 := 8) (by decide)) cw_X11_refuse cl_RX11_146 g0 ⟨rfl, rfl⟩ rfl hl.1 rfl (Nat.zero_le _) (by decide) dX11_back_16) hS24 (fun v54 H54 locs54 hr54 hC54 hS54 => ?_)
    obtain ⟨hp54, hr54⟩ := hr54
    have hKp54 := hKp0.tr (hp54.mono rfl)
    have ake : AKE Γ H0 H54 := ake.kp hp54 rfl
    have m55 : (sI H54 h0 (X.1.2 10 11)).toInt = (sI H0 h0 (X.1.2 10 11)).toInt := congrArg Int32.toInt (kp_I hp54 g0 (k := 11) rfl (by decide) rfl)
    have f54_0 := hr54
    have e56 := (kp_I hp54 g0 (k := 11) rfl (by decide) rfl).trans ev21
    have m57 : (sI H54 h0 (X.1.2 10 11)).toInt = v21.toInt := (congrArg Int32.toInt e56).trans rfl
    have hpost : ((sI H0 h0 (X.1.2 10 11)).toInt ≤ 0 ∧ AKE Γ H0 H54) ∨ (1 ≤ (sI H0 h0 (X.1.2 10 11)).toInt ∧ ARP Γ H0 H54 (ya cu) (ya (1 + ((sI H0 h0 (X.1.2 10 11)).toInt).toNat))) := Or.inl ⟨by omega, ake⟩
    have c58 : v54.toInt = v54.toInt := rfl
    exact ret v54 H54 locs54 _ _ dX11_back_19 ⟨hKp54, ⟨by omega, hpost⟩⟩ hC54 hS54
