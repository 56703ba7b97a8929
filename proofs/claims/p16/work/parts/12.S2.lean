set_option maxRecDepth 100000 in
set_option maxHeartbeats 4000000 in
theorem m_X11_yard (l : Launch) (X : xW) (Γ : Nat → Option Nat) (H0 : Heap) (hC0 : Conf X Γ H0) (h0 : Nat) (g0 : Γ h0 = some 0) (p1 : Int32) {a1 : Int} (e1 : p1.toInt = a1) (ra : Nat) (gra : Γ ra = some 2) (ur : ∀ a, Γ a = some 2 → a = ra) (tp : Nat) (htp : sR H0 ra (X.1.2 4 0) = some tp) (gtp : Γ tp = some 25) (qm : Nat) (yd ya : Nat → Nat) (cu : Nat) (yp : YDP X Γ H0 h0 qm yd ya cu) : Ctr l X Γ yX11_yard cX11_yard 4 (some .int) 7 [.ref h0, .int p1] H0 (QI X Γ (fun v H1 => Kp X Γ [0, 2, 4, 5, 18, 21, 23, 25, 27, 29, 37, 41] H0 H1 ∧ ((((a1 < 0 ∨ (sI H0 ra (X.1.2 4 1)).toInt < a1) ∧ (sI H1 ra (X.1.2 4 1)).toInt = (sI H0 ra (X.1.2 4 1)).toInt) ∨ (0 ≤ a1 ∧ a1 ≤ (sI H0 ra (X.1.2 4 1)).toInt ∧ (sI H1 ra (X.1.2 4 1)).toInt = 0)) ∧ (YDR (sI H0 ra (X.1.2 4 1)).toInt a1 (bf H0 tp) v.toInt (YDP X Γ H1 h0 qm yd ya cu) (PYA X Γ H1 h0 qm yd ya cu)) ∧ (ARK Γ H0 H1 (ya (1 - cu)))))) := by
  refine q_enterI (own := "SnowForts") (by decide) rfl (Nat.le_of_ble_eq_true rfl) ?_
  intro p e s m args below meth c ls Qz E hl ret hS0
  have hx := E.1; have hb := E.2.1
  have hKp0 : Kp X Γ [0, 2, 4, 5, 18, 21, 23, 25, 27, 29, 37, 41] H0 H0 := Kp.rf
  have hl : lv_has ls 4 [(0, .ref h0), (1, .int p1)] := hl
  have hcu := yp.le
  have gat : Γ (ya (1 - cu)) = some 34 := yp.ga (by omega)
  have rf : (sI H0 ra (X.1.2 4 1)).toInt = (sI H0 ra (X.1.2 4 1)).toInt := rfl
  have ake : AKE Γ H0 H0 := AKE.rf
  have ye : sR H0 h0 (X.1.2 10 5) = some (yd cu) := yp.hy
  have sp0 : sR H0 h0 (X.1.2 10 6) = some (yd (1 - cu)) := yp.s
  refine lv_iload_n hx hb dX11_yard_0 rfl (lv_at hl 1 rfl) ?_
  refine lv_i2l (v := p1.toInt64) hx hb dX11_yard_1 rfl (lv_topl (fun v21 ev21 => ?_))
  have ev21i : v21.toInt = a1 := l_ofi ev21.symm e1
  refine lv_iconst (v := 0) hx hb dX11_yard_2 rfl ?_
  refine lv_aload_n hx hb dX11_yard_3 rfl (lv_at hl 0 rfl) ?_
  refine q_getU E hC0 g0 fa_RX11_19 ur dX11_yard_4 ?_
  refine q_getI E hC0 gra fa_RX11_171 dX11_yard_7 (fun v22 ev22 lv22 uv22 => ?_)
  have m23 : (sI H0 ra (X.1.2 4 1)).toInt = v22.toInt := congrArg Int32.toInt ev22
  refine q_goIp (q_runS (As := [.long v21, .int 0, .int v22]) (rest := []) E hS0 (m_X11_isWithin l X Γ H0 hC0 v21 (a0 := a1) ev21i 0 (a1 := 0) (by decide) v22 (a2 := v22.toInt) rfl) cw_X11_isWithin cl_RX11_113 rfl hl.1 rfl (Nat.zero_le _) (by decide) dX11_yard_10) hS0 (fun v24 locs24 hr24 hS24 => ?_)
  rcases hr24 with ⟨rfl, f24a0, f24a1⟩ | ⟨rfl, f24b⟩
  · refine q_if_ne hx hb (a := 1) (by decide) (tgt := 22) dX11_yard_13 rfl (fun c25 => ?_) (fun c25 => absurd c25 (by omega))
    refine lv_aload_n hx hb dX11_yard_22 rfl (lv_at hl 0 rfl) ?_
    refine q_getR E hC0 g0 fa_RX11_28 dX11_yard_23 (fun q26 eq26 gq26 => ?_)
    refine lv_iload_n hx hb dX11_yard_26 rfl (lv_at hl 1 rfl) ?_
    refine lv_aload_n hx hb dX11_yard_27 rfl (lv_at hl 0 rfl) ?_
    refine q_getR E hC0 g0 fa_RX11_46 dX11_yard_28 (fun q27 eq27 gq27 => ?_)
    obtain ⟨sy, esy⟩ : ∃ z, z = q27 := ⟨_, rfl⟩
    have gsy : Γ sy = some 5 := esy ▸ gq27
    have sp : sR H0 h0 (X.1.2 10 6) = some sy := esy ▸ eq27
    have esq : sy = yd (1 - cu) := Option.some.inj ((sp.symm).trans yp.s)
    have esa : sR H0 sy (X.1.2 8 10) = some (ya (1 - cu)) := by rw [esq]; exact yp.ha (by omega)
    refine q_goI (q_runV (As := [.int p1, .ref q27]) (rest := []) E hC0 hS24 (m_X10_parse l X Γ H0 hC0 q26 gq26 p1 (a1 := a1) e1 q27 gq27 ra gra ur tp htp gtp (by omega) (by omega)) cw_X10_parse cl_RX11_178 gq26 ⟨rfl, rfl⟩ rfl hl.1 rfl (Nat.zero_le _) (by decide) dX11_yard_31) hS24 (fun v28 H28 locs28 hr28 hC28 hS28 => ?_)
    obtain ⟨hp28, hr28⟩ := hr28
    have hKp28 := hKp0.tr (hp28.mono rfl)
    have rf : (sI H28 ra (X.1.2 4 1)).toInt = (sI H0 ra (X.1.2 4 1)).toInt := (congrArg Int32.toInt (kp_I hp28 gra (k := 1) rfl (by decide) rfl)).trans rf
    have ye : sR H28 h0 (X.1.2 10 5) = some (yd cu) := (kp_R hp28 g0 (ci := 10) (k := 5) rfl (by decide) rfl).trans ye
    have sp : sR H28 h0 (X.1.2 10 6) = some sy := (kp_R hp28 g0 (ci := 10) (k := 6) rfl (by decide) rfl).trans sp
    obtain ⟨kd, vl, w3, pos, N, htk, hak, hzz⟩ := hr28.2
    rcases hzz with ⟨rfl, w, h, hgy, hw, hh, T, hfT, haT⟩ | ⟨rfl, hgn⟩
    · have ark : ARK Γ H0 H28 (ya (1 - cu)) := hak (ya (1 - cu)) (esy ▸ esa)
      have arc : ∀ k : Nat, k < 4 → (sI H28 (ya (1 - cu)) k).toInt = T.2.2.2.2.2 k := haT (ya (1 - cu)) (esy ▸ esa)
      have yw : (sI H28 sy (X.1.2 8 0)).toInt = w := esy ▸ hw
      have yh : (sI H28 sy (X.1.2 8 1)).toInt = h := esy ▸ hh
      refine lv_istore_n hx hb dX11_yard_34 rfl hl (by decide) rfl (fun ls hl => ?_)
      have hl : lv_has ls 4 [(2, .int 1), (0, .ref h0), (1, .int p1)] := hl
      refine lv_aload_n hx hb dX11_yard_35 rfl (lv_at hl 1 rfl) ?_
      refine q_getU E hC28 g0 fa_RX11_19 ur dX11_yard_36 ?_
      refine lv_iconst (v := 0) hx hb dX11_yard_39 rfl ?_
      refine q_put E hC28 hS28 gra fp_RX11_171 (tv_I (show (0 : Int32).toInt = 0 from by decide) (by omega) (by omega)) rfl rfl dX11_yard_40 (fun H29 locs29 hC29 hS29 U29 => ?_)
      have hKp29 := Kp.upO E gra fp_RX11_171 rfl U29 hKp28
      have e30 := up_I U29
      have ye : sR H29 h0 (X.1.2 10 5) = some (yd cu) := (up_nR U29 (ne_k g0 gra (by decide))).trans ye
      have sp : sR H29 h0 (X.1.2 10 6) = some sy := (up_nR U29 (ne_k g0 gra (by decide))).trans sp
      have ark : ARK Γ H0 H29 (ya (1 - cu)) := ark.ne U29 gra (by decide)
      have arc : ∀ k : Nat, k < 4 → (sI H29 (ya (1 - cu)) k).toInt = T.2.2.2.2.2 k := fun k hk => by rw [up_nI U29 (ne_k gat gra (by decide))]; exact arc k hk
      have yw : (sI H29 sy (X.1.2 8 0)).toInt = w := (congrArg Int32.toInt (up_nI U29 (ne_k gsy gra (by decide)))).trans yw
      have yh : (sI H29 sy (X.1.2 8 1)).toInt = h := (congrArg Int32.toInt (up_nI U29 (ne_k gsy gra (by decide)))).trans yh
      have rz : (sI H29 ra (X.1.2 4 1)).toInt = 0 := congrArg Int32.toInt (up_I U29)
      refine lv_iload_n hx hb dX11_yard_43 rfl (lv_at hl 0 rfl) ?_
      refine q_if_ne hx hb (a := 1) (by decide) (tgt := 54) dX11_yard_44 rfl (fun c31 => ?_) (fun c31 => absurd c31 (by omega))
      refine lv_aload_n hx hb dX11_yard_54 rfl (lv_at hl 1 rfl) ?_
      refine q_getR E hC29 g0 fa_RX11_42 dX11_yard_55 (fun q32 eq32 gq32 => ?_)
      have eqo : q32 = yd cu := Option.some.inj (eq32.symm.trans ye)
      refine lv_astore_n hx hb dX11_yard_58 rfl hl (by decide) rfl (fun ls hl => ?_)
      have hl : lv_has ls 4 [(3, .ref q32), (2, .int 1), (0, .ref h0), (1, .int p1)] := hl
      refine lv_aload_n hx hb dX11_yard_59 rfl (lv_at hl 2 rfl) ?_
      refine lv_aload_n hx hb dX11_yard_60 rfl (lv_at hl 2 rfl) ?_
      refine q_getR E hC29 g0 fa_RX11_46 dX11_yard_61 (fun q33 eq33 gq33 => ?_)
      have eq2 := Option.some.inj (eq33.symm.trans sp)
      refine q_put E hC29 hS29 g0 fp_RX11_42 (tv_R gq33) rfl rfl dX11_yard_64 (fun H34 locs34 hC34 hS34 U34 => ?_)
      have hKp34 := Kp.upO E g0 fp_RX11_42 rfl U34 hKp29
      have ark : ARK Γ H0 H34 (ya (1 - cu)) := ark.ne U34 g0 (by decide)
      have arc : ∀ k : Nat, k < 4 → (sI H34 (ya (1 - cu)) k).toInt = T.2.2.2.2.2 k := fun k hk => by rw [up_nI U34 (ne_k gat g0 (by decide))]; exact arc k hk
      have yw : (sI H34 sy (X.1.2 8 0)).toInt = w := (congrArg Int32.toInt (up_nI U34 (ne_k gsy g0 (by decide)))).trans yw
      have yh : (sI H34 sy (X.1.2 8 1)).toInt = h := (congrArg Int32.toInt (up_nI U34 (ne_k gsy g0 (by decide)))).trans yh
      have rz : (sI H34 ra (X.1.2 4 1)).toInt = 0 := (congrArg Int32.toInt (up_nI U34 (ne_k gra g0 (by decide)))).trans rz
      have hy1 : sR H34 h0 (X.1.2 10 5) = some sy := eq2 ▸ up_R U34
      refine lv_aload_n hx hb dX11_yard_67 rfl (lv_at hl 2 rfl) ?_
      refine lv_aload_n hx hb dX11_yard_68 rfl (lv_at hl 0 rfl) ?_
      refine q_put E hC34 hS34 g0 fp_RX11_46 (tv_R gq32) rfl rfl dX11_yard_69 (fun H35 locs35 hC35 hS35 U35 => ?_)
      have hKp35 := Kp.upO E g0 fp_RX11_46 rfl U35 hKp34
      have ark : ARK Γ H0 H35 (ya (1 - cu)) := ark.ne U35 g0 (by decide)
      have arc : ∀ k : Nat, k < 4 → (sI H35 (ya (1 - cu)) k).toInt = T.2.2.2.2.2 k := fun k hk => by rw [up_nI U35 (ne_k gat g0 (by decide))]; exact arc k hk
      have yw : (sI H35 sy (X.1.2 8 0)).toInt = w := (congrArg Int32.toInt (up_nI U35 (ne_k gsy g0 (by decide)))).trans yw
      have yh : (sI H35 sy (X.1.2 8 1)).toInt = h := (congrArg Int32.toInt (up_nI U35 (ne_k gsy g0 (by decide)))).trans yh
      have rz : (sI H35 ra (X.1.2 4 1)).toInt = 0 := (congrArg Int32.toInt (up_nI U35 (ne_k gra g0 (by decide)))).trans rz
      have hy2 : sR H35 h0 (X.1.2 10 5) = some sy := (up_nR U35 (ne_f E 10 5 6 rfl (by decide) (by decide) (by decide))).trans hy1
      have hz2 : sR H35 h0 (X.1.2 10 6) = some (yd cu) := by rw [← eqo]; exact up_R U35
      refine lv_aload_n hx hb dX11_yard_72 rfl (lv_at hl 2 rfl) ?_
      refine q_getR E hC35 g0 fa_RX11_52 dX11_yard_73 (fun q36 eq36 gq36 => ?_)
      refine q_goV (q_runV (As := []) (rest := []) E hC35 hS35 (m_X2_clear l X Γ H35 hC35 q36 gq36) cw_X2_clear cl_RX11_182 gq36 ⟨rfl, rfl⟩ rfl hl.1 rfl (Nat.zero_le _) (by decide) dX11_yard_76) hS35 (fun H37 locs37 hr37 hC37 hS37 => ?_)
      have hKp37 := hKp35.tr (hr37.mono rfl)
      have ark : ARK Γ H0 H37 (ya (1 - cu)) := ark.kp hr37 rfl
      have arc : ∀ k : Nat, k < 4 → (sI H37 (ya (1 - cu)) k).toInt = T.2.2.2.2.2 k := fun k hk => by rw [kp_aI hr37 k gat rfl rfl]; exact arc k hk
      have yw : (sI H37 sy (X.1.2 8 0)).toInt = w := (congrArg Int32.toInt (kp_I hr37 gsy (ci := 8) rfl (by decide) rfl)).trans yw
      have yh : (sI H37 sy (X.1.2 8 1)).toInt = h := (congrArg Int32.toInt (kp_I hr37 gsy (ci := 8) rfl (by decide) rfl)).trans yh
      have rz : (sI H37 ra (X.1.2 4 1)).toInt = 0 := (congrArg Int32.toInt (kp_I hr37 gra (k := 1) rfl (by decide) rfl)).trans rz
      have hy3 := (kp_R hr37 g0 (ci := 10) (k := 5) rfl (by decide) rfl).trans hy2
      have hz3 := (kp_R hr37 g0 (ci := 10) (k := 6) rfl (by decide) rfl).trans hz2
      refine lv_aload_n hx hb dX11_yard_79 rfl (lv_at hl 2 rfl) ?_
      refine lv_aload_n hx hb dX11_yard_80 rfl (lv_at hl 2 rfl) ?_
      refine q_getR E hC37 g0 fa_RX11_42 dX11_yard_81 (fun q38 eq38 gq38 => ?_)
      have yw2 : (sI H37 q38 (X.1.2 8 0)).toInt = w := by rw [Option.some.inj (eq38.symm.trans hy3)]; exact yw
      refine q_getI E hC37 gq38 fa_RX11_185 dX11_yard_84 (fun v39 ev39 _ _ => ?_)
      have m40 : (sI H37 q38 (X.1.2 8 0)).toInt = v39.toInt := congrArg Int32.toInt ev39
      refine lv_aload_n hx hb dX11_yard_87 rfl (lv_at hl 2 rfl) ?_
      refine q_getR E hC37 g0 fa_RX11_42 dX11_yard_88 (fun q41 eq41 gq41 => ?_)
      have yh2 : (sI H37 q41 (X.1.2 8 1)).toInt = h := by rw [Option.some.inj (eq41.symm.trans hy3)]; exact yh
      refine q_getI E hC37 gq41 fa_RX11_188 dX11_yard_91 (fun v42 ev42 _ _ => ?_)
      have m43 : (sI H37 q41 (X.1.2 8 1)).toInt = v42.toInt := congrArg Int32.toInt ev42
      refine lv_imul hx hb dX11_yard_94 (lv_topi (fun v44 ev44 => ?_))
      have hmul := mul_small ev44 (a := w) (b := h) (by omega) (by omega) (gYard_bd hgy)
      refine q_goI (q_runV (As := [.int v44]) (rest := []) E hC37 hS37 (m_X11_answer l X Γ H37 hC37 h0 g0 v44 (a1 := v44.toInt) rfl) cw_X11_answer cl_RX11_191 g0 ⟨rfl, rfl⟩ rfl hl.1 rfl (Nat.zero_le _) (by decide) dX11_yard_95) hS37 (fun v45 H45 locs45 hr45 hC45 hS45 => ?_)
      obtain ⟨hp45, hr45⟩ := hr45
      have hKp45 := hKp37.tr (hp45.mono rfl)
      have ark : ARK Γ H0 H45 (ya (1 - cu)) := ark.kp hp45 rfl
      have arc : ∀ k : Nat, k < 4 → (sI H45 (ya (1 - cu)) k).toInt = T.2.2.2.2.2 k := fun k hk => by rw [kp_aI hp45 k gat rfl rfl]; exact arc k hk
      have rz : (sI H45 ra (X.1.2 4 1)).toInt = 0 := (congrArg Int32.toInt (kp_I hp45 gra (k := 1) rfl (by decide) rfl)).trans rz
      have f45_0 := hr45
      have hans := f45_0
      have hy5 := (kp_R hp45 g0 (ci := 10) (k := 5) rfl (by decide) rfl).trans hy3
      have hz5 := (kp_R hp45 g0 (ci := 10) (k := 6) rfl (by decide) rfl).trans hz3
      have hw5 := hy5; have hw6 := hz5
      have ypy : YDP X Γ H45 h0 qm yd ya (1 - cu) := yp.re g0 hKp45 rfl rfl (by omega) (hw5.trans (by rw [esq])) (hw6.trans (by rw [show 1 - (1 - cu) = cu by omega]))
      have hyd : YDR (sI H0 ra (X.1.2 4 1)).toInt a1 (bf H0 tp) (v45 : Int32).toInt (YDP X Γ H45 h0 qm yd ya cu) (PYA X Γ H45 h0 qm yd ya cu) := Or.inr ⟨by omega, by omega, kd, vl, w3, pos, N, htk, Or.inl ⟨w, h, hgy, hans.trans hmul, ypy, T, hfT, arc⟩⟩
      have c46 : v45.toInt = v45.toInt := rfl
      exact ret v45 H45 locs45 _ _ dX11_yard_98 ⟨hKp45, ⟨by omega, hyd, ark⟩⟩ hC45 hS45
    · have ark : ARK Γ H0 H28 (ya (1 - cu)) := hak (ya (1 - cu)) (esy ▸ esa)
      refine lv_istore_n hx hb dX11_yard_34 rfl hl (by decide) rfl (fun ls hl => ?_)
      have hl : lv_has ls 4 [(2, .int 0), (0, .ref h0), (1, .int p1)] := hl
      refine lv_aload_n hx hb dX11_yard_35 rfl (lv_at hl 1 rfl) ?_
      refine q_getU E hC28 g0 fa_RX11_19 ur dX11_yard_36 ?_
      refine lv_iconst (v := 0) hx hb dX11_yard_39 rfl ?_
      refine q_put E hC28 hS28 gra fp_RX11_171 (tv_I (show (0 : Int32).toInt = 0 from by decide) (by omega) (by omega)) rfl rfl dX11_yard_40 (fun H47 locs47 hC47 hS47 U47 => ?_)
      have hKp47 := Kp.upO E gra fp_RX11_171 rfl U47 hKp28
      have e48 := up_I U47
      have ye : sR H47 h0 (X.1.2 10 5) = some (yd cu) := (up_nR U47 (ne_k g0 gra (by decide))).trans ye
      have sp : sR H47 h0 (X.1.2 10 6) = some sy := (up_nR U47 (ne_k g0 gra (by decide))).trans sp
      have ark : ARK Γ H0 H47 (ya (1 - cu)) := ark.ne U47 gra (by decide)
      have rz : (sI H47 ra (X.1.2 4 1)).toInt = 0 := congrArg Int32.toInt (up_I U47)
      refine lv_iload_n hx hb dX11_yard_43 rfl (lv_at hl 0 rfl) ?_
      refine q_if_ne hx hb (a := 0) (by decide) (tgt := 54) dX11_yard_44 rfl (fun c49 => absurd c49 (by omega)) (fun c49 => ?_)
      refine lv_aload_n hx hb dX11_yard_47 rfl (lv_at hl 1 rfl) ?_
      refine lv_bipush (v := 10) hx hb dX11_yard_48 rfl ?_
      refine q_goI (q_runV (As := [.int 10]) (rest := []) E hC47 hS47 (m_X11_refuse l X Γ H47 hC47 h0 g0 10 (a1 := 10) (by decide)) cw_X11_refuse cl_RX11_146 g0 ⟨rfl, rfl⟩ rfl hl.1 rfl (Nat.zero_le _) (by decide) dX11_yard_50) hS47 (fun v50 H50 locs50 hr50 hC50 hS50 => ?_)
      obtain ⟨hp50, hr50⟩ := hr50
      have hKp50 := hKp47.tr (hp50.mono rfl)
      have ye : sR H50 h0 (X.1.2 10 5) = some (yd cu) := (kp_R hp50 g0 (ci := 10) (k := 5) rfl (by decide) rfl).trans ye
      have sp : sR H50 h0 (X.1.2 10 6) = some sy := (kp_R hp50 g0 (ci := 10) (k := 6) rfl (by decide) rfl).trans sp
      have ark : ARK Γ H0 H50 (ya (1 - cu)) := ark.kp hp50 rfl
      have rz : (sI H50 ra (X.1.2 4 1)).toInt = 0 := (congrArg Int32.toInt (kp_I hp50 gra (k := 1) rfl (by decide) rfl)).trans rz
      have f50_0 := hr50
      have ypn : YDP X Γ H50 h0 qm yd ya cu := yp.re g0 hKp50 rfl rfl hcu ye (sp.trans (by rw [esq]))
      have hyd : YDR (sI H0 ra (X.1.2 4 1)).toInt a1 (bf H0 tp) (v50 : Int32).toInt (YDP X Γ H50 h0 qm yd ya cu) (PYA X Γ H50 h0 qm yd ya cu) := Or.inr ⟨by omega, by omega, kd, vl, w3, pos, N, htk, Or.inr ⟨hgn, by omega, ypn⟩⟩
      have c51 : v50.toInt = v50.toInt := rfl
      exact ret v50 H50 locs50 _ _ dX11_yard_53 ⟨hKp50, ⟨by omega, hyd, ark⟩⟩ hC50 hS50
  · refine q_if_ne hx hb (a := 0) (by decide) (tgt := 22) dX11_yard_13 rfl (fun c52 => absurd c52 (by omega)) (fun c52 => ?_)
    refine lv_aload_n hx hb dX11_yard_16 rfl (lv_at hl 0 rfl) ?_
    refine lv_iconst (v := 5) hx hb dX11_yard_17 rfl ?_
    refine q_goI (q_runV (As := [.int 5]) (rest := []) E hC0 hS24 (m_X11_refuse l X Γ H0 hC0 h0 g0 5 (a1 := 5) (by decide)) cw_X11_refuse cl_RX11_146 g0 ⟨rfl, rfl⟩ rfl hl.1 rfl (Nat.zero_le _) (by decide) dX11_yard_18) hS24 (fun v53 H53 locs53 hr53 hC53 hS53 => ?_)
    obtain ⟨hp53, hr53⟩ := hr53
    have hKp53 := hKp0.tr (hp53.mono rfl)
    have rf : (sI H53 ra (X.1.2 4 1)).toInt = (sI H0 ra (X.1.2 4 1)).toInt := (congrArg Int32.toInt (kp_I hp53 gra (k := 1) rfl (by decide) rfl)).trans rf
    have ake : AKE Γ H0 H53 := ake.kp hp53 rfl
    have ye : sR H53 h0 (X.1.2 10 5) = some (yd cu) := (kp_R hp53 g0 (ci := 10) (k := 5) rfl (by decide) rfl).trans ye
    have sp0 : sR H53 h0 (X.1.2 10 6) = some (yd (1 - cu)) := (kp_R hp53 g0 (ci := 10) (k := 6) rfl (by decide) rfl).trans sp0
    have f53_0 := hr53
    have ark : ARK Γ H0 H53 (ya (1 - cu)) := ake.ark
    have ark : ARK Γ H0 H53 (ya (1 - cu)) := ake.ark
    have ypn : YDP X Γ H53 h0 qm yd ya cu := yp.re g0 hKp53 rfl rfl hcu ye sp0
    have hyd : YDR (sI H0 ra (X.1.2 4 1)).toInt a1 (bf H0 tp) (v53 : Int32).toInt (YDP X Γ H53 h0 qm yd ya cu) (PYA X Γ H53 h0 qm yd ya cu) := Or.inl ⟨by omega, by omega, ypn⟩
    have c54 : v53.toInt = v53.toInt := rfl
    exact ret v53 H53 locs53 _ _ dX11_yard_21 ⟨hKp53, ⟨by omega, hyd, ark⟩⟩ hC53 hS53
