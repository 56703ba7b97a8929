set_option maxRecDepth 100000 in
set_option maxHeartbeats 4000000 in
theorem m_X12_isWell (l : Launch) (X : xW) (Γ : Nat → Option Nat) (H0 : Heap) (hC0 : Conf X Γ H0) (h0 : Nat) (g0 : Γ h0 = some 11) (ca : Nat) (gca : Γ ca = some 64) (uc : ∀ a, Γ a = some 64 → a = ca) : Ctr l X Γ yX12_isWell cX12_isWell 1 (some .boolean) 1 [.ref h0] H0 (QI X Γ (fun v H1 => Kp X Γ [1, 6, 7, 8, 9, 10, 11, 12, 14, 15, 16, 17, 19, 22, 24, 26, 28, 30, 35, 36, 38] H0 H1 ∧ ((v = 1 ∧ ((sI H0 h0 (X.1.2 11 12)).toInt = 0)) ∨ (v = 0 ∧ ((sI H0 h0 (X.1.2 11 12)).toInt ≠ 0))))) := by
  refine q_enterZ (own := "SnowFortsModel") (by decide) rfl (Nat.le_of_ble_eq_true rfl) ?_
  intro p e s m args below meth c ls Qz E hl ret hS0
  have hx := E.1; have hb := E.2.1
  have hKp0 : Kp X Γ [1, 6, 7, 8, 9, 10, 11, 12, 14, 15, 16, 17, 19, 22, 24, 26, 28, 30, 35, 36, 38] H0 H0 := Kp.rf
  have hl : lv_has ls 1 [(0, .ref h0)] := hl
  refine lv_aload_n hx hb dX12_isWell_0 rfl (lv_at hl 0 rfl) ?_
  refine lv_aload_n hx hb dX12_isWell_1 rfl (lv_at hl 0 rfl) ?_
  refine q_getI E hC0 g0 fa_RX12_218 dX12_isWell_2 (fun v21 ev21 lv21 uv21 => ?_)
  have m22 : (sI H0 h0 (X.1.2 11 12)).toInt = v21.toInt := (congrArg Int32.toInt ev21).trans rfl
  refine q_put E hC0 hS0 g0 fp_RX12_28 tv_F rfl rfl dX12_isWell_5 (fun H23 locs23 hC23 hS23 U23 => ?_)
  have hKp23 := Kp.upO E g0 fp_RX12_28 rfl U23 hKp0
  have e24 := up_I U23
  have m25 : (sI H23 h0 (X.1.2 11 12)).toInt = (sI H0 h0 (X.1.2 11 12)).toInt := congrArg Int32.toInt (up_nI U23 (ne_f E 11 12 10 rfl (by decide) (by decide) (by decide)))
  refine lv_aload_n hx hb dX12_isWell_8 rfl (lv_at hl 0 rfl) ?_
  refine lv_aload_n hx hb dX12_isWell_9 rfl (lv_at hl 0 rfl) ?_
  have e27 := (up_nI U23 (ne_f E 11 12 10 rfl (by decide) (by decide) (by decide))).trans ev21
  refine q_getI E hC23 g0 fa_RX12_218 dX12_isWell_10 (fun v26 ev26 lv26 uv26 => ?_)
  have qv26 := e27.symm.trans ev26; subst qv26
  have m28 : (sI H23 h0 (X.1.2 11 12)).toInt = v21.toInt := (congrArg Int32.toInt ev26).trans rfl
  refine q_if_ne hx hb (a := v21.toInt) rfl (tgt := 20) dX12_isWell_13 rfl (fun c29 => ?_) (fun c29 => ?_)
  · refine lv_aload_n hx hb dX12_isWell_20 rfl (lv_at hl 0 rfl) ?_
    refine q_getI E hC23 g0 fa_RX12_221 dX12_isWell_21 (fun v30 ev30 _ _ => ?_)
    refine q_put E hC23 hS23 g0 fp_RX12_32 tv_F rfl rfl dX12_isWell_24 (fun H31 locs31 hC31 hS31 U31 => ?_)
    have hKp31 := Kp.upO E g0 fp_RX12_32 rfl U31 hKp23
    have e32 := up_I U31
    have m33 : (sI H31 h0 (X.1.2 11 12)).toInt = (sI H23 h0 (X.1.2 11 12)).toInt := congrArg Int32.toInt (up_nI U31 (ne_f E 11 12 11 rfl (by decide) (by decide) (by decide)))
    refine lv_aload_n hx hb dX12_isWell_27 rfl (lv_at hl 0 rfl) ?_
    have e35 := (up_nI U31 (ne_f E 11 12 11 rfl (by decide) (by decide) (by decide))).trans e27
    refine q_getI E hC31 g0 fa_RX12_218 dX12_isWell_28 (fun v34 ev34 lv34 uv34 => ?_)
    have qv34 := e35.symm.trans ev34; subst qv34
    have m36 : (sI H31 h0 (X.1.2 11 12)).toInt = v21.toInt := (congrArg Int32.toInt ev34).trans rfl
    refine q_if_eq hx hb (a := v21.toInt) rfl (tgt := 43) dX12_isWell_31 rfl (fun c37 => absurd c37 (by omega)) (fun c37 => ?_)
    refine lv_aload_n hx hb dX12_isWell_34 rfl (lv_at hl 0 rfl) ?_
    refine lv_bipush (v := 10) hx hb dX12_isWell_35 rfl ?_
    refine q_goI (q_runV (As := [.int 10]) (rest := []) E hC31 hS31 (m_X12_no l X Γ H31 hC31 h0 g0 10 (a1 := 10) (by decide) ca gca uc) cw_X12_no cl_RX12_84 g0 ⟨rfl, rfl⟩ rfl hl.1 rfl (Nat.zero_le _) (by decide) dX12_isWell_37) hS31 (fun v38 H38 locs38 hr38 hC38 hS38 => ?_)
    obtain ⟨hp38, hr38⟩ := hr38
    have hKp38 := hKp31.tr (hp38.mono rfl)
    have m39 : (sI H38 h0 (X.1.2 11 12)).toInt = (sI H31 h0 (X.1.2 11 12)).toInt := congrArg Int32.toInt (kp_I hp38 g0 (k := 12) rfl (by decide) rfl)
    rcases hr38 with ⟨rfl, f38a⟩ | ⟨rfl, -⟩
    · exact absurd f38a (by decide)
    · refine q_if_eq hx hb (a := 0) (by decide) (tgt := 47) dX12_isWell_40 rfl (fun c40 => ?_) (fun c40 => absurd c40 (by omega))
      refine lv_iconst (v := 0) hx hb dX12_isWell_47 rfl ?_
      have e41 := (kp_I hp38 g0 (k := 12) rfl (by decide) rfl).trans e35
      have m42 : (sI H38 h0 (X.1.2 11 12)).toInt = v21.toInt := (congrArg Int32.toInt e41).trans rfl
      exact ret 0 H38 locs38 _ _ dX12_isWell_48 (Or.inl rfl) ⟨hKp38, Or.inr ⟨rfl, by omega⟩⟩ hC38 hS38
  · refine lv_iconst (v := (-1)) hx hb dX12_isWell_16 rfl ?_
    refine lv_goto (tgt := 24) hx hb dX12_isWell_17 rfl ?_
    refine q_put E hC23 hS23 g0 fp_RX12_32 tv_F rfl rfl dX12_isWell_24 (fun H43 locs43 hC43 hS43 U43 => ?_)
    have hKp43 := Kp.upO E g0 fp_RX12_32 rfl U43 hKp23
    have e44 := up_I U43
    have m45 : (sI H43 h0 (X.1.2 11 12)).toInt = (sI H23 h0 (X.1.2 11 12)).toInt := congrArg Int32.toInt (up_nI U43 (ne_f E 11 12 11 rfl (by decide) (by decide) (by decide)))
    refine lv_aload_n hx hb dX12_isWell_27 rfl (lv_at hl 0 rfl) ?_
    have e47 := (up_nI U43 (ne_f E 11 12 11 rfl (by decide) (by decide) (by decide))).trans e27
    refine q_getI E hC43 g0 fa_RX12_218 dX12_isWell_28 (fun v46 ev46 lv46 uv46 => ?_)
    have qv46 := e47.symm.trans ev46; subst qv46
    have m48 : (sI H43 h0 (X.1.2 11 12)).toInt = v21.toInt := (congrArg Int32.toInt ev46).trans rfl
    refine q_if_eq hx hb (a := v21.toInt) rfl (tgt := 43) dX12_isWell_31 rfl (fun c49 => ?_) (fun c49 => absurd c49 (by omega))
    refine lv_iconst (v := 1) hx hb dX12_isWell_43 rfl ?_
    refine lv_goto (tgt := 48) hx hb dX12_isWell_44 rfl ?_
    exact ret 1 H43 locs43 _ _ dX12_isWell_48 (Or.inr rfl) ⟨hKp43, Or.inl ⟨rfl, by omega⟩⟩ hC43 hS43
