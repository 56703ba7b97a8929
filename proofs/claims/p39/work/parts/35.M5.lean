set_option maxRecDepth 100000 in
set_option maxHeartbeats 4000000 in
theorem m_X12_isWell (l : Launch) (X : xW) (Γ : Nat → Option Nat) (H0 : Heap) (hC0 : Conf X Γ H0) (h0 : Nat) (g0 : Γ h0 = some 11) (ca : Nat) (gca : Γ ca = some 64) (uc : ∀ a, Γ a = some 64 → a = ca) : Ctr l X Γ yX12_isWell cX12_isWell 1 (some .boolean) 1 [.ref h0] H0 (QI X Γ (fun v H1 => Kp X Γ [1, 6, 7, 8, 9, 10, 11, 12, 14, 15, 16, 17, 19, 22, 24, 26, 28] H0 H1 ∧ ((v = 1 ∧ ((sI H0 h0 (X.1.2 11 12)).toInt = 0)) ∨ (v = 0 ∧ (True))))) := by
  refine q_enterZ (own := "SnowFortsModel") (by decide) rfl (Nat.le_of_ble_eq_true rfl) ?_
  intro p e s m args below meth c ls Qz E hl ret hS0
  have hx := E.1; have hb := E.2.1
  have hKp0 : Kp X Γ [1, 6, 7, 8, 9, 10, 11, 12, 14, 15, 16, 17, 19, 22, 24, 26, 28] H0 H0 := Kp.rf
  have hl : lv_has ls 1 [(0, .ref h0)] := hl
  refine lv_aload_n hx hb dX12_isWell_0 rfl (lv_at hl 0 rfl) ?_
  refine lv_aload_n hx hb dX12_isWell_1 rfl (lv_at hl 0 rfl) ?_
  refine q_getI E hC0 g0 fa_RX12_218 dX12_isWell_2 (fun v21 ev21 lv21 uv21 => ?_)
  have m22 : (sI H0 h0 (X.1.2 11 12)).toInt = v21.toInt := (congrArg Int32.toInt ev21).trans rfl
  refine q_put E hC0 hS0 g0 fp_RX12_28 tv_F rfl rfl dX12_isWell_5 (fun H23 locs23 hC23 hS23 U23 => ?_)
  have hKp23 := Kp.upO E g0 fp_RX12_28 rfl U23 hKp0
  have e24 := up_I U23
  have m25 : (sI H23 h0 (X.1.2 11 12)).toInt = (sI H0 h0 (X.1.2 11 12)).toInt := congrArg Int32.toInt (up_nI U23 (ne_f E 11 12 10 rfl (by decide) (by decide) (by decide)))
  refine lv_aload_n hx hb dX12_isWell_8 rfl (lv_at hl 0 rfl) ?_
  refine lv_aload_n hx hb dX12_isWell_9 rfl (lv_at hl 0 rfl) ?_
  have e27 := (up_nI U23 (ne_f E 11 12 10 rfl (by decide) (by decide) (by decide))).trans ev21
  refine q_getI E hC23 g0 fa_RX12_218 dX12_isWell_10 (fun v26 ev26 lv26 uv26 => ?_)
  have qv26 := e27.symm.trans ev26; subst qv26
  have m28 : (sI H23 h0 (X.1.2 11 12)).toInt = v21.toInt := (congrArg Int32.toInt ev26).trans rfl
  refine q_if_ne hx hb (a := v21.toInt) rfl (tgt := 20) dX12_isWell_13 rfl (fun c29 => ?_) (fun c29 => ?_)
  · refine lv_aload_n hx hb dX12_isWell_20 rfl (lv_at hl 0 rfl) ?_
    refine q_getI E hC23 g0 fa_RX12_221 dX12_isWell_21 (fun v30 ev30 _ _ => ?_)
    refine q_put E hC23 hS23 g0 fp_RX12_32 tv_F rfl rfl dX12_isWell_24 (fun H31 locs31 hC31 hS31 U31 => ?_)
    have hKp31 := Kp.upO E g0 fp_RX12_32 rfl U31 hKp23
    have e32 := up_I U31
    have m33 : (sI H31 h0 (X.1.2 11 12)).toInt = (sI H23 h0 (X.1.2 11 12)).toInt := congrArg Int32.toInt (up_nI U31 (ne_f E 11 12 11 rfl (by decide) (by decide) (by decide)))
    refine lv_aload_n hx hb dX12_isWell_27 rfl (lv_at hl 0 rfl) ?_
    have e35 := (up_nI U31 (ne_f E 11 12 11 rfl (by decide) (by decide) (by decide))).trans e27
    refine q_getI E hC31 g0 fa_RX12_218 dX12_isWell_28 (fun v34 ev34 lv34 uv34 => ?_)
    have qv34 := e35.symm.trans ev34; subst qv34
    have m36 : (sI H31 h0 (X.1.2 11 12)).toInt = v21.toInt := (congrArg Int32.toInt ev34).trans rfl
    refine q_if_eq hx hb (a := v21.toInt) rfl (tgt := 43) dX12_isWell_31 rfl (fun c37 => absurd c37 (by omega)) (fun c37 => ?_)
    refine lv_aload_n hx hb dX12_isWell_34 rfl (lv_at hl 0 rfl) ?_
    refine lv_bipush (v := 10) hx hb dX12_isWell_35 rfl ?_
    refine q_goI (q_runV (As := [.int 10]) (rest := []) E hC31 hS31 (m_X12_no l X Γ H31 hC31 h0 g0 10 (a1 := 10) (by decide) ca gca uc) cw_X12_no cl_RX12_84 g0 ⟨rfl, rfl⟩ rfl hl.1 rfl (Nat.zero_le _) (by decide) dX12_isWell_37) hS31 (fun v38 H38 locs38 hr38 hC38 hS38 => ?_)
    obtain ⟨hp38, hr38⟩ := hr38
    have hKp38 := hKp31.tr (hp38.mono rfl)
    rcases hr38 with ⟨rfl, f38a⟩ | ⟨rfl, -⟩
    · exact absurd f38a (by decide)
    · refine q_if_eq hx hb (a := 0) (by decide) (tgt := 47) dX12_isWell_40 rfl (fun c39 => ?_) (fun c39 => absurd c39 (by omega))
      refine lv_iconst (v := 0) hx hb dX12_isWell_47 rfl ?_
      exact ret 0 H38 locs38 _ _ dX12_isWell_48 (Or.inl rfl) ⟨hKp38, Or.inr ⟨rfl, trivial⟩⟩ hC38 hS38
  · refine lv_iconst (v := (-1)) hx hb dX12_isWell_16 rfl ?_
    refine lv_goto (tgt := 24) hx hb dX12_isWell_17 rfl ?_
    refine q_put E hC23 hS23 g0 fp_RX12_32 tv_F rfl rfl dX12_isWell_24 (fun H40 locs40 hC40 hS40 U40 => ?_)
    have hKp40 := Kp.upO E g0 fp_RX12_32 rfl U40 hKp23
    have e41 := up_I U40
    have m42 : (sI H40 h0 (X.1.2 11 12)).toInt = (sI H23 h0 (X.1.2 11 12)).toInt := congrArg Int32.toInt (up_nI U40 (ne_f E 11 12 11 rfl (by decide) (by decide) (by decide)))
    refine lv_aload_n hx hb dX12_isWell_27 rfl (lv_at hl 0 rfl) ?_
    have e44 := (up_nI U40 (ne_f E 11 12 11 rfl (by decide) (by decide) (by decide))).trans e27
    refine q_getI E hC40 g0 fa_RX12_218 dX12_isWell_28 (fun v43 ev43 lv43 uv43 => ?_)
    have qv43 := e44.symm.trans ev43; subst qv43
    have m45 : (sI H40 h0 (X.1.2 11 12)).toInt = v21.toInt := (congrArg Int32.toInt ev43).trans rfl
    refine q_if_eq hx hb (a := v21.toInt) rfl (tgt := 43) dX12_isWell_31 rfl (fun c46 => ?_) (fun c46 => absurd c46 (by omega))
    refine lv_iconst (v := 1) hx hb dX12_isWell_43 rfl ?_
    refine lv_goto (tgt := 48) hx hb dX12_isWell_44 rfl ?_
    exact ret 1 H40 locs40 _ _ dX12_isWell_48 (Or.inr rfl) ⟨hKp40, Or.inl ⟨rfl, by omega⟩⟩ hC40 hS40
set_option maxRecDepth 100000 in
set_option maxHeartbeats 4000000 in
theorem m_X12_yard (l : Launch) (X : xW) (Γ : Nat → Option Nat) (H0 : Heap) (hC0 : Conf X Γ H0) (h0 : Nat) (g0 : Γ h0 = some 11) (p1 : Int32) {a1 : Int} (e1 : p1.toInt = a1) (ca : Nat) (gca : Γ ca = some 64) (uc : ∀ a, Γ a = some 64 → a = ca) : Ctr l X Γ yX12_yard cX12_yard 4 (some .int) 5 [.ref h0, .int p1] H0 (QI X Γ (fun v H1 => Kp X Γ [1, 6, 8, 9, 11, 12, 14, 19, 22, 24, 26, 28] H0 H1 ∧ ((KD H0 H1 ca 0 0 ∨ (KD H0 H1 ca 0 520 ∧ YI H1 ca)) ∧ (((a1 < 0 ∨ (sI H0 h0 (X.1.2 11 8)).toInt < a1) ∧ (sI H1 h0 (X.1.2 11 8)).toInt = (sI H0 h0 (X.1.2 11 8)).toInt) ∨ (0 ≤ a1 ∧ a1 ≤ (sI H0 h0 (X.1.2 11 8)).toInt ∧ (sI H1 h0 (X.1.2 11 8)).toInt = 0))))) := by
  refine q_enterI (own := "SnowFortsModel") (by decide) rfl (Nat.le_of_ble_eq_true rfl) ?_
  intro p e s m args below meth c ls Qz E hl ret hS0
  have hx := E.1; have hb := E.2.1
  have hKp0 : Kp X Γ [1, 6, 8, 9, 11, 12, 14, 19, 22, 24, 26, 28] H0 H0 := Kp.rf
  have hl : lv_has ls 4 [(0, .ref h0), (1, .int p1)] := hl
  have hz7 := f_bd hC0 g0 (ci := 11) (k := 8) rfl rfl
  have kd : KD H0 H0 ca 0 0 := KD.rf
  have kd2 : KD H0 H0 ca 0 520 := KD.rf
  refine lv_aload_n hx hb dX12_yard_0 rfl (lv_at hl 0 rfl) ?_
  refine lv_iconst (v := 0) hx hb dX12_yard_1 rfl ?_
  refine q_put E hC0 hS0 g0 fp_RX12_69 tv_F rfl rfl dX12_yard_2 (fun H21 locs21 hC21 hS21 U21 => ?_)
  have hKp21 := Kp.upO E g0 fp_RX12_69 rfl U21 hKp0
  have e22 := up_I U21
  replace kd : KD H0 H21 ca 0 0 := KD.ne kd U21 (nek g0 gca (by decide))
  replace kd2 : KD H0 H21 ca 0 520 := KD.ne kd2 U21 (nek g0 gca (by decide))
  have m23 : (sI H21 h0 (X.1.2 11 12)).toInt = (sI H0 h0 (X.1.2 11 12)).toInt := congrArg Int32.toInt (up_nI U21 (ne_f E 11 12 1 rfl (by decide) (by decide) (by decide)))
  have m24 : (sI H21 h0 (X.1.2 11 14)).toInt = (sI H0 h0 (X.1.2 11 14)).toInt := congrArg Int32.toInt (up_nI U21 (ne_f E 11 14 1 rfl (by decide) (by decide) (by decide)))
  have m25 := congrArg tk m24
  have m26 : (sI H21 h0 (X.1.2 11 16)).toInt = (sI H0 h0 (X.1.2 11 16)).toInt := congrArg Int32.toInt (up_nI U21 (ne_f E 11 16 1 rfl (by decide) (by decide) (by decide)))
  have m27 : (sI H21 h0 (X.1.2 11 8)).toInt = (sI H0 h0 (X.1.2 11 8)).toInt := congrArg Int32.toInt (up_nI U21 (ne_f E 11 8 1 rfl (by decide) (by decide) (by decide)))
  refine lv_aload_n hx hb dX12_yard_5 rfl (lv_at hl 0 rfl) ?_
  refine lv_iconst (v := 0) hx hb dX12_yard_6 rfl ?_
  refine q_put E hC21 hS21 g0 fp_RX12_72 tv_F rfl rfl dX12_yard_7 (fun H28 locs28 hC28 hS28 U28 => ?_)
  have hKp28 := Kp.upO E g0 fp_RX12_72 rfl U28 hKp21
  have e29 := up_I U28
  replace kd : KD H0 H28 ca 0 0 := KD.ne kd U28 (nek g0 gca (by decide))
  replace kd2 : KD H0 H28 ca 0 520 := KD.ne kd2 U28 (nek g0 gca (by decide))
  have m30 : (sI H28 h0 (X.1.2 11 12)).toInt = (sI H21 h0 (X.1.2 11 12)).toInt := congrArg Int32.toInt (up_nI U28 (ne_f E 11 12 0 rfl (by decide) (by decide) (by decide)))
  have m31 : (sI H28 h0 (X.1.2 11 14)).toInt = (sI H21 h0 (X.1.2 11 14)).toInt := congrArg Int32.toInt (up_nI U28 (ne_f E 11 14 0 rfl (by decide) (by decide) (by decide)))
  have m32 := congrArg tk m31
  have m33 : (sI H28 h0 (X.1.2 11 16)).toInt = (sI H21 h0 (X.1.2 11 16)).toInt := congrArg Int32.toInt (up_nI U28 (ne_f E 11 16 0 rfl (by decide) (by decide) (by decide)))
  have m34 : (sI H28 h0 (X.1.2 11 8)).toInt = (sI H21 h0 (X.1.2 11 8)).toInt := congrArg Int32.toInt (up_nI U28 (ne_f E 11 8 0 rfl (by decide) (by decide) (by decide)))
  refine lv_aload_n hx hb dX12_yard_10 rfl (lv_at hl 0 rfl) ?_
  refine lv_iload_n hx hb dX12_yard_11 rfl (lv_at hl 1 rfl) ?_
  refine lv_sipush (v := 900) hx hb dX12_yard_12 rfl ?_
  refine q_goI (q_runV (As := [.int p1, .int 900]) (rest := []) E hC28 hS28 (m_X12_opens l X Γ H28 hC28 h0 g0 p1 (a1 := a1) e1 900 (a2 := 900) (by decide) ca gca uc) cw_X12_opens cl_RX12_251 g0 ⟨rfl, rfl⟩ rfl hl.1 rfl (Nat.zero_le _) (by decide) dX12_yard_15) hS28 (fun v35 H35 locs35 hr35 hC35 hS35 => ?_)
  obtain ⟨hp35, hr35⟩ := hr35
  have hKp35 := hKp28.tr (hp35.mono rfl)
  replace kd : KD H0 H35 ca 0 0 := KD.kp kd hp35 gca rfl rfl
  replace kd2 : KD H0 H35 ca 0 520 := KD.kp kd2 hp35 gca rfl rfl
  rcases hr35 with ⟨rfl, f35a0, f35a1, f35a2, f35a3, f35a4⟩ | ⟨rfl, f35b0, f35b1⟩
  · refine q_if_ne hx hb (a := 1) (by decide) (tgt := 23) dX12_yard_18 rfl (fun c36 => ?_) (fun c36 => absurd c36 (by omega))
    refine lv_iconst (v := 0) hx hb dX12_yard_23 rfl ?_
    refine lv_istore_n hx hb dX12_yard_24 rfl hl (by decide) rfl (fun ls hl => ?_)
    replace hl : lv_has ls 4 [(2, .int 0), (0, .ref h0), (1, .int p1)] := hl
    have L25 : ∀ (n38 : Nat) (H38 : Heap) (locs38 : List Loc) (v37 : Int32) (z37 : Int) (ls : Array Slot), (520 - z37).toNat < n38 → v37.toInt = z37 → z37 ≤ 520 → 0 ≤ z37 → (sI H38 h0 (X.1.2 11 8)).toInt = 0 → Conf X Γ H38 → va_S (AΓ Γ) H0 H38 locs38 → Kp X Γ [1, 6, 8, 9, 11, 12, 14, 19, 22, 24, 26, 28] H0 H38 → (KD H0 H38 ca 0 0) → (KD H0 H38 ca 0 520) → lv_has ls 4 [(2, .int v37), (0, .ref h0), (1, .int p1)] → W p l e (rmL 5) s m args below meth c H38 locs38 0 0 Qz (F0 m 25 ls []) := by
      intro n38
      induction n38 with
      | zero => intro H38 locs38 v37 z37 ls hm38 ev37 iv38_0 iv38_1 iv38_2 hC38 hS38 hKp38 kd kd2 hl; exact absurd hm38 (Nat.not_lt_zero _)
      | succ n38 ih38 =>
        intro H38 locs38 v37 z37 ls hm38 ev37 iv38_0 iv38_1 iv38_2 hC38 hS38 hKp38 kd kd2 hl
        refine lv_iload_n hx hb dX12_yard_25 rfl (lv_at hl 0 rfl) ?_
        refine lv_sipush (v := 520) hx hb dX12_yard_26 rfl ?_
        refine q_icmp_ge hx hb (a := z37) (b := 520) ev37 (by decide) (tgt := 49) dX12_yard_29 rfl (fun c39 => ?_) (fun c39 => ?_)
        · refine lv_iconst (v := 0) hx hb dX12_yard_49 rfl ?_
          refine lv_istore_n hx hb dX12_yard_50 rfl hl (by decide) rfl (fun ls hl => ?_)
          replace hl : lv_has ls 4 [(2, .int 0), (0, .ref h0), (1, .int p1)] := hl
          have L51 : ∀ (n41 : Nat) (H41 : Heap) (locs41 : List Loc) (v40 : Int32) (z40 : Int) (ls : Array Slot), (108 - z40).toNat < n41 → v40.toInt = z40 → z40 ≤ 108 → 0 ≤ z40 → (sI H41 h0 (X.1.2 11 8)).toInt = 0 → Conf X Γ H41 → va_S (AΓ Γ) H0 H41 locs41 → Kp X Γ [1, 6, 8, 9, 11, 12, 14, 19, 22, 24, 26, 28] H0 H41 → (KD H0 H41 ca 0 0) → (KD H0 H41 ca 0 520) → lv_has ls 4 [(2, .int v40), (0, .ref h0), (1, .int p1)] → W p l e (rmL 5) s m args below meth c H41 locs41 0 0 Qz (F0 m 51 ls []) := by
            intro n41
            induction n41 with
            | zero => intro H41 locs41 v40 z40 ls hm41 ev40 iv41_0 iv41_1 iv41_2 hC41 hS41 hKp41 kd kd2 hl; exact absurd hm41 (Nat.not_lt_zero _)
            | succ n41 ih41 =>
              intro H41 locs41 v40 z40 ls hm41 ev40 iv41_0 iv41_1 iv41_2 hC41 hS41 hKp41 kd kd2 hl
              refine lv_iload_n hx hb dX12_yard_51 rfl (lv_at hl 0 rfl) ?_
              refine lv_bipush (v := 108) hx hb dX12_yard_52 rfl ?_
              refine q_icmp_ge hx hb (a := z40) (b := 108) ev40 (by decide) (tgt := 70) dX12_yard_54 rfl (fun c42 => ?_) (fun c42 => ?_)
              · refine lv_aload_n hx hb dX12_yard_70 rfl (lv_at hl 1 rfl) ?_
                refine lv_aload_n hx hb dX12_yard_71 rfl (lv_at hl 1 rfl) ?_
                refine q_goIp (q_runV (As := []) (rest := [.ref h0]) E hC41 hS41 (m_X12_isWide l X Γ H41 hC41 h0 g0 ca gca uc) cw_X12_isWide cl_RX12_166 g0 ⟨rfl, rfl⟩ rfl hl.1 rfl (show _ ≤ _ from by simp [Value.category]) (by decide) dX12_yard_72) hS41 (fun v43 locs43 hr43 hS43 => ?_)
                have b43 : v43.toInt = 0 ∨ v43.toInt = 1 := hr43.imp (fun h => by rw [h]; decide) (fun h => by rw [h]; decide)
                refine q_goV (q_runV (As := [.int v43]) (rest := []) E hC41 hS43 (m_X12_must l X Γ H41 hC41 h0 g0 v43 (a1 := v43.toInt) rfl ca gca uc (by omega) (by omega)) cw_X12_must cl_RX12_244 g0 ⟨rfl, rfl⟩ rfl hl.1 rfl (Nat.zero_le _) (by decide) dX12_yard_75) hS43 (fun H44 locs44 hr44 hC44 hS44 => ?_)
                obtain ⟨hp44, hr44⟩ := hr44
                have hKp44 := hKp41.tr (hp44.mono rfl)
                replace kd : KD H0 H44 ca 0 0 := KD.kp kd hp44 gca rfl rfl
                replace kd2 : KD H0 H44 ca 0 520 := KD.kp kd2 hp44 gca rfl rfl
                have m45 : (sI H44 h0 (X.1.2 11 8)).toInt = (sI H41 h0 (X.1.2 11 8)).toInt := congrArg Int32.toInt (kp_I hp44 g0 (k := 8) rfl (by decide) rfl)
                obtain ⟨f44_0, f44_1, f44_2, f44_3, f44_4⟩ := hr44
                refine lv_aload_n hx hb dX12_yard_78 rfl (lv_at hl 1 rfl) ?_
                refine q_getI E hC44 g0 fa_RX12_114 dX12_yard_79 (fun v46 ev46 lv46 uv46 => ?_)
                refine lv_istore_n hx hb dX12_yard_82 rfl hl (by decide) rfl (fun ls hl => ?_)
                replace hl : lv_has ls 4 [(2, .int v46), (0, .ref h0), (1, .int p1)] := hl
                refine lv_aload_n hx hb dX12_yard_83 rfl (lv_at hl 1 rfl) ?_
                refine q_getC E hC44 g0 fa_RX12_35 uc dX12_yard_84 ?_
                refine lv_sipush (v := 2080) hx hb dX12_yard_87 rfl ?_
                refine lv_aload_n hx hb dX12_yard_90 rfl (lv_at hl 1 rfl) ?_
                refine lv_iconst (v := 2) hx hb dX12_yard_91 rfl ?_
                refine lv_bipush (v := 6) hx hb dX12_yard_92 rfl ?_
                refine q_goI (q_runV (As := [.int 2, .int 6]) (rest := [.int 2080, .ref ca]) E hC44 hS44 (m_X12_count l X Γ H44 hC44 h0 g0 2 (a1 := 2) (by decide) 6 (a2 := 6) (by decide) ca gca uc (by omega) (by omega) (by omega) (by omega)) cw_X12_count cl_RX12_248 g0 ⟨rfl, rfl⟩ rfl hl.1 rfl (show _ ≤ _ from by simp [Value.category]) (by decide) dX12_yard_94) hS44 (fun v47 H47 locs47 hr47 hC47 hS47 => ?_)
                obtain ⟨hp47, hr47⟩ := hr47
                have hKp47 := hKp44.tr (hp47.mono rfl)
                replace kd : KD H0 H47 ca 0 0 := KD.kp kd hp47 gca rfl rfl
                replace kd2 : KD H0 H47 ca 0 520 := KD.kp kd2 hp47 gca rfl rfl
                have m48 : (sI H47 h0 (X.1.2 11 8)).toInt = (sI H44 h0 (X.1.2 11 8)).toInt := congrArg Int32.toInt (kp_I hp47 g0 (k := 8) rfl (by decide) rfl)
                obtain ⟨f47_0, f47_1, f47_2, f47_3, f47_4, f47_5, f47_6, f47_7⟩ := hr47
                refine q_cast E hC47 hS47 gca (a := 2080) (show (2080 : Int32).toInt = 2080 from by decide) (by omega) (by omega) (cs_n0 (a := 2080) (b := v47.toInt) (by omega) (by omega) rfl (by omega) (by omega)) dX12_yard_97 (fun H49 locs49 hC49 hS49 U49 => ?_)
                have hKp49 := Kp.upD gca rfl rfl (fun _ => ⟨fun h => absurd h (by decide), fun h => absurd h (by decide), fun h => absurd h (by decide)⟩) U49 hKp47
                replace kd : KD H0 H49 ca 0 0 := KD.up kd U49 (by omega) (by omega)
                replace kd2 : KD H0 H49 ca 0 520 := KD.up kd2 U49 (by omega) (by omega)
                have m50 : (sI H49 h0 (X.1.2 11 12)).toInt = (sI H47 h0 (X.1.2 11 12)).toInt := congrArg Int32.toInt (up_nI U49 (ne_k g0 gca (by decide)))
                have m51 : (sI H49 h0 (X.1.2 11 14)).toInt = (sI H47 h0 (X.1.2 11 14)).toInt := congrArg Int32.toInt (up_nI U49 (ne_k g0 gca (by decide)))
                have m52 := congrArg tk m51
                have m53 : (sI H49 h0 (X.1.2 11 16)).toInt = (sI H47 h0 (X.1.2 11 16)).toInt := congrArg Int32.toInt (up_nI U49 (ne_k g0 gca (by decide)))
                have m54 : (sI H49 h0 (X.1.2 11 8)).toInt = (sI H47 h0 (X.1.2 11 8)).toInt := congrArg Int32.toInt (up_nI U49 (ne_k g0 gca (by decide)))
                obtain ⟨xx, hxx⟩ : ∃ z, v47.toInt = z := ⟨_, rfl⟩
                have n0 : EQ H49 ca 2080 xx := (congrArg Int32.toInt (up_I U49)).trans (rfl.trans hxx)
                have e55 := up_I U49
                refine lv_aload_n hx hb dX12_yard_98 rfl (lv_at hl 1 rfl) ?_
                refine q_getI E hC49 g0 fa_RX12_218 dX12_yard_99 (fun v56 ev56 lv56 uv56 => ?_)
                have m57 : (sI H49 h0 (X.1.2 11 12)).toInt = v56.toInt := (congrArg Int32.toInt ev56).trans rfl
                refine q_if_ne hx hb (a := v56.toInt) rfl (tgt := 125) dX12_yard_102 rfl (fun c58 => ?_) (fun c58 => ?_)
                · refine lv_aload_n hx hb dX12_yard_125 rfl (lv_at hl 1 rfl) ?_
                  refine lv_aload_n hx hb dX12_yard_126 rfl (lv_at hl 1 rfl) ?_
                  refine q_goIp (q_runV (As := []) (rest := [.ref h0]) E hC49 hS49 (m_X12_isHigh l X Γ H49 hC49 h0 g0 ca gca uc) cw_X12_isHigh cl_RX12_169 g0 ⟨rfl, rfl⟩ rfl hl.1 rfl (show _ ≤ _ from by simp [Value.category]) (by decide) dX12_yard_127) hS49 (fun v59 locs59 hr59 hS59 => ?_)
                  have b59 : v59.toInt = 0 ∨ v59.toInt = 1 := hr59.imp (fun h => by rw [h]; decide) (fun h => by rw [h]; decide)
                  refine q_goV (q_runV (As := [.int v59]) (rest := []) E hC49 hS59 (m_X12_must l X Γ H49 hC49 h0 g0 v59 (a1 := v59.toInt) rfl ca gca uc (by omega) (by omega)) cw_X12_must cl_RX12_244 g0 ⟨rfl, rfl⟩ rfl hl.1 rfl (Nat.zero_le _) (by decide) dX12_yard_130) hS59 (fun H60 locs60 hr60 hC60 hS60 => ?_)
                  obtain ⟨hp60, hr60⟩ := hr60
                  have hKp60 := hKp49.tr (hp60.mono rfl)
                  replace kd : KD H0 H60 ca 0 0 := KD.kp kd hp60 gca rfl rfl
                  replace kd2 : KD H0 H60 ca 0 520 := KD.kp kd2 hp60 gca rfl rfl
                  replace n0 : EQ H60 ca 2080 xx := EQ.kn n0 hp60 gca rfl (by unfold dpn; omega)
                  have m61 : (sI H60 h0 (X.1.2 11 8)).toInt = (sI H49 h0 (X.1.2 11 8)).toInt := congrArg Int32.toInt (kp_I hp60 g0 (k := 8) rfl (by decide) rfl)
                  obtain ⟨f60_0, f60_1, f60_2, f60_3, f60_4⟩ := hr60
                  refine lv_aload_n hx hb dX12_yard_133 rfl (lv_at hl 1 rfl) ?_
                  refine q_getC E hC60 g0 fa_RX12_35 uc dX12_yard_134 ?_
                  refine lv_sipush (v := 2081) hx hb dX12_yard_137 rfl ?_
                  refine lv_aload_n hx hb dX12_yard_140 rfl (lv_at hl 1 rfl) ?_
                  refine lv_iconst (v := 1) hx hb dX12_yard_141 rfl ?_
                  refine lv_bipush (v := 6) hx hb dX12_yard_142 rfl ?_
                  refine q_goI (q_runV (As := [.int 1, .int 6]) (rest := [.int 2081, .ref ca]) E hC60 hS60 (m_X12_count l X Γ H60 hC60 h0 g0 1 (a1 := 1) (by decide) 6 (a2 := 6) (by decide) ca gca uc (by omega) (by omega) (by omega) (by omega)) cw_X12_count cl_RX12_248 g0 ⟨rfl, rfl⟩ rfl hl.1 rfl (show _ ≤ _ from by simp [Value.category]) (by decide) dX12_yard_144) hS60 (fun v62 H62 locs62 hr62 hC62 hS62 => ?_)
                  obtain ⟨hp62, hr62⟩ := hr62
                  have hKp62 := hKp60.tr (hp62.mono rfl)
                  replace kd : KD H0 H62 ca 0 0 := KD.kp kd hp62 gca rfl rfl
                  replace kd2 : KD H0 H62 ca 0 520 := KD.kp kd2 hp62 gca rfl rfl
                  replace n0 : EQ H62 ca 2080 xx := EQ.kn n0 hp62 gca rfl (by unfold dpn; omega)
                  have m63 : (sI H62 h0 (X.1.2 11 8)).toInt = (sI H60 h0 (X.1.2 11 8)).toInt := congrArg Int32.toInt (kp_I hp62 g0 (k := 8) rfl (by decide) rfl)
                  obtain ⟨f62_0, f62_1, f62_2, f62_3, f62_4, f62_5, f62_6, f62_7⟩ := hr62
                  refine q_cast E hC62 hS62 gca (a := 2081) (show (2081 : Int32).toInt = 2081 from by decide) (by omega) (by omega) (cs_n0 (a := 2081) (b := v62.toInt) (by omega) (by omega) rfl (by omega) (by omega)) dX12_yard_147 (fun H64 locs64 hC64 hS64 U64 => ?_)
                  have hKp64 := Kp.upD gca rfl rfl (fun _ => ⟨fun h => absurd h (by decide), fun h => absurd h (by decide), fun h => absurd h (by decide)⟩) U64 hKp62
                  replace kd : KD H0 H64 ca 0 0 := KD.up kd U64 (by omega) (by omega)
                  replace kd2 : KD H0 H64 ca 0 520 := KD.up kd2 U64 (by omega) (by omega)
                  replace n0 : EQ H64 ca 2080 xx := EQ.up n0 U64 ⟨by omega, by omega⟩ (by omega)
                  have m65 : (sI H64 h0 (X.1.2 11 12)).toInt = (sI H62 h0 (X.1.2 11 12)).toInt := congrArg Int32.toInt (up_nI U64 (ne_k g0 gca (by decide)))
                  have m66 : (sI H64 h0 (X.1.2 11 14)).toInt = (sI H62 h0 (X.1.2 11 14)).toInt := congrArg Int32.toInt (up_nI U64 (ne_k g0 gca (by decide)))
                  have m67 := congrArg tk m66
                  have m68 : (sI H64 h0 (X.1.2 11 16)).toInt = (sI H62 h0 (X.1.2 11 16)).toInt := congrArg Int32.toInt (up_nI U64 (ne_k g0 gca (by decide)))
                  have m69 : (sI H64 h0 (X.1.2 11 8)).toInt = (sI H62 h0 (X.1.2 11 8)).toInt := congrArg Int32.toInt (up_nI U64 (ne_k g0 gca (by decide)))
                  obtain ⟨yy, hyy⟩ : ∃ z, v62.toInt = z := ⟨_, rfl⟩
                  have n1 : EQ H64 ca 2081 yy := (congrArg Int32.toInt (up_I U64)).trans (rfl.trans hyy)
                  have e70 := up_I U64
                  refine lv_aload_n hx hb dX12_yard_148 rfl (lv_at hl 1 rfl) ?_
                  refine lv_aload_n hx hb dX12_yard_149 rfl (lv_at hl 1 rfl) ?_
                  refine lv_bipush (v := 59) hx hb dX12_yard_150 rfl ?_
                  refine q_goIp (q_runV (As := [.int 59]) (rest := [.ref h0]) E hC64 hS64 (m_X12_isSign l X Γ H64 hC64 h0 g0 59 (a1 := 59) (by decide) ca gca uc) cw_X12_isSign cl_RX12_255 g0 ⟨rfl, rfl⟩ rfl hl.1 rfl (show _ ≤ _ from by simp [Value.category]) (by decide) dX12_yard_152) hS64 (fun v71 locs71 hr71 hS71 => ?_)
                  have b71 : (v71.toInt = 1 ∧ _) ∨ (v71.toInt = 0 ∧ _) := hr71.imp (fun h => ⟨by rw [h.1]; decide, h.2⟩) (fun h => ⟨by rw [h.1]; decide, h.2⟩)
                  have hb0 := f_bd hC64 g0 (ci := 11) (k := 16) rfl rfl
                  refine q_goV (q_runV (As := [.int v71]) (rest := []) E hC64 hS71 (m_X12_must l X Γ H64 hC64 h0 g0 v71 (a1 := v71.toInt) rfl ca gca uc (by omega) (by omega)) cw_X12_must cl_RX12_244 g0 ⟨rfl, rfl⟩ rfl hl.1 rfl (Nat.zero_le _) (by decide) dX12_yard_155) hS71 (fun H72 locs72 hr72 hC72 hS72 => ?_)
                  obtain ⟨hp72, hr72⟩ := hr72
                  have hKp72 := hKp64.tr (hp72.mono rfl)
                  replace kd : KD H0 H72 ca 0 0 := KD.kp kd hp72 gca rfl rfl
                  replace kd2 : KD H0 H72 ca 0 520 := KD.kp kd2 hp72 gca rfl rfl
                  replace n0 : EQ H72 ca 2080 xx := EQ.kn n0 hp72 gca rfl (by unfold dpn; omega)
                  replace n1 : EQ H72 ca 2081 yy := EQ.kn n1 hp72 gca rfl (by unfold dpn; omega)
                  have m73 : (sI H72 h0 (X.1.2 11 8)).toInt = (sI H64 h0 (X.1.2 11 8)).toInt := congrArg Int32.toInt (kp_I hp72 g0 (k := 8) rfl (by decide) rfl)
                  obtain ⟨f72_0, f72_1, f72_2, f72_3, f72_4⟩ := hr72
                  have L158 : ∀ (n74 : Nat) (H74 : Heap) (locs74 : List Loc) (ls : Array Slot), 0 < n74 ∧ ((sI H74 h0 (X.1.2 11 12)).toInt ≠ 0 ∨ 902 - (sI H74 h0 (X.1.2 11 16)).toInt < n74) → ((sI H74 h0 (X.1.2 11 12)).toInt = 0 → 2 ≤ xx ∧ 1 ≤ yy) → (sI H74 h0 (X.1.2 11 8)).toInt = 0 → Conf X Γ H74 → va_S (AΓ Γ) H0 H74 locs74 → Kp X Γ [1, 6, 8, 9, 11, 12, 14, 19, 22, 24, 26, 28] H0 H74 → (KD H0 H74 ca 0 0) → (KD H0 H74 ca 0 520) → (EQ H74 ca 2080 xx) → (EQ H74 ca 2081 yy) → lv_has ls 4 [(2, .int v46), (0, .ref h0), (1, .int p1)] → W p l e (rmL 5) s m args below meth c H74 locs74 0 0 Qz (F0 m 158 ls []) := by
                    intro n74
                    induction n74 with
                    | zero => intro H74 locs74 ls hm74 iv74_0 iv74_1 hC74 hS74 hKp74 kd kd2 n0 n1 hl; exact absurd hm74 (by omega)
                    | succ n74 ih74 =>
                      intro H74 locs74 ls hm74 iv74_0 iv74_1 hC74 hS74 hKp74 kd kd2 n0 n1 hl
                      have hb1 := f_bd hC74 g0 (ci := 11) (k := 16) rfl rfl
                      have hb2 := f_bd hC74 g0 (ci := 11) (k := 12) rfl rfl
                      refine lv_aload_n hx hb dX12_yard_158 rfl (lv_at hl 1 rfl) ?_
                      refine q_getI E hC74 g0 fa_RX12_218 dX12_yard_159 (fun v75 ev75 lv75 uv75 => ?_)
                      have m76 : (sI H74 h0 (X.1.2 11 12)).toInt = v75.toInt := (congrArg Int32.toInt ev75).trans rfl
                      refine q_if_ne hx hb (a := v75.toInt) rfl (tgt := 262) dX12_yard_162 rfl (fun c77 => ?_) (fun c77 => ?_)
                      · refine lv_aload_n hx hb dX12_yard_262 rfl (lv_at hl 1 rfl) ?_
                        refine q_goI (q_runV (As := []) (rest := []) E hC74 hS74 (m_X12_isWell l X Γ H74 hC74 h0 g0 ca gca uc) cw_X12_isWell cl_RX12_267 g0 ⟨rfl, rfl⟩ rfl hl.1 rfl (Nat.zero_le _) (by decide) dX12_yard_263) hS74 (fun v78 H78 locs78 hr78 hC78 hS78 => ?_)
                        obtain ⟨hp78, hr78⟩ := hr78
                        have hKp78 := hKp74.tr (hp78.mono rfl)
                        replace kd : KD H0 H78 ca 0 0 := KD.kp kd hp78 gca rfl rfl
                        replace kd2 : KD H0 H78 ca 0 520 := KD.kp kd2 hp78 gca rfl rfl
                        replace n0 : EQ H78 ca 2080 xx := EQ.kn n0 hp78 gca rfl (by unfold dpn; omega)
                        replace n1 : EQ H78 ca 2081 yy := EQ.kn n1 hp78 gca rfl (by unfold dpn; omega)
                        have m79 : (sI H78 h0 (X.1.2 11 8)).toInt = (sI H74 h0 (X.1.2 11 8)).toInt := congrArg Int32.toInt (kp_I hp78 g0 (k := 8) rfl (by decide) rfl)
                        rcases hr78 with ⟨rfl, f78a⟩ | ⟨rfl, -⟩
                        · refine q_if_ne hx hb (a := 1) (by decide) (tgt := 271) dX12_yard_266 rfl (fun c80 => ?_) (fun c80 => absurd c80 (by omega))
                          have hxy : 2 ≤ xx ∧ 1 ≤ yy := by omega
                          refine lv_iconst (v := 0) hx hb dX12_yard_271 rfl ?_
                          refine lv_istore_n hx hb dX12_yard_272 rfl hl (by decide) rfl (fun ls hl => ?_)
                          replace hl : lv_has ls 4 [(3, .int 0), (2, .int v46), (0, .ref h0), (1, .int p1)] := hl
                          have L273 : ∀ (n82 : Nat) (H82 : Heap) (locs82 : List Loc) (v81 : Int32) (z81 : Int) (ls : Array Slot), (36 - z81).toNat < n82 → v81.toInt = z81 → z81 ≤ 36 → 0 ≤ z81 → (sI H82 h0 (X.1.2 11 8)).toInt = 0 → Conf X Γ H82 → va_S (AΓ Γ) H0 H82 locs82 → Kp X Γ [1, 6, 8, 9, 11, 12, 14, 19, 22, 24, 26, 28] H0 H82 → (KD H0 H82 ca 0 0) → (KD H0 H82 ca 0 520) → (EQ H82 ca 2080 xx) → (EQ H82 ca 2081 yy) → lv_has ls 4 [(3, .int v81), (2, .int v46), (0, .ref h0), (1, .int p1)] → W p l e (rmL 5) s m args below meth c H82 locs82 0 0 Qz (F0 m 273 ls []) := by
                            intro n82
                            induction n82 with
                            | zero => intro H82 locs82 v81 z81 ls hm82 ev81 iv82_0 iv82_1 iv82_2 hC82 hS82 hKp82 kd kd2 n0 n1 hl; exact absurd hm82 (Nat.not_lt_zero _)
                            | succ n82 ih82 =>
                              intro H82 locs82 v81 z81 ls hm82 ev81 iv82_0 iv82_1 iv82_2 hC82 hS82 hKp82 kd kd2 n0 n1 hl
                              refine lv_iload_n hx hb dX12_yard_273 rfl (lv_at hl 0 rfl) ?_
                              refine lv_bipush (v := 36) hx hb dX12_yard_274 rfl ?_
                              refine q_icmp_ge hx hb (a := z81) (b := 36) ev81 (by decide) (tgt := 305) dX12_yard_276 rfl (fun c83 => ?_) (fun c83 => ?_)
                              · refine lv_iconst (v := 0) hx hb dX12_yard_305 rfl ?_
                                refine lv_istore_n hx hb dX12_yard_306 rfl hl (by decide) rfl (fun ls hl => ?_)
                                replace hl : lv_has ls 4 [(3, .int 0), (2, .int v46), (0, .ref h0), (1, .int p1)] := hl
                                have L307 : ∀ (n85 : Nat) (H85 : Heap) (locs85 : List Loc) (v84 : Int32) (z84 : Int) (ls : Array Slot), (520 - z84).toNat < n85 → v84.toInt = z84 → z84 ≤ 520 → 0 ≤ z84 → CPd H85 ca 2080 0 z84 → (sI H85 h0 (X.1.2 11 8)).toInt = 0 → Conf X Γ H85 → va_S (AΓ Γ) H0 H85 locs85 → Kp X Γ [1, 6, 8, 9, 11, 12, 14, 19, 22, 24, 26, 28] H0 H85 → (KD H0 H85 ca 0 520) → (EQ H85 ca 2080 xx) → (EQ H85 ca 2081 yy) → lv_has ls 4 [(3, .int v84), (2, .int v46), (0, .ref h0), (1, .int p1)] → W p l e (rmL 5) s m args below meth c H85 locs85 0 0 Qz (F0 m 307 ls []) := by
                                  intro n85
                                  induction n85 with
                                  | zero => intro H85 locs85 v84 z84 ls hm85 ev84 iv85_0 iv85_1 iv85_2 iv85_3 hC85 hS85 hKp85 kd2 n0 n1 hl; exact absurd hm85 (Nat.not_lt_zero _)
                                  | succ n85 ih85 =>
                                    intro H85 locs85 v84 z84 ls hm85 ev84 iv85_0 iv85_1 iv85_2 iv85_3 hC85 hS85 hKp85 kd2 n0 n1 hl
                                    have cpd := iv85_2
                                    refine lv_iload_n hx hb dX12_yard_307 rfl (lv_at hl 0 rfl) ?_
                                    refine lv_sipush (v := 520) hx hb dX12_yard_308 rfl ?_
                                    refine q_icmp_ge hx hb (a := z84) (b := 520) ev84 (by decide) (tgt := 336) dX12_yard_311 rfl (fun c86 => ?_) (fun c86 => ?_)
                                    · refine lv_aload_n hx hb dX12_yard_336 rfl (lv_at hl 2 rfl) ?_
                                      refine q_getC E hC85 g0 fa_RX12_35 uc dX12_yard_337 ?_
                                      refine lv_iconst (v := 0) hx hb dX12_yard_340 rfl ?_
                                      refine q_cald E hC85 (lo := 0) (hi := 6) gca (a := 0) (show (0 : Int32).toInt = 0 from by decide) (by omega) (by omega) (cr_c0 (by omega) (by omega)) dX12_yard_341 (fun v87 ev87 lv87 uv87 => ?_)
                                      have m88 : (sI H85 ca (0 : Int).toNat).toInt = v87.toInt := congrArg Int32.toInt ev87
                                      refine lv_aload_n hx hb dX12_yard_342 rfl (lv_at hl 2 rfl) ?_
                                      refine q_getC E hC85 g0 fa_RX12_35 uc dX12_yard_343 ?_
                                      refine lv_iconst (v := 1) hx hb dX12_yard_346 rfl ?_
                                      refine q_cald E hC85 (lo := 0) (hi := 6) gca (a := 1) (show (1 : Int32).toInt = 1 from by decide) (by omega) (by omega) (cr_c0 (by omega) (by omega)) dX12_yard_347 (fun v89 ev89 lv89 uv89 => ?_)
                                      have m90 : (sI H85 ca (1 : Int).toNat).toInt = v89.toInt := congrArg Int32.toInt ev89
                                      refine lv_imul hx hb dX12_yard_348 (lv_topi (fun v91 ev91 => ?_))
                                      have hpost : KD H0 H85 ca 0 0 ∨ (KD H0 H85 ca 0 520 ∧ YI H85 ca) := Or.inr ⟨kd2, YI.mk hC85 gca cpd (by omega) n0 n1 hxy⟩
                                      have c92 : v91.toInt = v91.toInt := rfl
                                      exact ret v91 H85 locs85 _ _ dX12_yard_349 ⟨hKp85, ⟨hpost, by omega⟩⟩ hC85 hS85
                                    · refine lv_aload_n hx hb dX12_yard_314 rfl (lv_at hl 2 rfl) ?_
                                      refine q_getC E hC85 g0 fa_RX12_35 uc dX12_yard_315 ?_
                                      refine lv_iload_n hx hb dX12_yard_318 rfl (lv_at hl 0 rfl) ?_
                                      refine lv_aload_n hx hb dX12_yard_319 rfl (lv_at hl 2 rfl) ?_
                                      refine q_getC E hC85 g0 fa_RX12_35 uc dX12_yard_320 ?_
                                      refine lv_sipush (v := 2080) hx hb dX12_yard_323 rfl ?_
                                      refine lv_iload_n hx hb dX12_yard_326 rfl (lv_at hl 0 rfl) ?_
                                      refine lv_iadd hx hb dX12_yard_327 (lv_topi (fun v93 ev93 => ?_))
                                      have ev93i : v93.toInt = (2080 + z84) := i_add ev93 (by decide) ev84 (by omega) (by omega)
                                      refine q_craw E hC85 gca (a := (2080 + z84)) ev93i (by omega) (by omega) dX12_yard_328 (fun v94 ev94 tv94 => ?_)
                                      refine q_cast E hC85 hS85 gca (a := z84) ev84 (by omega) (by omega) (cT_nb (k := z84) rfl rfl (by omega) (by omega) tv94) dX12_yard_329 (fun H95 locs95 hC95 hS95 U95 => ?_)
                                      have hKp95 := Kp.upD gca rfl rfl (fun _ => ⟨fun h => absurd h (by decide), fun h => absurd h (by decide), fun h => absurd h (by decide)⟩) U95 hKp85
                                      replace kd2 : KD H0 H95 ca 0 520 := KD.up kd2 U95 (by omega) (by omega)
                                      replace n0 : EQ H95 ca 2080 xx := EQ.up n0 U95 ⟨by omega, by omega⟩ (by omega)
                                      replace n1 : EQ H95 ca 2081 yy := EQ.up n1 U95 ⟨by omega, by omega⟩ (by omega)
                                      have m96 : (sI H95 h0 (X.1.2 11 12)).toInt = (sI H85 h0 (X.1.2 11 12)).toInt := congrArg Int32.toInt (up_nI U95 (ne_k g0 gca (by decide)))
                                      have m97 : (sI H95 h0 (X.1.2 11 14)).toInt = (sI H85 h0 (X.1.2 11 14)).toInt := congrArg Int32.toInt (up_nI U95 (ne_k g0 gca (by decide)))
                                      have m98 := congrArg tk m97
                                      have m99 : (sI H95 h0 (X.1.2 11 16)).toInt = (sI H85 h0 (X.1.2 11 16)).toInt := congrArg Int32.toInt (up_nI U95 (ne_k g0 gca (by decide)))
                                      have m100 : (sI H95 h0 (X.1.2 11 8)).toInt = (sI H85 h0 (X.1.2 11 8)).toInt := congrArg Int32.toInt (up_nI U95 (ne_k g0 gca (by decide)))
                                      have cpd : CPd H95 ca 2080 0 (z84 + 1) := CPd.step cpd (a := z84) (by omega) U95 ev94 (by omega) (by omega) (by omega)
                                      have e101 := up_I U95
                                      obtain ⟨v102, ev102⟩ : ∃ z, z = v84 + Int32.ofInt 1 := ⟨_, rfl⟩
                                      have ev102i : v102.toInt = (z84 + 1) := i_add ev102 ev84 (by decide) (by omega) (by omega)
                                      refine lv_iinc hx hb dX12_yard_330 hl (k := 0) rfl ev102.symm (by decide) rfl (fun ls hl => ?_)
                                      replace hl : lv_has ls 4 [(3, .int v102), (2, .int v46), (0, .ref h0), (1, .int p1)] := hl
                                      refine lv_goto (tgt := 307) hx hb dX12_yard_333 rfl ?_
                                      exact ih85 H95 locs95 v102 ((z84 + 1)) ls (by omega) ev102i (by omega) (by omega) (cpd) (by omega) hC95 hS95 hKp95 kd2 n0 n1 hl
                                exact L307 _ H82 locs82 0 0 ls (Nat.lt_succ_self _) (by decide) (by omega) (by omega) (CPd.nil (by omega)) (by omega) hC82 hS82 hKp82 kd2 n0 n1 hl
                              · refine lv_aload_n hx hb dX12_yard_279 rfl (lv_at hl 2 rfl) ?_
                                refine q_getC E hC82 g0 fa_RX12_35 uc dX12_yard_280 ?_
                                refine lv_sipush (v := 2214) hx hb dX12_yard_283 rfl ?_
                                refine lv_iload_n hx hb dX12_yard_286 rfl (lv_at hl 0 rfl) ?_
                                refine lv_iadd hx hb dX12_yard_287 (lv_topi (fun v103 ev103 => ?_))
                                have ev103i : v103.toInt = (2214 + z81) := i_add ev103 (by decide) ev81 (by omega) (by omega)
                                refine lv_aload_n hx hb dX12_yard_288 rfl (lv_at hl 2 rfl) ?_
                                refine q_getC E hC82 g0 fa_RX12_35 uc dX12_yard_289 ?_
                                refine lv_sipush (v := 2142) hx hb dX12_yard_292 rfl ?_
                                refine lv_iload_n hx hb dX12_yard_295 rfl (lv_at hl 0 rfl) ?_
                                refine lv_iadd hx hb dX12_yard_296 (lv_topi (fun v104 ev104 => ?_))
                                have ev104i : v104.toInt = (2142 + z81) := i_add ev104 (by decide) ev81 (by omega) (by omega)
                                refine q_cald E hC82 (lo := 0) (hi := 99) gca (a := (2142 + z81)) ev104i (by omega) (by omega) (cr_n26 (by omega) (by omega)) dX12_yard_297 (fun v105 ev105 lv105 uv105 => ?_)
                                have m106 : (sI H82 ca ((2142 + z81) : Int).toNat).toInt = v105.toInt := congrArg Int32.toInt ev105
                                refine q_cast E hC82 hS82 gca (a := (2214 + z81)) ev103i (by omega) (by omega) (cs_n134 (a := (2214 + z81)) (by omega) (by omega)) dX12_yard_298 (fun H107 locs107 hC107 hS107 U107 => ?_)
                                have hKp107 := Kp.upD gca rfl rfl (fun _ => ⟨fun h => absurd h (by decide), fun h => absurd h (by decide), fun h => absurd h (by decide)⟩) U107 hKp82
                                replace kd : KD H0 H107 ca 0 0 := KD.up kd U107 (by omega) (by omega)
                                replace kd2 : KD H0 H107 ca 0 520 := KD.up kd2 U107 (by omega) (by omega)
                                replace n0 : EQ H107 ca 2080 xx := EQ.up n0 U107 ⟨by omega, by omega⟩ (by omega)
                                replace n1 : EQ H107 ca 2081 yy := EQ.up n1 U107 ⟨by omega, by omega⟩ (by omega)
                                have m108 : (sI H107 h0 (X.1.2 11 12)).toInt = (sI H82 h0 (X.1.2 11 12)).toInt := congrArg Int32.toInt (up_nI U107 (ne_k g0 gca (by decide)))
                                have m109 : (sI H107 h0 (X.1.2 11 14)).toInt = (sI H82 h0 (X.1.2 11 14)).toInt := congrArg Int32.toInt (up_nI U107 (ne_k g0 gca (by decide)))
                                have m110 := congrArg tk m109
                                have m111 : (sI H107 h0 (X.1.2 11 16)).toInt = (sI H82 h0 (X.1.2 11 16)).toInt := congrArg Int32.toInt (up_nI U107 (ne_k g0 gca (by decide)))
                                have m112 : (sI H107 h0 (X.1.2 11 8)).toInt = (sI H82 h0 (X.1.2 11 8)).toInt := congrArg Int32.toInt (up_nI U107 (ne_k g0 gca (by decide)))
                                have e113 := up_I U107
                                obtain ⟨v114, ev114⟩ : ∃ z, z = v81 + Int32.ofInt 1 := ⟨_, rfl⟩
                                have ev114i : v114.toInt = (z81 + 1) := i_add ev114 ev81 (by decide) (by omega) (by omega)
                                refine lv_iinc hx hb dX12_yard_299 hl (k := 0) rfl ev114.symm (by decide) rfl (fun ls hl => ?_)
                                replace hl : lv_has ls 4 [(3, .int v114), (2, .int v46), (0, .ref h0), (1, .int p1)] := hl
                                refine lv_goto (tgt := 273) hx hb dX12_yard_302 rfl ?_
                                exact ih82 H107 locs107 v114 ((z81 + 1)) ls (by omega) ev114i (by omega) (by omega) (by omega) hC107 hS107 hKp107 kd kd2 n0 n1 hl
                          exact L273 _ H78 locs78 0 0 ls (Nat.lt_succ_self _) (by decide) (by omega) (by omega) (by omega) hC78 hS78 hKp78 kd kd2 n0 n1 hl
                        · refine q_if_ne hx hb (a := 0) (by decide) (tgt := 271) dX12_yard_266 rfl (fun c115 => absurd c115 (by omega)) (fun c115 => ?_)
                          refine lv_iconst (v := (-1)) hx hb dX12_yard_269 rfl ?_
                          have hpost : KD H0 H78 ca 0 0 ∨ (KD H0 H78 ca 0 520 ∧ YI H78 ca) := Or.inl kd
                          have c116 : ((-1) : Int32).toInt = (-1) := (by decide)
                          exact ret (-1) H78 locs78 _ _ dX12_yard_270 ⟨hKp78, ⟨hpost, by omega⟩⟩ hC78 hS78
                      · refine lv_aload_n hx hb dX12_yard_165 rfl (lv_at hl 1 rfl) ?_
                        refine q_getI E hC74 g0 fa_RX12_120 dX12_yard_166 (fun v117 ev117 _ _ => ?_)
                        have m118 : (sI H74 h0 (X.1.2 11 14)).toInt = v117.toInt := (congrArg Int32.toInt ev117).trans rfl
                        refine q_if_eq hx hb (a := v117.toInt) rfl (tgt := 262) dX12_yard_169 rfl (fun c119 => ?_) (fun c119 => ?_)
                        · refine lv_aload_n hx hb dX12_yard_262 rfl (lv_at hl 1 rfl) ?_
                          refine q_goI (q_runV (As := []) (rest := []) E hC74 hS74 (m_X12_isWell l X Γ H74 hC74 h0 g0 ca gca uc) cw_X12_isWell cl_RX12_267 g0 ⟨rfl, rfl⟩ rfl hl.1 rfl (Nat.zero_le _) (by decide) dX12_yard_263) hS74 (fun v120 H120 locs120 hr120 hC120 hS120 => ?_)
                          obtain ⟨hp120, hr120⟩ := hr120
                          have hKp120 := hKp74.tr (hp120.mono rfl)
                          replace kd : KD H0 H120 ca 0 0 := KD.kp kd hp120 gca rfl rfl
                          replace kd2 : KD H0 H120 ca 0 520 := KD.kp kd2 hp120 gca rfl rfl
                          replace n0 : EQ H120 ca 2080 xx := EQ.kn n0 hp120 gca rfl (by unfold dpn; omega)
                          replace n1 : EQ H120 ca 2081 yy := EQ.kn n1 hp120 gca rfl (by unfold dpn; omega)
                          have m121 : (sI H120 h0 (X.1.2 11 8)).toInt = (sI H74 h0 (X.1.2 11 8)).toInt := congrArg Int32.toInt (kp_I hp120 g0 (k := 8) rfl (by decide) rfl)
                          rcases hr120 with ⟨rfl, f120a⟩ | ⟨rfl, -⟩
                          · refine q_if_ne hx hb (a := 1) (by decide) (tgt := 271) dX12_yard_266 rfl (fun c122 => ?_) (fun c122 => absurd c122 (by omega))
                            have hxy : 2 ≤ xx ∧ 1 ≤ yy := by omega
                            refine lv_iconst (v := 0) hx hb dX12_yard_271 rfl ?_
                            refine lv_istore_n hx hb dX12_yard_272 rfl hl (by decide) rfl (fun ls hl => ?_)
                            replace hl : lv_has ls 4 [(3, .int 0), (2, .int v46), (0, .ref h0), (1, .int p1)] := hl
                            have L273 : ∀ (n124 : Nat) (H124 : Heap) (locs124 : List Loc) (v123 : Int32) (z123 : Int) (ls : Array Slot), (36 - z123).toNat < n124 → v123.toInt = z123 → z123 ≤ 36 → 0 ≤ z123 → (sI H124 h0 (X.1.2 11 8)).toInt = 0 → Conf X Γ H124 → va_S (AΓ Γ) H0 H124 locs124 → Kp X Γ [1, 6, 8, 9, 11, 12, 14, 19, 22, 24, 26, 28] H0 H124 → (KD H0 H124 ca 0 0) → (KD H0 H124 ca 0 520) → (EQ H124 ca 2080 xx) → (EQ H124 ca 2081 yy) → lv_has ls 4 [(3, .int v123), (2, .int v46), (0, .ref h0), (1, .int p1)] → W p l e (rmL 5) s m args below meth c H124 locs124 0 0 Qz (F0 m 273 ls []) := by
                              intro n124
                              induction n124 with
                              | zero => intro H124 locs124 v123 z123 ls hm124 ev123 iv124_0 iv124_1 iv124_2 hC124 hS124 hKp124 kd kd2 n0 n1 hl; exact absurd hm124 (Nat.not_lt_zero _)
                              | succ n124 ih124 =>
                                intro H124 locs124 v123 z123 ls hm124 ev123 iv124_0 iv124_1 iv124_2 hC124 hS124 hKp124 kd kd2 n0 n1 hl
                                refine lv_iload_n hx hb dX12_yard_273 rfl (lv_at hl 0 rfl) ?_
                                refine lv_bipush (v := 36) hx hb dX12_yard_274 rfl ?_
                                refine q_icmp_ge hx hb (a := z123) (b := 36) ev123 (by decide) (tgt := 305) dX12_yard_276 rfl (fun c125 => ?_) (fun c125 => ?_)
                                · refine lv_iconst (v := 0) hx hb dX12_yard_305 rfl ?_
                                  refine lv_istore_n hx hb dX12_yard_306 rfl hl (by decide) rfl (fun ls hl => ?_)
                                  replace hl : lv_has ls 4 [(3, .int 0), (2, .int v46), (0, .ref h0), (1, .int p1)] := hl
                                  have L307 : ∀ (n127 : Nat) (H127 : Heap) (locs127 : List Loc) (v126 : Int32) (z126 : Int) (ls : Array Slot), (520 - z126).toNat < n127 → v126.toInt = z126 → z126 ≤ 520 → 0 ≤ z126 → CPd H127 ca 2080 0 z126 → (sI H127 h0 (X.1.2 11 8)).toInt = 0 → Conf X Γ H127 → va_S (AΓ Γ) H0 H127 locs127 → Kp X Γ [1, 6, 8, 9, 11, 12, 14, 19, 22, 24, 26, 28] H0 H127 → (KD H0 H127 ca 0 520) → (EQ H127 ca 2080 xx) → (EQ H127 ca 2081 yy) → lv_has ls 4 [(3, .int v126), (2, .int v46), (0, .ref h0), (1, .int p1)] → W p l e (rmL 5) s m args below meth c H127 locs127 0 0 Qz (F0 m 307 ls []) := by
                                    intro n127
                                    induction n127 with
                                    | zero => intro H127 locs127 v126 z126 ls hm127 ev126 iv127_0 iv127_1 iv127_2 iv127_3 hC127 hS127 hKp127 kd2 n0 n1 hl; exact absurd hm127 (Nat.not_lt_zero _)
                                    | succ n127 ih127 =>
                                      intro H127 locs127 v126 z126 ls hm127 ev126 iv127_0 iv127_1 iv127_2 iv127_3 hC127 hS127 hKp127 kd2 n0 n1 hl
                                      have cpd := iv127_2
                                      refine lv_iload_n hx hb dX12_yard_307 rfl (lv_at hl 0 rfl) ?_
                                      refine lv_sipush (v := 520) hx hb dX12_yard_308 rfl ?_
                                      refine q_icmp_ge hx hb (a := z126) (b := 520) ev126 (by decide) (tgt := 336) dX12_yard_311 rfl (fun c128 => ?_) (fun c128 => ?_)
                                      · refine lv_aload_n hx hb dX12_yard_336 rfl (lv_at hl 2 rfl) ?_
                                        refine q_getC E hC127 g0 fa_RX12_35 uc dX12_yard_337 ?_
                                        refine lv_iconst (v := 0) hx hb dX12_yard_340 rfl ?_
                                        refine q_cald E hC127 (lo := 0) (hi := 6) gca (a := 0) (show (0 : Int32).toInt = 0 from by decide) (by omega) (by omega) (cr_c0 (by omega) (by omega)) dX12_yard_341 (fun v129 ev129 lv129 uv129 => ?_)
                                        have m130 : (sI H127 ca (0 : Int).toNat).toInt = v129.toInt := congrArg Int32.toInt ev129
                                        refine lv_aload_n hx hb dX12_yard_342 rfl (lv_at hl 2 rfl) ?_
                                        refine q_getC E hC127 g0 fa_RX12_35 uc dX12_yard_343 ?_
                                        refine lv_iconst (v := 1) hx hb dX12_yard_346 rfl ?_
                                        refine q_cald E hC127 (lo := 0) (hi := 6) gca (a := 1) (show (1 : Int32).toInt = 1 from by decide) (by omega) (by omega) (cr_c0 (by omega) (by omega)) dX12_yard_347 (fun v131 ev131 lv131 uv131 => ?_)
                                        have m132 : (sI H127 ca (1 : Int).toNat).toInt = v131.toInt := congrArg Int32.toInt ev131
                                        refine lv_imul hx hb dX12_yard_348 (lv_topi (fun v133 ev133 => ?_))
                                        have hpost : KD H0 H127 ca 0 0 ∨ (KD H0 H127 ca 0 520 ∧ YI H127 ca) := Or.inr ⟨kd2, YI.mk hC127 gca cpd (by omega) n0 n1 hxy⟩
                                        have c134 : v133.toInt = v133.toInt := rfl
                                        exact ret v133 H127 locs127 _ _ dX12_yard_349 ⟨hKp127, ⟨hpost, by omega⟩⟩ hC127 hS127
                                      · refine lv_aload_n hx hb dX12_yard_314 rfl (lv_at hl 2 rfl) ?_
                                        refine q_getC E hC127 g0 fa_RX12_35 uc dX12_yard_315 ?_
                                        refine lv_iload_n hx hb dX12_yard_318 rfl (lv_at hl 0 rfl) ?_
                                        refine lv_aload_n hx hb dX12_yard_319 rfl (lv_at hl 2 rfl) ?_
                                        refine q_getC E hC127 g0 fa_RX12_35 uc dX12_yard_320 ?_
                                        refine lv_sipush (v := 2080) hx hb dX12_yard_323 rfl ?_
                                        refine lv_iload_n hx hb dX12_yard_326 rfl (lv_at hl 0 rfl) ?_
                                        refine lv_iadd hx hb dX12_yard_327 (lv_topi (fun v135 ev135 => ?_))
                                        have ev135i : v135.toInt = (2080 + z126) := i_add ev135 (by decide) ev126 (by omega) (by omega)
                                        refine q_craw E hC127 gca (a := (2080 + z126)) ev135i (by omega) (by omega) dX12_yard_328 (fun v136 ev136 tv136 => ?_)
                                        refine q_cast E hC127 hS127 gca (a := z126) ev126 (by omega) (by omega) (cT_nb (k := z126) rfl rfl (by omega) (by omega) tv136) dX12_yard_329 (fun H137 locs137 hC137 hS137 U137 => ?_)
                                        have hKp137 := Kp.upD gca rfl rfl (fun _ => ⟨fun h => absurd h (by decide), fun h => absurd h (by decide), fun h => absurd h (by decide)⟩) U137 hKp127
                                        replace kd2 : KD H0 H137 ca 0 520 := KD.up kd2 U137 (by omega) (by omega)
                                        replace n0 : EQ H137 ca 2080 xx := EQ.up n0 U137 ⟨by omega, by omega⟩ (by omega)
                                        replace n1 : EQ H137 ca 2081 yy := EQ.up n1 U137 ⟨by omega, by omega⟩ (by omega)
                                        have m138 : (sI H137 h0 (X.1.2 11 12)).toInt = (sI H127 h0 (X.1.2 11 12)).toInt := congrArg Int32.toInt (up_nI U137 (ne_k g0 gca (by decide)))
                                        have m139 : (sI H137 h0 (X.1.2 11 14)).toInt = (sI H127 h0 (X.1.2 11 14)).toInt := congrArg Int32.toInt (up_nI U137 (ne_k g0 gca (by decide)))
                                        have m140 := congrArg tk m139
                                        have m141 : (sI H137 h0 (X.1.2 11 16)).toInt = (sI H127 h0 (X.1.2 11 16)).toInt := congrArg Int32.toInt (up_nI U137 (ne_k g0 gca (by decide)))
                                        have m142 : (sI H137 h0 (X.1.2 11 8)).toInt = (sI H127 h0 (X.1.2 11 8)).toInt := congrArg Int32.toInt (up_nI U137 (ne_k g0 gca (by decide)))
                                        have cpd : CPd H137 ca 2080 0 (z126 + 1) := CPd.step cpd (a := z126) (by omega) U137 ev136 (by omega) (by omega) (by omega)
                                        have e143 := up_I U137
                                        obtain ⟨v144, ev144⟩ : ∃ z, z = v126 + Int32.ofInt 1 := ⟨_, rfl⟩
                                        have ev144i : v144.toInt = (z126 + 1) := i_add ev144 ev126 (by decide) (by omega) (by omega)
                                        refine lv_iinc hx hb dX12_yard_330 hl (k := 0) rfl ev144.symm (by decide) rfl (fun ls hl => ?_)
                                        replace hl : lv_has ls 4 [(3, .int v144), (2, .int v46), (0, .ref h0), (1, .int p1)] := hl
                                        refine lv_goto (tgt := 307) hx hb dX12_yard_333 rfl ?_
                                        exact ih127 H137 locs137 v144 ((z126 + 1)) ls (by omega) ev144i (by omega) (by omega) (cpd) (by omega) hC137 hS137 hKp137 kd2 n0 n1 hl
                                  exact L307 _ H124 locs124 0 0 ls (Nat.lt_succ_self _) (by decide) (by omega) (by omega) (CPd.nil (by omega)) (by omega) hC124 hS124 hKp124 kd2 n0 n1 hl
                                · refine lv_aload_n hx hb dX12_yard_279 rfl (lv_at hl 2 rfl) ?_
                                  refine q_getC E hC124 g0 fa_RX12_35 uc dX12_yard_280 ?_
                                  refine lv_sipush (v := 2214) hx hb dX12_yard_283 rfl ?_
                                  refine lv_iload_n hx hb dX12_yard_286 rfl (lv_at hl 0 rfl) ?_
                                  refine lv_iadd hx hb dX12_yard_287 (lv_topi (fun v145 ev145 => ?_))
                                  have ev145i : v145.toInt = (2214 + z123) := i_add ev145 (by decide) ev123 (by omega) (by omega)
                                  refine lv_aload_n hx hb dX12_yard_288 rfl (lv_at hl 2 rfl) ?_
                                  refine q_getC E hC124 g0 fa_RX12_35 uc dX12_yard_289 ?_
                                  refine lv_sipush (v := 2142) hx hb dX12_yard_292 rfl ?_
                                  refine lv_iload_n hx hb dX12_yard_295 rfl (lv_at hl 0 rfl) ?_
                                  refine lv_iadd hx hb dX12_yard_296 (lv_topi (fun v146 ev146 => ?_))
                                  have ev146i : v146.toInt = (2142 + z123) := i_add ev146 (by decide) ev123 (by omega) (by omega)
                                  refine q_cald E hC124 (lo := 0) (hi := 99) gca (a := (2142 + z123)) ev146i (by omega) (by omega) (cr_n26 (by omega) (by omega)) dX12_yard_297 (fun v147 ev147 lv147 uv147 => ?_)
                                  have m148 : (sI H124 ca ((2142 + z123) : Int).toNat).toInt = v147.toInt := congrArg Int32.toInt ev147
                                  refine q_cast E hC124 hS124 gca (a := (2214 + z123)) ev145i (by omega) (by omega) (cs_n134 (a := (2214 + z123)) (by omega) (by omega)) dX12_yard_298 (fun H149 locs149 hC149 hS149 U149 => ?_)
                                  have hKp149 := Kp.upD gca rfl rfl (fun _ => ⟨fun h => absurd h (by decide), fun h => absurd h (by decide), fun h => absurd h (by decide)⟩) U149 hKp124
                                  replace kd : KD H0 H149 ca 0 0 := KD.up kd U149 (by omega) (by omega)
                                  replace kd2 : KD H0 H149 ca 0 520 := KD.up kd2 U149 (by omega) (by omega)
                                  replace n0 : EQ H149 ca 2080 xx := EQ.up n0 U149 ⟨by omega, by omega⟩ (by omega)
                                  replace n1 : EQ H149 ca 2081 yy := EQ.up n1 U149 ⟨by omega, by omega⟩ (by omega)
                                  have m150 : (sI H149 h0 (X.1.2 11 12)).toInt = (sI H124 h0 (X.1.2 11 12)).toInt := congrArg Int32.toInt (up_nI U149 (ne_k g0 gca (by decide)))
                                  have m151 : (sI H149 h0 (X.1.2 11 14)).toInt = (sI H124 h0 (X.1.2 11 14)).toInt := congrArg Int32.toInt (up_nI U149 (ne_k g0 gca (by decide)))
                                  have m152 := congrArg tk m151
                                  have m153 : (sI H149 h0 (X.1.2 11 16)).toInt = (sI H124 h0 (X.1.2 11 16)).toInt := congrArg Int32.toInt (up_nI U149 (ne_k g0 gca (by decide)))
                                  have m154 : (sI H149 h0 (X.1.2 11 8)).toInt = (sI H124 h0 (X.1.2 11 8)).toInt := congrArg Int32.toInt (up_nI U149 (ne_k g0 gca (by decide)))
                                  have e155 := up_I U149
                                  obtain ⟨v156, ev156⟩ : ∃ z, z = v123 + Int32.ofInt 1 := ⟨_, rfl⟩
                                  have ev156i : v156.toInt = (z123 + 1) := i_add ev156 ev123 (by decide) (by omega) (by omega)
                                  refine lv_iinc hx hb dX12_yard_299 hl (k := 0) rfl ev156.symm (by decide) rfl (fun ls hl => ?_)
                                  replace hl : lv_has ls 4 [(3, .int v156), (2, .int v46), (0, .ref h0), (1, .int p1)] := hl
                                  refine lv_goto (tgt := 273) hx hb dX12_yard_302 rfl ?_
                                  exact ih124 H149 locs149 v156 ((z123 + 1)) ls (by omega) ev156i (by omega) (by omega) (by omega) hC149 hS149 hKp149 kd kd2 n0 n1 hl
                            exact L273 _ H120 locs120 0 0 ls (Nat.lt_succ_self _) (by decide) (by omega) (by omega) (by omega) hC120 hS120 hKp120 kd kd2 n0 n1 hl
                          · refine q_if_ne hx hb (a := 0) (by decide) (tgt := 271) dX12_yard_266 rfl (fun c157 => absurd c157 (by omega)) (fun c157 => ?_)
                            refine lv_iconst (v := (-1)) hx hb dX12_yard_269 rfl ?_
                            have hpost : KD H0 H120 ca 0 0 ∨ (KD H0 H120 ca 0 520 ∧ YI H120 ca) := Or.inl kd
                            have c158 : ((-1) : Int32).toInt = (-1) := (by decide)
                            exact ret (-1) H120 locs120 _ _ dX12_yard_270 ⟨hKp120, ⟨hpost, by omega⟩⟩ hC120 hS120
                        · refine lv_aload_n hx hb dX12_yard_172 rfl (lv_at hl 1 rfl) ?_
                          refine q_goIp (q_runV (As := []) (rest := []) E hC74 hS74 (m_X12_isSchool l X Γ H74 hC74 h0 g0 ca gca uc) cw_X12_isSchool cl_RX12_172 g0 ⟨rfl, rfl⟩ rfl hl.1 rfl (Nat.zero_le _) (by decide) dX12_yard_173) hS74 (fun v159 locs159 hr159 hS159 => ?_)
                          rcases hr159 with rfl | rfl
                          · refine q_if_eq hx hb (a := 0) (by decide) (tgt := 186) dX12_yard_176 rfl (fun c160 => ?_) (fun c160 => absurd c160 (by omega))
                            refine lv_aload_n hx hb dX12_yard_186 rfl (lv_at hl 1 rfl) ?_
                            refine q_goIp (q_runV (As := []) (rest := []) E hC74 hS159 (m_X12_isSnow l X Γ H74 hC74 h0 g0 ca gca uc) cw_X12_isSnow cl_RX12_178 g0 ⟨rfl, rfl⟩ rfl hl.1 rfl (Nat.zero_le _) (by decide) dX12_yard_187) hS159 (fun v161 locs161 hr161 hS161 => ?_)
                            rcases hr161 with rfl | rfl
                            · refine q_if_eq hx hb (a := 0) (by decide) (tgt := 201) dX12_yard_190 rfl (fun c162 => ?_) (fun c162 => absurd c162 (by omega))
                              refine lv_aload_n hx hb dX12_yard_201 rfl (lv_at hl 1 rfl) ?_
                              refine q_goIp (q_runV (As := []) (rest := []) E hC74 hS161 (m_X12_isWall l X Γ H74 hC74 h0 g0 ca gca uc) cw_X12_isWall cl_RX12_163 g0 ⟨rfl, rfl⟩ rfl hl.1 rfl (Nat.zero_le _) (by decide) dX12_yard_202) hS161 (fun v163 locs163 hr163 hS163 => ?_)
                              rcases hr163 with rfl | rfl
                              · refine q_if_eq hx hb (a := 0) (by decide) (tgt := 216) dX12_yard_205 rfl (fun c164 => ?_) (fun c164 => absurd c164 (by omega))
                                refine lv_aload_n hx hb dX12_yard_216 rfl (lv_at hl 1 rfl) ?_
                                refine q_goIp (q_runV (As := []) (rest := []) E hC74 hS163 (m_X12_isSun l X Γ H74 hC74 h0 g0 ca gca uc) cw_X12_isSun cl_RX12_187 g0 ⟨rfl, rfl⟩ rfl hl.1 rfl (Nat.zero_le _) (by decide) dX12_yard_217) hS163 (fun v165 locs165 hr165 hS165 => ?_)
                                rcases hr165 with rfl | rfl
                                · refine q_if_eq hx hb (a := 0) (by decide) (tgt := 231) dX12_yard_220 rfl (fun c166 => ?_) (fun c166 => absurd c166 (by omega))
                                  refine lv_aload_n hx hb dX12_yard_231 rfl (lv_at hl 1 rfl) ?_
                                  refine q_goIp (q_runV (As := []) (rest := []) E hC74 hS165 (m_X12_isNo l X Γ H74 hC74 h0 g0 ca gca uc) cw_X12_isNo cl_RX12_193 g0 ⟨rfl, rfl⟩ rfl hl.1 rfl (Nat.zero_le _) (by decide) dX12_yard_232) hS165 (fun v167 locs167 hr167 hS167 => ?_)
                                  rcases hr167 with rfl | rfl
                                  · refine q_if_eq hx hb (a := 0) (by decide) (tgt := 245) dX12_yard_235 rfl (fun c168 => ?_) (fun c168 => absurd c168 (by omega))
                                    refine lv_aload_n hx hb dX12_yard_245 rfl (lv_at hl 1 rfl) ?_
                                    refine q_goV (q_runV (As := []) (rest := []) E hC74 hS167 (m_X12_wrong l X Γ H74 hC74 h0 g0 ca gca uc) cw_X12_wrong cl_RX12_231 g0 ⟨rfl, rfl⟩ rfl hl.1 rfl (Nat.zero_le _) (by decide) dX12_yard_246) hS167 (fun H169 locs169 hr169 hC169 hS169 => ?_)
                                    obtain ⟨hp169, hr169⟩ := hr169
                                    have hKp169 := hKp74.tr (hp169.mono rfl)
                                    replace kd : KD H0 H169 ca 0 0 := KD.kp kd hp169 gca rfl rfl
                                    replace kd2 : KD H0 H169 ca 0 520 := KD.kp kd2 hp169 gca rfl rfl
                                    replace n0 : EQ H169 ca 2080 xx := EQ.kn n0 hp169 gca rfl (by unfold dpn; omega)
                                    replace n1 : EQ H169 ca 2081 yy := EQ.kn n1 hp169 gca rfl (by unfold dpn; omega)
                                    have m170 : (sI H169 h0 (X.1.2 11 8)).toInt = (sI H74 h0 (X.1.2 11 8)).toInt := congrArg Int32.toInt (kp_I hp169 g0 (k := 8) rfl (by decide) rfl)
                                    obtain ⟨f169_0, f169_1, f169_2, f169_3⟩ := hr169
                                    refine lv_aload_n hx hb dX12_yard_249 rfl (lv_at hl 1 rfl) ?_
                                    refine lv_aload_n hx hb dX12_yard_250 rfl (lv_at hl 1 rfl) ?_
                                    refine lv_bipush (v := 59) hx hb dX12_yard_251 rfl ?_
                                    have hz9 := tk_or (sI H169 h0 (X.1.2 11 14)).toInt
                                    refine q_goIp (q_runV (As := [.int 59]) (rest := [.ref h0]) E hC169 hS169 (m_X12_isSign l X Γ H169 hC169 h0 g0 59 (a1 := 59) (by decide) ca gca uc) cw_X12_isSign cl_RX12_255 g0 ⟨rfl, rfl⟩ rfl hl.1 rfl (show _ ≤ _ from by simp [Value.category]) (by decide) dX12_yard_253) hS169 (fun v171 locs171 hr171 hS171 => ?_)
                                    have b171 : (v171.toInt = 1 ∧ _) ∨ (v171.toInt = 0 ∧ _) := hr171.imp (fun h => ⟨by rw [h.1]; decide, h.2⟩) (fun h => ⟨by rw [h.1]; decide, h.2⟩)
                                    refine q_goV (q_runV (As := [.int v171]) (rest := []) E hC169 hS171 (m_X12_must l X Γ H169 hC169 h0 g0 v171 (a1 := v171.toInt) rfl ca gca uc (by omega) (by omega)) cw_X12_must cl_RX12_244 g0 ⟨rfl, rfl⟩ rfl hl.1 rfl (Nat.zero_le _) (by decide) dX12_yard_256) hS171 (fun H172 locs172 hr172 hC172 hS172 => ?_)
                                    obtain ⟨hp172, hr172⟩ := hr172
                                    have hKp172 := hKp169.tr (hp172.mono rfl)
                                    replace kd : KD H0 H172 ca 0 0 := KD.kp kd hp172 gca rfl rfl
                                    replace kd2 : KD H0 H172 ca 0 520 := KD.kp kd2 hp172 gca rfl rfl
                                    replace n0 : EQ H172 ca 2080 xx := EQ.kn n0 hp172 gca rfl (by unfold dpn; omega)
                                    replace n1 : EQ H172 ca 2081 yy := EQ.kn n1 hp172 gca rfl (by unfold dpn; omega)
                                    have m173 : (sI H172 h0 (X.1.2 11 8)).toInt = (sI H169 h0 (X.1.2 11 8)).toInt := congrArg Int32.toInt (kp_I hp172 g0 (k := 8) rfl (by decide) rfl)
                                    obtain ⟨f172_0, f172_1, f172_2, f172_3, f172_4⟩ := hr172
                                    refine lv_goto (tgt := 158) hx hb dX12_yard_259 rfl ?_
                                    exact ih74 H172 locs172 ls (by omega) (by omega) (by omega) hC172 hS172 hKp172 kd kd2 n0 n1 hl
                                  · refine q_if_eq hx hb (a := 1) (by decide) (tgt := 245) dX12_yard_235 rfl (fun c174 => absurd c174 (by omega)) (fun c174 => ?_)
                                    refine lv_aload_n hx hb dX12_yard_238 rfl (lv_at hl 1 rfl) ?_
                                    refine q_goV (q_runV (As := []) (rest := []) E hC74 hS167 (m_X12_readArticle l X Γ H74 hC74 h0 g0 ca gca uc) cw_X12_readArticle cl_RX12_264 g0 ⟨rfl, rfl⟩ rfl hl.1 rfl (Nat.zero_le _) (by decide) dX12_yard_239) hS167 (fun H175 locs175 hr175 hC175 hS175 => ?_)
                                    obtain ⟨hp175, hr175⟩ := hr175
                                    have hKp175 := hKp74.tr (hp175.mono rfl)
                                    replace kd : KD H0 H175 ca 0 0 := KD.kp kd hp175 gca rfl rfl
                                    replace kd2 : KD H0 H175 ca 0 520 := KD.kp kd2 hp175 gca rfl rfl
                                    replace n0 : EQ H175 ca 2080 xx := EQ.kn n0 hp175 gca rfl (by unfold dpn; omega)
                                    replace n1 : EQ H175 ca 2081 yy := EQ.kn n1 hp175 gca rfl (by unfold dpn; omega)
                                    have m176 : (sI H175 h0 (X.1.2 11 8)).toInt = (sI H74 h0 (X.1.2 11 8)).toInt := congrArg Int32.toInt (kp_I hp175 g0 (k := 8) rfl (by decide) rfl)
                                    obtain ⟨f175_0, f175_1, f175_2, f175_3⟩ := hr175
                                    refine lv_goto (tgt := 249) hx hb dX12_yard_242 rfl ?_
                                    refine lv_aload_n hx hb dX12_yard_249 rfl (lv_at hl 1 rfl) ?_
                                    refine lv_aload_n hx hb dX12_yard_250 rfl (lv_at hl 1 rfl) ?_
                                    refine lv_bipush (v := 59) hx hb dX12_yard_251 rfl ?_
                                    have hz9 := tk_or (sI H175 h0 (X.1.2 11 14)).toInt
                                    refine q_goIp (q_runV (As := [.int 59]) (rest := [.ref h0]) E hC175 hS175 (m_X12_isSign l X Γ H175 hC175 h0 g0 59 (a1 := 59) (by decide) ca gca uc) cw_X12_isSign cl_RX12_255 g0 ⟨rfl, rfl⟩ rfl hl.1 rfl (show _ ≤ _ from by simp [Value.category]) (by decide) dX12_yard_253) hS175 (fun v177 locs177 hr177 hS177 => ?_)
                                    have b177 : (v177.toInt = 1 ∧ _) ∨ (v177.toInt = 0 ∧ _) := hr177.imp (fun h => ⟨by rw [h.1]; decide, h.2⟩) (fun h => ⟨by rw [h.1]; decide, h.2⟩)
                                    refine q_goV (q_runV (As := [.int v177]) (rest := []) E hC175 hS177 (m_X12_must l X Γ H175 hC175 h0 g0 v177 (a1 := v177.toInt) rfl ca gca uc (by omega) (by omega)) cw_X12_must cl_RX12_244 g0 ⟨rfl, rfl⟩ rfl hl.1 rfl (Nat.zero_le _) (by decide) dX12_yard_256) hS177 (fun H178 locs178 hr178 hC178 hS178 => ?_)
                                    obtain ⟨hp178, hr178⟩ := hr178
                                    have hKp178 := hKp175.tr (hp178.mono rfl)
                                    replace kd : KD H0 H178 ca 0 0 := KD.kp kd hp178 gca rfl rfl
                                    replace kd2 : KD H0 H178 ca 0 520 := KD.kp kd2 hp178 gca rfl rfl
                                    replace n0 : EQ H178 ca 2080 xx := EQ.kn n0 hp178 gca rfl (by unfold dpn; omega)
                                    replace n1 : EQ H178 ca 2081 yy := EQ.kn n1 hp178 gca rfl (by unfold dpn; omega)
                                    have m179 : (sI H178 h0 (X.1.2 11 8)).toInt = (sI H175 h0 (X.1.2 11 8)).toInt := congrArg Int32.toInt (kp_I hp178 g0 (k := 8) rfl (by decide) rfl)
                                    obtain ⟨f178_0, f178_1, f178_2, f178_3, f178_4⟩ := hr178
                                    refine lv_goto (tgt := 158) hx hb dX12_yard_259 rfl ?_
                                    exact ih74 H178 locs178 ls (by omega) (by omega) (by omega) hC178 hS178 hKp178 kd kd2 n0 n1 hl
                                · refine q_if_eq hx hb (a := 1) (by decide) (tgt := 231) dX12_yard_220 rfl (fun c180 => absurd c180 (by omega)) (fun c180 => ?_)
                                  refine lv_aload_n hx hb dX12_yard_223 rfl (lv_at hl 1 rfl) ?_
                                  refine lv_iconst (v := 2) hx hb dX12_yard_224 rfl ?_
                                  refine q_goV (q_runV (As := [.int 2]) (rest := []) E hC74 hS165 (m_X12_readCell l X Γ H74 hC74 h0 g0 2 (a1 := 2) (by decide) ca gca uc (by omega) (by omega)) cw_X12_readCell cl_RX12_261 g0 ⟨rfl, rfl⟩ rfl hl.1 rfl (Nat.zero_le _) (by decide) dX12_yard_225) hS165 (fun H181 locs181 hr181 hC181 hS181 => ?_)
                                  obtain ⟨hp181, hr181⟩ := hr181
                                  have hKp181 := hKp74.tr (hp181.mono rfl)
                                  replace kd : KD H0 H181 ca 0 0 := KD.kp kd hp181 gca rfl rfl
                                  replace kd2 : KD H0 H181 ca 0 520 := KD.kp kd2 hp181 gca rfl rfl
                                  replace n0 : EQ H181 ca 2080 xx := EQ.kn n0 hp181 gca rfl (by unfold dpn; omega)
                                  replace n1 : EQ H181 ca 2081 yy := EQ.kn n1 hp181 gca rfl (by unfold dpn; omega)
                                  have m182 : (sI H181 h0 (X.1.2 11 8)).toInt = (sI H74 h0 (X.1.2 11 8)).toInt := congrArg Int32.toInt (kp_I hp181 g0 (k := 8) rfl (by decide) rfl)
                                  obtain ⟨f181_0, f181_1, f181_2, f181_3⟩ := hr181
                                  refine lv_goto (tgt := 249) hx hb dX12_yard_228 rfl ?_
                                  refine lv_aload_n hx hb dX12_yard_249 rfl (lv_at hl 1 rfl) ?_
                                  refine lv_aload_n hx hb dX12_yard_250 rfl (lv_at hl 1 rfl) ?_
                                  refine lv_bipush (v := 59) hx hb dX12_yard_251 rfl ?_
                                  have hz9 := tk_or (sI H181 h0 (X.1.2 11 14)).toInt
                                  refine q_goIp (q_runV (As := [.int 59]) (rest := [.ref h0]) E hC181 hS181 (m_X12_isSign l X Γ H181 hC181 h0 g0 59 (a1 := 59) (by decide) ca gca uc) cw_X12_isSign cl_RX12_255 g0 ⟨rfl, rfl⟩ rfl hl.1 rfl (show _ ≤ _ from by simp [Value.category]) (by decide) dX12_yard_253) hS181 (fun v183 locs183 hr183 hS183 => ?_)
                                  have b183 : (v183.toInt = 1 ∧ _) ∨ (v183.toInt = 0 ∧ _) := hr183.imp (fun h => ⟨by rw [h.1]; decide, h.2⟩) (fun h => ⟨by rw [h.1]; decide, h.2⟩)
                                  refine q_goV (q_runV (As := [.int v183]) (rest := []) E hC181 hS183 (m_X12_must l X Γ H181 hC181 h0 g0 v183 (a1 := v183.toInt) rfl ca gca uc (by omega) (by omega)) cw_X12_must cl_RX12_244 g0 ⟨rfl, rfl⟩ rfl hl.1 rfl (Nat.zero_le _) (by decide) dX12_yard_256) hS183 (fun H184 locs184 hr184 hC184 hS184 => ?_)
                                  obtain ⟨hp184, hr184⟩ := hr184
                                  have hKp184 := hKp181.tr (hp184.mono rfl)
                                  replace kd : KD H0 H184 ca 0 0 := KD.kp kd hp184 gca rfl rfl
                                  replace kd2 : KD H0 H184 ca 0 520 := KD.kp kd2 hp184 gca rfl rfl
                                  replace n0 : EQ H184 ca 2080 xx := EQ.kn n0 hp184 gca rfl (by unfold dpn; omega)
                                  replace n1 : EQ H184 ca 2081 yy := EQ.kn n1 hp184 gca rfl (by unfold dpn; omega)
                                  have m185 : (sI H184 h0 (X.1.2 11 8)).toInt = (sI H181 h0 (X.1.2 11 8)).toInt := congrArg Int32.toInt (kp_I hp184 g0 (k := 8) rfl (by decide) rfl)
                                  obtain ⟨f184_0, f184_1, f184_2, f184_3, f184_4⟩ := hr184
                                  refine lv_goto (tgt := 158) hx hb dX12_yard_259 rfl ?_
                                  exact ih74 H184 locs184 ls (by omega) (by omega) (by omega) hC184 hS184 hKp184 kd kd2 n0 n1 hl
                              · refine q_if_eq hx hb (a := 1) (by decide) (tgt := 216) dX12_yard_205 rfl (fun c186 => absurd c186 (by omega)) (fun c186 => ?_)
                                refine lv_aload_n hx hb dX12_yard_208 rfl (lv_at hl 1 rfl) ?_
                                refine lv_iconst (v := 1) hx hb dX12_yard_209 rfl ?_
                                refine q_goV (q_runV (As := [.int 1]) (rest := []) E hC74 hS163 (m_X12_readCell l X Γ H74 hC74 h0 g0 1 (a1 := 1) (by decide) ca gca uc (by omega) (by omega)) cw_X12_readCell cl_RX12_261 g0 ⟨rfl, rfl⟩ rfl hl.1 rfl (Nat.zero_le _) (by decide) dX12_yard_210) hS163 (fun H187 locs187 hr187 hC187 hS187 => ?_)
                                obtain ⟨hp187, hr187⟩ := hr187
                                have hKp187 := hKp74.tr (hp187.mono rfl)
                                replace kd : KD H0 H187 ca 0 0 := KD.kp kd hp187 gca rfl rfl
                                replace kd2 : KD H0 H187 ca 0 520 := KD.kp kd2 hp187 gca rfl rfl
                                replace n0 : EQ H187 ca 2080 xx := EQ.kn n0 hp187 gca rfl (by unfold dpn; omega)
                                replace n1 : EQ H187 ca 2081 yy := EQ.kn n1 hp187 gca rfl (by unfold dpn; omega)
                                have m188 : (sI H187 h0 (X.1.2 11 8)).toInt = (sI H74 h0 (X.1.2 11 8)).toInt := congrArg Int32.toInt (kp_I hp187 g0 (k := 8) rfl (by decide) rfl)
                                obtain ⟨f187_0, f187_1, f187_2, f187_3⟩ := hr187
                                refine lv_goto (tgt := 249) hx hb dX12_yard_213 rfl ?_
                                refine lv_aload_n hx hb dX12_yard_249 rfl (lv_at hl 1 rfl) ?_
                                refine lv_aload_n hx hb dX12_yard_250 rfl (lv_at hl 1 rfl) ?_
                                refine lv_bipush (v := 59) hx hb dX12_yard_251 rfl ?_
                                have hz9 := tk_or (sI H187 h0 (X.1.2 11 14)).toInt
                                refine q_goIp (q_runV (As := [.int 59]) (rest := [.ref h0]) E hC187 hS187 (m_X12_isSign l X Γ H187 hC187 h0 g0 59 (a1 := 59) (by decide) ca gca uc) cw_X12_isSign cl_RX12_255 g0 ⟨rfl, rfl⟩ rfl hl.1 rfl (show _ ≤ _ from by simp [Value.category]) (by decide) dX12_yard_253) hS187 (fun v189 locs189 hr189 hS189 => ?_)
                                have b189 : (v189.toInt = 1 ∧ _) ∨ (v189.toInt = 0 ∧ _) := hr189.imp (fun h => ⟨by rw [h.1]; decide, h.2⟩) (fun h => ⟨by rw [h.1]; decide, h.2⟩)
                                refine q_goV (q_runV (As := [.int v189]) (rest := []) E hC187 hS189 (m_X12_must l X Γ H187 hC187 h0 g0 v189 (a1 := v189.toInt) rfl ca gca uc (by omega) (by omega)) cw_X12_must cl_RX12_244 g0 ⟨rfl, rfl⟩ rfl hl.1 rfl (Nat.zero_le _) (by decide) dX12_yard_256) hS189 (fun H190 locs190 hr190 hC190 hS190 => ?_)
                                obtain ⟨hp190, hr190⟩ := hr190
                                have hKp190 := hKp187.tr (hp190.mono rfl)
                                replace kd : KD H0 H190 ca 0 0 := KD.kp kd hp190 gca rfl rfl
                                replace kd2 : KD H0 H190 ca 0 520 := KD.kp kd2 hp190 gca rfl rfl
                                replace n0 : EQ H190 ca 2080 xx := EQ.kn n0 hp190 gca rfl (by unfold dpn; omega)
                                replace n1 : EQ H190 ca 2081 yy := EQ.kn n1 hp190 gca rfl (by unfold dpn; omega)
                                have m191 : (sI H190 h0 (X.1.2 11 8)).toInt = (sI H187 h0 (X.1.2 11 8)).toInt := congrArg Int32.toInt (kp_I hp190 g0 (k := 8) rfl (by decide) rfl)
                                obtain ⟨f190_0, f190_1, f190_2, f190_3, f190_4⟩ := hr190
                                refine lv_goto (tgt := 158) hx hb dX12_yard_259 rfl ?_
                                exact ih74 H190 locs190 ls (by omega) (by omega) (by omega) hC190 hS190 hKp190 kd kd2 n0 n1 hl
                            · refine q_if_eq hx hb (a := 1) (by decide) (tgt := 201) dX12_yard_190 rfl (fun c192 => absurd c192 (by omega)) (fun c192 => ?_)
                              refine lv_aload_n hx hb dX12_yard_193 rfl (lv_at hl 1 rfl) ?_
                              refine lv_iconst (v := 0) hx hb dX12_yard_194 rfl ?_
                              refine q_goV (q_runV (As := [.int 0]) (rest := []) E hC74 hS161 (m_X12_readCell l X Γ H74 hC74 h0 g0 0 (a1 := 0) (by decide) ca gca uc (by omega) (by omega)) cw_X12_readCell cl_RX12_261 g0 ⟨rfl, rfl⟩ rfl hl.1 rfl (Nat.zero_le _) (by decide) dX12_yard_195) hS161 (fun H193 locs193 hr193 hC193 hS193 => ?_)
                              obtain ⟨hp193, hr193⟩ := hr193
                              have hKp193 := hKp74.tr (hp193.mono rfl)
                              replace kd : KD H0 H193 ca 0 0 := KD.kp kd hp193 gca rfl rfl
                              replace kd2 : KD H0 H193 ca 0 520 := KD.kp kd2 hp193 gca rfl rfl
                              replace n0 : EQ H193 ca 2080 xx := EQ.kn n0 hp193 gca rfl (by unfold dpn; omega)
                              replace n1 : EQ H193 ca 2081 yy := EQ.kn n1 hp193 gca rfl (by unfold dpn; omega)
                              have m194 : (sI H193 h0 (X.1.2 11 8)).toInt = (sI H74 h0 (X.1.2 11 8)).toInt := congrArg Int32.toInt (kp_I hp193 g0 (k := 8) rfl (by decide) rfl)
                              obtain ⟨f193_0, f193_1, f193_2, f193_3⟩ := hr193
                              refine lv_goto (tgt := 249) hx hb dX12_yard_198 rfl ?_
                              refine lv_aload_n hx hb dX12_yard_249 rfl (lv_at hl 1 rfl) ?_
                              refine lv_aload_n hx hb dX12_yard_250 rfl (lv_at hl 1 rfl) ?_
                              refine lv_bipush (v := 59) hx hb dX12_yard_251 rfl ?_
                              have hz9 := tk_or (sI H193 h0 (X.1.2 11 14)).toInt
                              refine q_goIp (q_runV (As := [.int 59]) (rest := [.ref h0]) E hC193 hS193 (m_X12_isSign l X Γ H193 hC193 h0 g0 59 (a1 := 59) (by decide) ca gca uc) cw_X12_isSign cl_RX12_255 g0 ⟨rfl, rfl⟩ rfl hl.1 rfl (show _ ≤ _ from by simp [Value.category]) (by decide) dX12_yard_253) hS193 (fun v195 locs195 hr195 hS195 => ?_)
                              have b195 : (v195.toInt = 1 ∧ _) ∨ (v195.toInt = 0 ∧ _) := hr195.imp (fun h => ⟨by rw [h.1]; decide, h.2⟩) (fun h => ⟨by rw [h.1]; decide, h.2⟩)
                              refine q_goV (q_runV (As := [.int v195]) (rest := []) E hC193 hS195 (m_X12_must l X Γ H193 hC193 h0 g0 v195 (a1 := v195.toInt) rfl ca gca uc (by omega) (by omega)) cw_X12_must cl_RX12_244 g0 ⟨rfl, rfl⟩ rfl hl.1 rfl (Nat.zero_le _) (by decide) dX12_yard_256) hS195 (fun H196 locs196 hr196 hC196 hS196 => ?_)
                              obtain ⟨hp196, hr196⟩ := hr196
                              have hKp196 := hKp193.tr (hp196.mono rfl)
                              replace kd : KD H0 H196 ca 0 0 := KD.kp kd hp196 gca rfl rfl
                              replace kd2 : KD H0 H196 ca 0 520 := KD.kp kd2 hp196 gca rfl rfl
                              replace n0 : EQ H196 ca 2080 xx := EQ.kn n0 hp196 gca rfl (by unfold dpn; omega)
                              replace n1 : EQ H196 ca 2081 yy := EQ.kn n1 hp196 gca rfl (by unfold dpn; omega)
                              have m197 : (sI H196 h0 (X.1.2 11 8)).toInt = (sI H193 h0 (X.1.2 11 8)).toInt := congrArg Int32.toInt (kp_I hp196 g0 (k := 8) rfl (by decide) rfl)
                              obtain ⟨f196_0, f196_1, f196_2, f196_3, f196_4⟩ := hr196
                              refine lv_goto (tgt := 158) hx hb dX12_yard_259 rfl ?_
                              exact ih74 H196 locs196 ls (by omega) (by omega) (by omega) hC196 hS196 hKp196 kd kd2 n0 n1 hl
                          · refine q_if_eq hx hb (a := 1) (by decide) (tgt := 186) dX12_yard_176 rfl (fun c198 => absurd c198 (by omega)) (fun c198 => ?_)
                            refine lv_aload_n hx hb dX12_yard_179 rfl (lv_at hl 1 rfl) ?_
                            refine q_goV (q_runV (As := []) (rest := []) E hC74 hS159 (m_X12_readSchool l X Γ H74 hC74 h0 g0 ca gca uc) cw_X12_readSchool cl_RX12_258 g0 ⟨rfl, rfl⟩ rfl hl.1 rfl (Nat.zero_le _) (by decide) dX12_yard_180) hS159 (fun H199 locs199 hr199 hC199 hS199 => ?_)
                            obtain ⟨hp199, hr199⟩ := hr199
                            have hKp199 := hKp74.tr (hp199.mono rfl)
                            replace kd : KD H0 H199 ca 0 0 := KD.kp kd hp199 gca rfl rfl
                            replace kd2 : KD H0 H199 ca 0 520 := KD.kp kd2 hp199 gca rfl rfl
                            replace n0 : EQ H199 ca 2080 xx := EQ.kn n0 hp199 gca rfl (by unfold dpn; omega)
                            replace n1 : EQ H199 ca 2081 yy := EQ.kn n1 hp199 gca rfl (by unfold dpn; omega)
                            have m200 : (sI H199 h0 (X.1.2 11 8)).toInt = (sI H74 h0 (X.1.2 11 8)).toInt := congrArg Int32.toInt (kp_I hp199 g0 (k := 8) rfl (by decide) rfl)
                            obtain ⟨f199_0, f199_1, f199_2, f199_3⟩ := hr199
                            refine lv_goto (tgt := 249) hx hb dX12_yard_183 rfl ?_
                            refine lv_aload_n hx hb dX12_yard_249 rfl (lv_at hl 1 rfl) ?_
                            refine lv_aload_n hx hb dX12_yard_250 rfl (lv_at hl 1 rfl) ?_
                            refine lv_bipush (v := 59) hx hb dX12_yard_251 rfl ?_
                            have hz9 := tk_or (sI H199 h0 (X.1.2 11 14)).toInt
                            refine q_goIp (q_runV (As := [.int 59]) (rest := [.ref h0]) E hC199 hS199 (m_X12_isSign l X Γ H199 hC199 h0 g0 59 (a1 := 59) (by decide) ca gca uc) cw_X12_isSign cl_RX12_255 g0 ⟨rfl, rfl⟩ rfl hl.1 rfl (show _ ≤ _ from by simp [Value.category]) (by decide) dX12_yard_253) hS199 (fun v201 locs201 hr201 hS201 => ?_)
                            have b201 : (v201.toInt = 1 ∧ _) ∨ (v201.toInt = 0 ∧ _) := hr201.imp (fun h => ⟨by rw [h.1]; decide, h.2⟩) (fun h => ⟨by rw [h.1]; decide, h.2⟩)
                            refine q_goV (q_runV (As := [.int v201]) (rest := []) E hC199 hS201 (m_X12_must l X Γ H199 hC199 h0 g0 v201 (a1 := v201.toInt) rfl ca gca uc (by omega) (by omega)) cw_X12_must cl_RX12_244 g0 ⟨rfl, rfl⟩ rfl hl.1 rfl (Nat.zero_le _) (by decide) dX12_yard_256) hS201 (fun H202 locs202 hr202 hC202 hS202 => ?_)
                            obtain ⟨hp202, hr202⟩ := hr202
                            have hKp202 := hKp199.tr (hp202.mono rfl)
                            replace kd : KD H0 H202 ca 0 0 := KD.kp kd hp202 gca rfl rfl
                            replace kd2 : KD H0 H202 ca 0 520 := KD.kp kd2 hp202 gca rfl rfl
                            replace n0 : EQ H202 ca 2080 xx := EQ.kn n0 hp202 gca rfl (by unfold dpn; omega)
                            replace n1 : EQ H202 ca 2081 yy := EQ.kn n1 hp202 gca rfl (by unfold dpn; omega)
                            have m203 : (sI H202 h0 (X.1.2 11 8)).toInt = (sI H199 h0 (X.1.2 11 8)).toInt := congrArg Int32.toInt (kp_I hp202 g0 (k := 8) rfl (by decide) rfl)
                            obtain ⟨f202_0, f202_1, f202_2, f202_3, f202_4⟩ := hr202
                            refine lv_goto (tgt := 158) hx hb dX12_yard_259 rfl ?_
                            exact ih74 H202 locs202 ls (by omega) (by omega) (by omega) hC202 hS202 hKp202 kd kd2 n0 n1 hl
                  exact L158 903 H72 locs72 ls (by omega) (by omega) (by omega) hC72 hS72 hKp72 kd kd2 n0 n1 hl
                · refine lv_aload_n hx hb dX12_yard_105 rfl (lv_at hl 1 rfl) ?_
                  refine q_getC E hC49 g0 fa_RX12_35 uc dX12_yard_106 ?_
                  refine lv_sipush (v := 2080) hx hb dX12_yard_109 rfl ?_
                  refine q_cald E hC49 (lo := 0) (hi := 6) gca (a := 2080) (show (2080 : Int32).toInt = 2080 from by decide) (by omega) (by omega) (cr_n0 (by omega) (by omega)) dX12_yard_112 (fun v204 ev204 lv204 uv204 => ?_)
                  have qv204 := e55.symm.trans ev204; subst qv204
                  refine lv_iconst (v := 2) hx hb dX12_yard_113 rfl ?_
                  refine lv_irem hx hb dX12_yard_114 (by decide) (lv_topi (fun v205 ev205 => ?_))
                  have ev205i : v205.toInt = (v47.toInt % 2) := i_rem ev205 rfl (by decide) (by omega) (by decide)
                  refine lv_iconst (v := 1) hx hb dX12_yard_115 rfl ?_
                  refine q_icmp_ne hx hb (a := (v47.toInt % 2)) (b := 1) ev205i (by decide) (tgt := 125) dX12_yard_116 rfl (fun c206 => ?_) (fun c206 => ?_)
                  · refine lv_aload_n hx hb dX12_yard_125 rfl (lv_at hl 1 rfl) ?_
                    refine lv_aload_n hx hb dX12_yard_126 rfl (lv_at hl 1 rfl) ?_
                    refine q_goIp (q_runV (As := []) (rest := [.ref h0]) E hC49 hS49 (m_X12_isHigh l X Γ H49 hC49 h0 g0 ca gca uc) cw_X12_isHigh cl_RX12_169 g0 ⟨rfl, rfl⟩ rfl hl.1 rfl (show _ ≤ _ from by simp [Value.category]) (by decide) dX12_yard_127) hS49 (fun v207 locs207 hr207 hS207 => ?_)
                    have b207 : v207.toInt = 0 ∨ v207.toInt = 1 := hr207.imp (fun h => by rw [h]; decide) (fun h => by rw [h]; decide)
                    refine q_goV (q_runV (As := [.int v207]) (rest := []) E hC49 hS207 (m_X12_must l X Γ H49 hC49 h0 g0 v207 (a1 := v207.toInt) rfl ca gca uc (by omega) (by omega)) cw_X12_must cl_RX12_244 g0 ⟨rfl, rfl⟩ rfl hl.1 rfl (Nat.zero_le _) (by decide) dX12_yard_130) hS207 (fun H208 locs208 hr208 hC208 hS208 => ?_)
                    obtain ⟨hp208, hr208⟩ := hr208
                    have hKp208 := hKp49.tr (hp208.mono rfl)
                    replace kd : KD H0 H208 ca 0 0 := KD.kp kd hp208 gca rfl rfl
                    replace kd2 : KD H0 H208 ca 0 520 := KD.kp kd2 hp208 gca rfl rfl
                    replace n0 : EQ H208 ca 2080 xx := EQ.kn n0 hp208 gca rfl (by unfold dpn; omega)
                    have m209 : (sI H208 h0 (X.1.2 11 8)).toInt = (sI H49 h0 (X.1.2 11 8)).toInt := congrArg Int32.toInt (kp_I hp208 g0 (k := 8) rfl (by decide) rfl)
                    obtain ⟨f208_0, f208_1, f208_2, f208_3, f208_4⟩ := hr208
                    refine lv_aload_n hx hb dX12_yard_133 rfl (lv_at hl 1 rfl) ?_
                    refine q_getC E hC208 g0 fa_RX12_35 uc dX12_yard_134 ?_
                    refine lv_sipush (v := 2081) hx hb dX12_yard_137 rfl ?_
                    refine lv_aload_n hx hb dX12_yard_140 rfl (lv_at hl 1 rfl) ?_
                    refine lv_iconst (v := 1) hx hb dX12_yard_141 rfl ?_
                    refine lv_bipush (v := 6) hx hb dX12_yard_142 rfl ?_
                    refine q_goI (q_runV (As := [.int 1, .int 6]) (rest := [.int 2081, .ref ca]) E hC208 hS208 (m_X12_count l X Γ H208 hC208 h0 g0 1 (a1 := 1) (by decide) 6 (a2 := 6) (by decide) ca gca uc (by omega) (by omega) (by omega) (by omega)) cw_X12_count cl_RX12_248 g0 ⟨rfl, rfl⟩ rfl hl.1 rfl (show _ ≤ _ from by simp [Value.category]) (by decide) dX12_yard_144) hS208 (fun v210 H210 locs210 hr210 hC210 hS210 => ?_)
                    obtain ⟨hp210, hr210⟩ := hr210
                    have hKp210 := hKp208.tr (hp210.mono rfl)
                    replace kd : KD H0 H210 ca 0 0 := KD.kp kd hp210 gca rfl rfl
                    replace kd2 : KD H0 H210 ca 0 520 := KD.kp kd2 hp210 gca rfl rfl
                    replace n0 : EQ H210 ca 2080 xx := EQ.kn n0 hp210 gca rfl (by unfold dpn; omega)
                    have m211 : (sI H210 h0 (X.1.2 11 8)).toInt = (sI H208 h0 (X.1.2 11 8)).toInt := congrArg Int32.toInt (kp_I hp210 g0 (k := 8) rfl (by decide) rfl)
                    obtain ⟨f210_0, f210_1, f210_2, f210_3, f210_4, f210_5, f210_6, f210_7⟩ := hr210
                    refine q_cast E hC210 hS210 gca (a := 2081) (show (2081 : Int32).toInt = 2081 from by decide) (by omega) (by omega) (cs_n0 (a := 2081) (b := v210.toInt) (by omega) (by omega) rfl (by omega) (by omega)) dX12_yard_147 (fun H212 locs212 hC212 hS212 U212 => ?_)
                    have hKp212 := Kp.upD gca rfl rfl (fun _ => ⟨fun h => absurd h (by decide), fun h => absurd h (by decide), fun h => absurd h (by decide)⟩) U212 hKp210
                    replace kd : KD H0 H212 ca 0 0 := KD.up kd U212 (by omega) (by omega)
                    replace kd2 : KD H0 H212 ca 0 520 := KD.up kd2 U212 (by omega) (by omega)
                    replace n0 : EQ H212 ca 2080 xx := EQ.up n0 U212 ⟨by omega, by omega⟩ (by omega)
                    have m213 : (sI H212 h0 (X.1.2 11 12)).toInt = (sI H210 h0 (X.1.2 11 12)).toInt := congrArg Int32.toInt (up_nI U212 (ne_k g0 gca (by decide)))
                    have m214 : (sI H212 h0 (X.1.2 11 14)).toInt = (sI H210 h0 (X.1.2 11 14)).toInt := congrArg Int32.toInt (up_nI U212 (ne_k g0 gca (by decide)))
                    have m215 := congrArg tk m214
                    have m216 : (sI H212 h0 (X.1.2 11 16)).toInt = (sI H210 h0 (X.1.2 11 16)).toInt := congrArg Int32.toInt (up_nI U212 (ne_k g0 gca (by decide)))
                    have m217 : (sI H212 h0 (X.1.2 11 8)).toInt = (sI H210 h0 (X.1.2 11 8)).toInt := congrArg Int32.toInt (up_nI U212 (ne_k g0 gca (by decide)))
                    obtain ⟨yy, hyy⟩ : ∃ z, v210.toInt = z := ⟨_, rfl⟩
                    have n1 : EQ H212 ca 2081 yy := (congrArg Int32.toInt (up_I U212)).trans (rfl.trans hyy)
                    have e218 := up_I U212
                    refine lv_aload_n hx hb dX12_yard_148 rfl (lv_at hl 1 rfl) ?_
                    refine lv_aload_n hx hb dX12_yard_149 rfl (lv_at hl 1 rfl) ?_
                    refine lv_bipush (v := 59) hx hb dX12_yard_150 rfl ?_
                    refine q_goIp (q_runV (As := [.int 59]) (rest := [.ref h0]) E hC212 hS212 (m_X12_isSign l X Γ H212 hC212 h0 g0 59 (a1 := 59) (by decide) ca gca uc) cw_X12_isSign cl_RX12_255 g0 ⟨rfl, rfl⟩ rfl hl.1 rfl (show _ ≤ _ from by simp [Value.category]) (by decide) dX12_yard_152) hS212 (fun v219 locs219 hr219 hS219 => ?_)
                    have b219 : (v219.toInt = 1 ∧ _) ∨ (v219.toInt = 0 ∧ _) := hr219.imp (fun h => ⟨by rw [h.1]; decide, h.2⟩) (fun h => ⟨by rw [h.1]; decide, h.2⟩)
                    have hb0 := f_bd hC212 g0 (ci := 11) (k := 16) rfl rfl
                    refine q_goV (q_runV (As := [.int v219]) (rest := []) E hC212 hS219 (m_X12_must l X Γ H212 hC212 h0 g0 v219 (a1 := v219.toInt) rfl ca gca uc (by omega) (by omega)) cw_X12_must cl_RX12_244 g0 ⟨rfl, rfl⟩ rfl hl.1 rfl (Nat.zero_le _) (by decide) dX12_yard_155) hS219 (fun H220 locs220 hr220 hC220 hS220 => ?_)
                    obtain ⟨hp220, hr220⟩ := hr220
                    have hKp220 := hKp212.tr (hp220.mono rfl)
                    replace kd : KD H0 H220 ca 0 0 := KD.kp kd hp220 gca rfl rfl
                    replace kd2 : KD H0 H220 ca 0 520 := KD.kp kd2 hp220 gca rfl rfl
                    replace n0 : EQ H220 ca 2080 xx := EQ.kn n0 hp220 gca rfl (by unfold dpn; omega)
                    replace n1 : EQ H220 ca 2081 yy := EQ.kn n1 hp220 gca rfl (by unfold dpn; omega)
                    have m221 : (sI H220 h0 (X.1.2 11 8)).toInt = (sI H212 h0 (X.1.2 11 8)).toInt := congrArg Int32.toInt (kp_I hp220 g0 (k := 8) rfl (by decide) rfl)
                    obtain ⟨f220_0, f220_1, f220_2, f220_3, f220_4⟩ := hr220
                    have L158 : ∀ (n222 : Nat) (H222 : Heap) (locs222 : List Loc) (ls : Array Slot), 0 < n222 ∧ ((sI H222 h0 (X.1.2 11 12)).toInt ≠ 0 ∨ 902 - (sI H222 h0 (X.1.2 11 16)).toInt < n222) → ((sI H222 h0 (X.1.2 11 12)).toInt = 0 → 2 ≤ xx ∧ 1 ≤ yy) → (sI H222 h0 (X.1.2 11 8)).toInt = 0 → Conf X Γ H222 → va_S (AΓ Γ) H0 H222 locs222 → Kp X Γ [1, 6, 8, 9, 11, 12, 14, 19, 22, 24, 26, 28] H0 H222 → (KD H0 H222 ca 0 0) → (KD H0 H222 ca 0 520) → (EQ H222 ca 2080 xx) → (EQ H222 ca 2081 yy) → lv_has ls 4 [(2, .int v46), (0, .ref h0), (1, .int p1)] → W p l e (rmL 5) s m args below meth c H222 locs222 0 0 Qz (F0 m 158 ls []) := by
                      intro n222
                      induction n222 with
                      | zero => intro H222 locs222 ls hm222 iv222_0 iv222_1 hC222 hS222 hKp222 kd kd2 n0 n1 hl; exact absurd hm222 (by omega)
                      | succ n222 ih222 =>
                        intro H222 locs222 ls hm222 iv222_0 iv222_1 hC222 hS222 hKp222 kd kd2 n0 n1 hl
                        have hb1 := f_bd hC222 g0 (ci := 11) (k := 16) rfl rfl
                        have hb2 := f_bd hC222 g0 (ci := 11) (k := 12) rfl rfl
                        refine lv_aload_n hx hb dX12_yard_158 rfl (lv_at hl 1 rfl) ?_
                        refine q_getI E hC222 g0 fa_RX12_218 dX12_yard_159 (fun v223 ev223 lv223 uv223 => ?_)
                        have m224 : (sI H222 h0 (X.1.2 11 12)).toInt = v223.toInt := (congrArg Int32.toInt ev223).trans rfl
                        refine q_if_ne hx hb (a := v223.toInt) rfl (tgt := 262) dX12_yard_162 rfl (fun c225 => ?_) (fun c225 => ?_)
                        · refine lv_aload_n hx hb dX12_yard_262 rfl (lv_at hl 1 rfl) ?_
                          refine q_goI (q_runV (As := []) (rest := []) E hC222 hS222 (m_X12_isWell l X Γ H222 hC222 h0 g0 ca gca uc) cw_X12_isWell cl_RX12_267 g0 ⟨rfl, rfl⟩ rfl hl.1 rfl (Nat.zero_le _) (by decide) dX12_yard_263) hS222 (fun v226 H226 locs226 hr226 hC226 hS226 => ?_)
                          obtain ⟨hp226, hr226⟩ := hr226
                          have hKp226 := hKp222.tr (hp226.mono rfl)
                          replace kd : KD H0 H226 ca 0 0 := KD.kp kd hp226 gca rfl rfl
                          replace kd2 : KD H0 H226 ca 0 520 := KD.kp kd2 hp226 gca rfl rfl
                          replace n0 : EQ H226 ca 2080 xx := EQ.kn n0 hp226 gca rfl (by unfold dpn; omega)
                          replace n1 : EQ H226 ca 2081 yy := EQ.kn n1 hp226 gca rfl (by unfold dpn; omega)
                          have m227 : (sI H226 h0 (X.1.2 11 8)).toInt = (sI H222 h0 (X.1.2 11 8)).toInt := congrArg Int32.toInt (kp_I hp226 g0 (k := 8) rfl (by decide) rfl)
                          rcases hr226 with ⟨rfl, f226a⟩ | ⟨rfl, -⟩
                          · refine q_if_ne hx hb (a := 1) (by decide) (tgt := 271) dX12_yard_266 rfl (fun c228 => ?_) (fun c228 => absurd c228 (by omega))
                            have hxy : 2 ≤ xx ∧ 1 ≤ yy := by omega
                            refine lv_iconst (v := 0) hx hb dX12_yard_271 rfl ?_
                            refine lv_istore_n hx hb dX12_yard_272 rfl hl (by decide) rfl (fun ls hl => ?_)
                            replace hl : lv_has ls 4 [(3, .int 0), (2, .int v46), (0, .ref h0), (1, .int p1)] := hl
                            have L273 : ∀ (n230 : Nat) (H230 : Heap) (locs230 : List Loc) (v229 : Int32) (z229 : Int) (ls : Array Slot), (36 - z229).toNat < n230 → v229.toInt = z229 → z229 ≤ 36 → 0 ≤ z229 → (sI H230 h0 (X.1.2 11 8)).toInt = 0 → Conf X Γ H230 → va_S (AΓ Γ) H0 H230 locs230 → Kp X Γ [1, 6, 8, 9, 11, 12, 14, 19, 22, 24, 26, 28] H0 H230 → (KD H0 H230 ca 0 0) → (KD H0 H230 ca 0 520) → (EQ H230 ca 2080 xx) → (EQ H230 ca 2081 yy) → lv_has ls 4 [(3, .int v229), (2, .int v46), (0, .ref h0), (1, .int p1)] → W p l e (rmL 5) s m args below meth c H230 locs230 0 0 Qz (F0 m 273 ls []) := by
                              intro n230
                              induction n230 with
                              | zero => intro H230 locs230 v229 z229 ls hm230 ev229 iv230_0 iv230_1 iv230_2 hC230 hS230 hKp230 kd kd2 n0 n1 hl; exact absurd hm230 (Nat.not_lt_zero _)
                              | succ n230 ih230 =>
                                intro H230 locs230 v229 z229 ls hm230 ev229 iv230_0 iv230_1 iv230_2 hC230 hS230 hKp230 kd kd2 n0 n1 hl
                                refine lv_iload_n hx hb dX12_yard_273 rfl (lv_at hl 0 rfl) ?_
                                refine lv_bipush (v := 36) hx hb dX12_yard_274 rfl ?_
                                refine q_icmp_ge hx hb (a := z229) (b := 36) ev229 (by decide) (tgt := 305) dX12_yard_276 rfl (fun c231 => ?_) (fun c231 => ?_)
                                · refine lv_iconst (v := 0) hx hb dX12_yard_305 rfl ?_
                                  refine lv_istore_n hx hb dX12_yard_306 rfl hl (by decide) rfl (fun ls hl => ?_)
                                  replace hl : lv_has ls 4 [(3, .int 0), (2, .int v46), (0, .ref h0), (1, .int p1)] := hl
                                  have L307 : ∀ (n233 : Nat) (H233 : Heap) (locs233 : List Loc) (v232 : Int32) (z232 : Int) (ls : Array Slot), (520 - z232).toNat < n233 → v232.toInt = z232 → z232 ≤ 520 → 0 ≤ z232 → CPd H233 ca 2080 0 z232 → (sI H233 h0 (X.1.2 11 8)).toInt = 0 → Conf X Γ H233 → va_S (AΓ Γ) H0 H233 locs233 → Kp X Γ [1, 6, 8, 9, 11, 12, 14, 19, 22, 24, 26, 28] H0 H233 → (KD H0 H233 ca 0 520) → (EQ H233 ca 2080 xx) → (EQ H233 ca 2081 yy) → lv_has ls 4 [(3, .int v232), (2, .int v46), (0, .ref h0), (1, .int p1)] → W p l e (rmL 5) s m args below meth c H233 locs233 0 0 Qz (F0 m 307 ls []) := by
                                    intro n233
                                    induction n233 with
                                    | zero => intro H233 locs233 v232 z232 ls hm233 ev232 iv233_0 iv233_1 iv233_2 iv233_3 hC233 hS233 hKp233 kd2 n0 n1 hl; exact absurd hm233 (Nat.not_lt_zero _)
                                    | succ n233 ih233 =>
                                      intro H233 locs233 v232 z232 ls hm233 ev232 iv233_0 iv233_1 iv233_2 iv233_3 hC233 hS233 hKp233 kd2 n0 n1 hl
                                      have cpd := iv233_2
                                      refine lv_iload_n hx hb dX12_yard_307 rfl (lv_at hl 0 rfl) ?_
                                      refine lv_sipush (v := 520) hx hb dX12_yard_308 rfl ?_
                                      refine q_icmp_ge hx hb (a := z232) (b := 520) ev232 (by decide) (tgt := 336) dX12_yard_311 rfl (fun c234 => ?_) (fun c234 => ?_)
                                      · refine lv_aload_n hx hb dX12_yard_336 rfl (lv_at hl 2 rfl) ?_
                                        refine q_getC E hC233 g0 fa_RX12_35 uc dX12_yard_337 ?_
                                        refine lv_iconst (v := 0) hx hb dX12_yard_340 rfl ?_
                                        refine q_cald E hC233 (lo := 0) (hi := 6) gca (a := 0) (show (0 : Int32).toInt = 0 from by decide) (by omega) (by omega) (cr_c0 (by omega) (by omega)) dX12_yard_341 (fun v235 ev235 lv235 uv235 => ?_)
                                        have m236 : (sI H233 ca (0 : Int).toNat).toInt = v235.toInt := congrArg Int32.toInt ev235
                                        refine lv_aload_n hx hb dX12_yard_342 rfl (lv_at hl 2 rfl) ?_
                                        refine q_getC E hC233 g0 fa_RX12_35 uc dX12_yard_343 ?_
                                        refine lv_iconst (v := 1) hx hb dX12_yard_346 rfl ?_
                                        refine q_cald E hC233 (lo := 0) (hi := 6) gca (a := 1) (show (1 : Int32).toInt = 1 from by decide) (by omega) (by omega) (cr_c0 (by omega) (by omega)) dX12_yard_347 (fun v237 ev237 lv237 uv237 => ?_)
                                        have m238 : (sI H233 ca (1 : Int).toNat).toInt = v237.toInt := congrArg Int32.toInt ev237
                                        refine lv_imul hx hb dX12_yard_348 (lv_topi (fun v239 ev239 => ?_))
                                        have hpost : KD H0 H233 ca 0 0 ∨ (KD H0 H233 ca 0 520 ∧ YI H233 ca) := Or.inr ⟨kd2, YI.mk hC233 gca cpd (by omega) n0 n1 hxy⟩
                                        have c240 : v239.toInt = v239.toInt := rfl
                                        exact ret v239 H233 locs233 _ _ dX12_yard_349 ⟨hKp233, ⟨hpost, by omega⟩⟩ hC233 hS233
                                      · refine lv_aload_n hx hb dX12_yard_314 rfl (lv_at hl 2 rfl) ?_
                                        refine q_getC E hC233 g0 fa_RX12_35 uc dX12_yard_315 ?_
                                        refine lv_iload_n hx hb dX12_yard_318 rfl (lv_at hl 0 rfl) ?_
                                        refine lv_aload_n hx hb dX12_yard_319 rfl (lv_at hl 2 rfl) ?_
                                        refine q_getC E hC233 g0 fa_RX12_35 uc dX12_yard_320 ?_
                                        refine lv_sipush (v := 2080) hx hb dX12_yard_323 rfl ?_
                                        refine lv_iload_n hx hb dX12_yard_326 rfl (lv_at hl 0 rfl) ?_
                                        refine lv_iadd hx hb dX12_yard_327 (lv_topi (fun v241 ev241 => ?_))
                                        have ev241i : v241.toInt = (2080 + z232) := i_add ev241 (by decide) ev232 (by omega) (by omega)
                                        refine q_craw E hC233 gca (a := (2080 + z232)) ev241i (by omega) (by omega) dX12_yard_328 (fun v242 ev242 tv242 => ?_)
                                        refine q_cast E hC233 hS233 gca (a := z232) ev232 (by omega) (by omega) (cT_nb (k := z232) rfl rfl (by omega) (by omega) tv242) dX12_yard_329 (fun H243 locs243 hC243 hS243 U243 => ?_)
                                        have hKp243 := Kp.upD gca rfl rfl (fun _ => ⟨fun h => absurd h (by decide), fun h => absurd h (by decide), fun h => absurd h (by decide)⟩) U243 hKp233
                                        replace kd2 : KD H0 H243 ca 0 520 := KD.up kd2 U243 (by omega) (by omega)
                                        replace n0 : EQ H243 ca 2080 xx := EQ.up n0 U243 ⟨by omega, by omega⟩ (by omega)
                                        replace n1 : EQ H243 ca 2081 yy := EQ.up n1 U243 ⟨by omega, by omega⟩ (by omega)
                                        have m244 : (sI H243 h0 (X.1.2 11 12)).toInt = (sI H233 h0 (X.1.2 11 12)).toInt := congrArg Int32.toInt (up_nI U243 (ne_k g0 gca (by decide)))
                                        have m245 : (sI H243 h0 (X.1.2 11 14)).toInt = (sI H233 h0 (X.1.2 11 14)).toInt := congrArg Int32.toInt (up_nI U243 (ne_k g0 gca (by decide)))
                                        have m246 := congrArg tk m245
                                        have m247 : (sI H243 h0 (X.1.2 11 16)).toInt = (sI H233 h0 (X.1.2 11 16)).toInt := congrArg Int32.toInt (up_nI U243 (ne_k g0 gca (by decide)))
                                        have m248 : (sI H243 h0 (X.1.2 11 8)).toInt = (sI H233 h0 (X.1.2 11 8)).toInt := congrArg Int32.toInt (up_nI U243 (ne_k g0 gca (by decide)))
                                        have cpd : CPd H243 ca 2080 0 (z232 + 1) := CPd.step cpd (a := z232) (by omega) U243 ev242 (by omega) (by omega) (by omega)
                                        have e249 := up_I U243
                                        obtain ⟨v250, ev250⟩ : ∃ z, z = v232 + Int32.ofInt 1 := ⟨_, rfl⟩
                                        have ev250i : v250.toInt = (z232 + 1) := i_add ev250 ev232 (by decide) (by omega) (by omega)
                                        refine lv_iinc hx hb dX12_yard_330 hl (k := 0) rfl ev250.symm (by decide) rfl (fun ls hl => ?_)
                                        replace hl : lv_has ls 4 [(3, .int v250), (2, .int v46), (0, .ref h0), (1, .int p1)] := hl
                                        refine lv_goto (tgt := 307) hx hb dX12_yard_333 rfl ?_
                                        exact ih233 H243 locs243 v250 ((z232 + 1)) ls (by omega) ev250i (by omega) (by omega) (cpd) (by omega) hC243 hS243 hKp243 kd2 n0 n1 hl
                                  exact L307 _ H230 locs230 0 0 ls (Nat.lt_succ_self _) (by decide) (by omega) (by omega) (CPd.nil (by omega)) (by omega) hC230 hS230 hKp230 kd2 n0 n1 hl
                                · refine lv_aload_n hx hb dX12_yard_279 rfl (lv_at hl 2 rfl) ?_
                                  refine q_getC E hC230 g0 fa_RX12_35 uc dX12_yard_280 ?_
                                  refine lv_sipush (v := 2214) hx hb dX12_yard_283 rfl ?_
                                  refine lv_iload_n hx hb dX12_yard_286 rfl (lv_at hl 0 rfl) ?_
                                  refine lv_iadd hx hb dX12_yard_287 (lv_topi (fun v251 ev251 => ?_))
                                  have ev251i : v251.toInt = (2214 + z229) := i_add ev251 (by decide) ev229 (by omega) (by omega)
                                  refine lv_aload_n hx hb dX12_yard_288 rfl (lv_at hl 2 rfl) ?_
                                  refine q_getC E hC230 g0 fa_RX12_35 uc dX12_yard_289 ?_
                                  refine lv_sipush (v := 2142) hx hb dX12_yard_292 rfl ?_
                                  refine lv_iload_n hx hb dX12_yard_295 rfl (lv_at hl 0 rfl) ?_
                                  refine lv_iadd hx hb dX12_yard_296 (lv_topi (fun v252 ev252 => ?_))
                                  have ev252i : v252.toInt = (2142 + z229) := i_add ev252 (by decide) ev229 (by omega) (by omega)
                                  refine q_cald E hC230 (lo := 0) (hi := 99) gca (a := (2142 + z229)) ev252i (by omega) (by omega) (cr_n26 (by omega) (by omega)) dX12_yard_297 (fun v253 ev253 lv253 uv253 => ?_)
                                  have m254 : (sI H230 ca ((2142 + z229) : Int).toNat).toInt = v253.toInt := congrArg Int32.toInt ev253
                                  refine q_cast E hC230 hS230 gca (a := (2214 + z229)) ev251i (by omega) (by omega) (cs_n134 (a := (2214 + z229)) (by omega) (by omega)) dX12_yard_298 (fun H255 locs255 hC255 hS255 U255 => ?_)
                                  have hKp255 := Kp.upD gca rfl rfl (fun _ => ⟨fun h => absurd h (by decide), fun h => absurd h (by decide), fun h => absurd h (by decide)⟩) U255 hKp230
                                  replace kd : KD H0 H255 ca 0 0 := KD.up kd U255 (by omega) (by omega)
                                  replace kd2 : KD H0 H255 ca 0 520 := KD.up kd2 U255 (by omega) (by omega)
                                  replace n0 : EQ H255 ca 2080 xx := EQ.up n0 U255 ⟨by omega, by omega⟩ (by omega)
                                  replace n1 : EQ H255 ca 2081 yy := EQ.up n1 U255 ⟨by omega, by omega⟩ (by omega)
                                  have m256 : (sI H255 h0 (X.1.2 11 12)).toInt = (sI H230 h0 (X.1.2 11 12)).toInt := congrArg Int32.toInt (up_nI U255 (ne_k g0 gca (by decide)))
                                  have m257 : (sI H255 h0 (X.1.2 11 14)).toInt = (sI H230 h0 (X.1.2 11 14)).toInt := congrArg Int32.toInt (up_nI U255 (ne_k g0 gca (by decide)))
                                  have m258 := congrArg tk m257
                                  have m259 : (sI H255 h0 (X.1.2 11 16)).toInt = (sI H230 h0 (X.1.2 11 16)).toInt := congrArg Int32.toInt (up_nI U255 (ne_k g0 gca (by decide)))
                                  have m260 : (sI H255 h0 (X.1.2 11 8)).toInt = (sI H230 h0 (X.1.2 11 8)).toInt := congrArg Int32.toInt (up_nI U255 (ne_k g0 gca (by decide)))
                                  have e261 := up_I U255
                                  obtain ⟨v262, ev262⟩ : ∃ z, z = v229 + Int32.ofInt 1 := ⟨_, rfl⟩
                                  have ev262i : v262.toInt = (z229 + 1) := i_add ev262 ev229 (by decide) (by omega) (by omega)
                                  refine lv_iinc hx hb dX12_yard_299 hl (k := 0) rfl ev262.symm (by decide) rfl (fun ls hl => ?_)
                                  replace hl : lv_has ls 4 [(3, .int v262), (2, .int v46), (0, .ref h0), (1, .int p1)] := hl
                                  refine lv_goto (tgt := 273) hx hb dX12_yard_302 rfl ?_
                                  exact ih230 H255 locs255 v262 ((z229 + 1)) ls (by omega) ev262i (by omega) (by omega) (by omega) hC255 hS255 hKp255 kd kd2 n0 n1 hl
                            exact L273 _ H226 locs226 0 0 ls (Nat.lt_succ_self _) (by decide) (by omega) (by omega) (by omega) hC226 hS226 hKp226 kd kd2 n0 n1 hl
                          · refine q_if_ne hx hb (a := 0) (by decide) (tgt := 271) dX12_yard_266 rfl (fun c263 => absurd c263 (by omega)) (fun c263 => ?_)
                            refine lv_iconst (v := (-1)) hx hb dX12_yard_269 rfl ?_
                            have hpost : KD H0 H226 ca 0 0 ∨ (KD H0 H226 ca 0 520 ∧ YI H226 ca) := Or.inl kd
                            have c264 : ((-1) : Int32).toInt = (-1) := (by decide)
                            exact ret (-1) H226 locs226 _ _ dX12_yard_270 ⟨hKp226, ⟨hpost, by omega⟩⟩ hC226 hS226
                        · refine lv_aload_n hx hb dX12_yard_165 rfl (lv_at hl 1 rfl) ?_
                          refine q_getI E hC222 g0 fa_RX12_120 dX12_yard_166 (fun v265 ev265 _ _ => ?_)
                          have m266 : (sI H222 h0 (X.1.2 11 14)).toInt = v265.toInt := (congrArg Int32.toInt ev265).trans rfl
                          refine q_if_eq hx hb (a := v265.toInt) rfl (tgt := 262) dX12_yard_169 rfl (fun c267 => ?_) (fun c267 => ?_)
                          · refine lv_aload_n hx hb dX12_yard_262 rfl (lv_at hl 1 rfl) ?_
                            refine q_goI (q_runV (As := []) (rest := []) E hC222 hS222 (m_X12_isWell l X Γ H222 hC222 h0 g0 ca gca uc) cw_X12_isWell cl_RX12_267 g0 ⟨rfl, rfl⟩ rfl hl.1 rfl (Nat.zero_le _) (by decide) dX12_yard_263) hS222 (fun v268 H268 locs268 hr268 hC268 hS268 => ?_)
                            obtain ⟨hp268, hr268⟩ := hr268
                            have hKp268 := hKp222.tr (hp268.mono rfl)
                            replace kd : KD H0 H268 ca 0 0 := KD.kp kd hp268 gca rfl rfl
                            replace kd2 : KD H0 H268 ca 0 520 := KD.kp kd2 hp268 gca rfl rfl
                            replace n0 : EQ H268 ca 2080 xx := EQ.kn n0 hp268 gca rfl (by unfold dpn; omega)
                            replace n1 : EQ H268 ca 2081 yy := EQ.kn n1 hp268 gca rfl (by unfold dpn; omega)
                            have m269 : (sI H268 h0 (X.1.2 11 8)).toInt = (sI H222 h0 (X.1.2 11 8)).toInt := congrArg Int32.toInt (kp_I hp268 g0 (k := 8) rfl (by decide) rfl)
                            rcases hr268 with ⟨rfl, f268a⟩ | ⟨rfl, -⟩
                            · refine q_if_ne hx hb (a := 1) (by decide) (tgt := 271) dX12_yard_266 rfl (fun c270 => ?_) (fun c270 => absurd c270 (by omega))
                              have hxy : 2 ≤ xx ∧ 1 ≤ yy := by omega
                              refine lv_iconst (v := 0) hx hb dX12_yard_271 rfl ?_
                              refine lv_istore_n hx hb dX12_yard_272 rfl hl (by decide) rfl (fun ls hl => ?_)
                              replace hl : lv_has ls 4 [(3, .int 0), (2, .int v46), (0, .ref h0), (1, .int p1)] := hl
                              have L273 : ∀ (n272 : Nat) (H272 : Heap) (locs272 : List Loc) (v271 : Int32) (z271 : Int) (ls : Array Slot), (36 - z271).toNat < n272 → v271.toInt = z271 → z271 ≤ 36 → 0 ≤ z271 → (sI H272 h0 (X.1.2 11 8)).toInt = 0 → Conf X Γ H272 → va_S (AΓ Γ) H0 H272 locs272 → Kp X Γ [1, 6, 8, 9, 11, 12, 14, 19, 22, 24, 26, 28] H0 H272 → (KD H0 H272 ca 0 0) → (KD H0 H272 ca 0 520) → (EQ H272 ca 2080 xx) → (EQ H272 ca 2081 yy) → lv_has ls 4 [(3, .int v271), (2, .int v46), (0, .ref h0), (1, .int p1)] → W p l e (rmL 5) s m args below meth c H272 locs272 0 0 Qz (F0 m 273 ls []) := by
                                intro n272
                                induction n272 with
                                | zero => intro H272 locs272 v271 z271 ls hm272 ev271 iv272_0 iv272_1 iv272_2 hC272 hS272 hKp272 kd kd2 n0 n1 hl; exact absurd hm272 (Nat.not_lt_zero _)
                                | succ n272 ih272 =>
                                  intro H272 locs272 v271 z271 ls hm272 ev271 iv272_0 iv272_1 iv272_2 hC272 hS272 hKp272 kd kd2 n0 n1 hl
                                  refine lv_iload_n hx hb dX12_yard_273 rfl (lv_at hl 0 rfl) ?_
                                  refine lv_bipush (v := 36) hx hb dX12_yard_274 rfl ?_
                                  refine q_icmp_ge hx hb (a := z271) (b := 36) ev271 (by decide) (tgt := 305) dX12_yard_276 rfl (fun c273 => ?_) (fun c273 => ?_)
                                  · refine lv_iconst (v := 0) hx hb dX12_yard_305 rfl ?_
                                    refine lv_istore_n hx hb dX12_yard_306 rfl hl (by decide) rfl (fun ls hl => ?_)
                                    replace hl : lv_has ls 4 [(3, .int 0), (2, .int v46), (0, .ref h0), (1, .int p1)] := hl
                                    have L307 : ∀ (n275 : Nat) (H275 : Heap) (locs275 : List Loc) (v274 : Int32) (z274 : Int) (ls : Array Slot), (520 - z274).toNat < n275 → v274.toInt = z274 → z274 ≤ 520 → 0 ≤ z274 → CPd H275 ca 2080 0 z274 → (sI H275 h0 (X.1.2 11 8)).toInt = 0 → Conf X Γ H275 → va_S (AΓ Γ) H0 H275 locs275 → Kp X Γ [1, 6, 8, 9, 11, 12, 14, 19, 22, 24, 26, 28] H0 H275 → (KD H0 H275 ca 0 520) → (EQ H275 ca 2080 xx) → (EQ H275 ca 2081 yy) → lv_has ls 4 [(3, .int v274), (2, .int v46), (0, .ref h0), (1, .int p1)] → W p l e (rmL 5) s m args below meth c H275 locs275 0 0 Qz (F0 m 307 ls []) := by
                                      intro n275
                                      induction n275 with
                                      | zero => intro H275 locs275 v274 z274 ls hm275 ev274 iv275_0 iv275_1 iv275_2 iv275_3 hC275 hS275 hKp275 kd2 n0 n1 hl; exact absurd hm275 (Nat.not_lt_zero _)
                                      | succ n275 ih275 =>
                                        intro H275 locs275 v274 z274 ls hm275 ev274 iv275_0 iv275_1 iv275_2 iv275_3 hC275 hS275 hKp275 kd2 n0 n1 hl
                                        have cpd := iv275_2
                                        refine lv_iload_n hx hb dX12_yard_307 rfl (lv_at hl 0 rfl) ?_
                                        refine lv_sipush (v := 520) hx hb dX12_yard_308 rfl ?_
                                        refine q_icmp_ge hx hb (a := z274) (b := 520) ev274 (by decide) (tgt := 336) dX12_yard_311 rfl (fun c276 => ?_) (fun c276 => ?_)
                                        · refine lv_aload_n hx hb dX12_yard_336 rfl (lv_at hl 2 rfl) ?_
                                          refine q_getC E hC275 g0 fa_RX12_35 uc dX12_yard_337 ?_
                                          refine lv_iconst (v := 0) hx hb dX12_yard_340 rfl ?_
                                          refine q_cald E hC275 (lo := 0) (hi := 6) gca (a := 0) (show (0 : Int32).toInt = 0 from by decide) (by omega) (by omega) (cr_c0 (by omega) (by omega)) dX12_yard_341 (fun v277 ev277 lv277 uv277 => ?_)
                                          have m278 : (sI H275 ca (0 : Int).toNat).toInt = v277.toInt := congrArg Int32.toInt ev277
                                          refine lv_aload_n hx hb dX12_yard_342 rfl (lv_at hl 2 rfl) ?_
                                          refine q_getC E hC275 g0 fa_RX12_35 uc dX12_yard_343 ?_
                                          refine lv_iconst (v := 1) hx hb dX12_yard_346 rfl ?_
                                          refine q_cald E hC275 (lo := 0) (hi := 6) gca (a := 1) (show (1 : Int32).toInt = 1 from by decide) (by omega) (by omega) (cr_c0 (by omega) (by omega)) dX12_yard_347 (fun v279 ev279 lv279 uv279 => ?_)
                                          have m280 : (sI H275 ca (1 : Int).toNat).toInt = v279.toInt := congrArg Int32.toInt ev279
                                          refine lv_imul hx hb dX12_yard_348 (lv_topi (fun v281 ev281 => ?_))
                                          have hpost : KD H0 H275 ca 0 0 ∨ (KD H0 H275 ca 0 520 ∧ YI H275 ca) := Or.inr ⟨kd2, YI.mk hC275 gca cpd (by omega) n0 n1 hxy⟩
                                          have c282 : v281.toInt = v281.toInt := rfl
                                          exact ret v281 H275 locs275 _ _ dX12_yard_349 ⟨hKp275, ⟨hpost, by omega⟩⟩ hC275 hS275
                                        · refine lv_aload_n hx hb dX12_yard_314 rfl (lv_at hl 2 rfl) ?_
                                          refine q_getC E hC275 g0 fa_RX12_35 uc dX12_yard_315 ?_
                                          refine lv_iload_n hx hb dX12_yard_318 rfl (lv_at hl 0 rfl) ?_
                                          refine lv_aload_n hx hb dX12_yard_319 rfl (lv_at hl 2 rfl) ?_
                                          refine q_getC E hC275 g0 fa_RX12_35 uc dX12_yard_320 ?_
                                          refine lv_sipush (v := 2080) hx hb dX12_yard_323 rfl ?_
                                          refine lv_iload_n hx hb dX12_yard_326 rfl (lv_at hl 0 rfl) ?_
                                          refine lv_iadd hx hb dX12_yard_327 (lv_topi (fun v283 ev283 => ?_))
                                          have ev283i : v283.toInt = (2080 + z274) := i_add ev283 (by decide) ev274 (by omega) (by omega)
                                          refine q_craw E hC275 gca (a := (2080 + z274)) ev283i (by omega) (by omega) dX12_yard_328 (fun v284 ev284 tv284 => ?_)
                                          refine q_cast E hC275 hS275 gca (a := z274) ev274 (by omega) (by omega) (cT_nb (k := z274) rfl rfl (by omega) (by omega) tv284) dX12_yard_329 (fun H285 locs285 hC285 hS285 U285 => ?_)
                                          have hKp285 := Kp.upD gca rfl rfl (fun _ => ⟨fun h => absurd h (by decide), fun h => absurd h (by decide), fun h => absurd h (by decide)⟩) U285 hKp275
                                          replace kd2 : KD H0 H285 ca 0 520 := KD.up kd2 U285 (by omega) (by omega)
                                          replace n0 : EQ H285 ca 2080 xx := EQ.up n0 U285 ⟨by omega, by omega⟩ (by omega)
                                          replace n1 : EQ H285 ca 2081 yy := EQ.up n1 U285 ⟨by omega, by omega⟩ (by omega)
                                          have m286 : (sI H285 h0 (X.1.2 11 12)).toInt = (sI H275 h0 (X.1.2 11 12)).toInt := congrArg Int32.toInt (up_nI U285 (ne_k g0 gca (by decide)))
                                          have m287 : (sI H285 h0 (X.1.2 11 14)).toInt = (sI H275 h0 (X.1.2 11 14)).toInt := congrArg Int32.toInt (up_nI U285 (ne_k g0 gca (by decide)))
                                          have m288 := congrArg tk m287
                                          have m289 : (sI H285 h0 (X.1.2 11 16)).toInt = (sI H275 h0 (X.1.2 11 16)).toInt := congrArg Int32.toInt (up_nI U285 (ne_k g0 gca (by decide)))
                                          have m290 : (sI H285 h0 (X.1.2 11 8)).toInt = (sI H275 h0 (X.1.2 11 8)).toInt := congrArg Int32.toInt (up_nI U285 (ne_k g0 gca (by decide)))
                                          have cpd : CPd H285 ca 2080 0 (z274 + 1) := CPd.step cpd (a := z274) (by omega) U285 ev284 (by omega) (by omega) (by omega)
                                          have e291 := up_I U285
                                          obtain ⟨v292, ev292⟩ : ∃ z, z = v274 + Int32.ofInt 1 := ⟨_, rfl⟩
                                          have ev292i : v292.toInt = (z274 + 1) := i_add ev292 ev274 (by decide) (by omega) (by omega)
                                          refine lv_iinc hx hb dX12_yard_330 hl (k := 0) rfl ev292.symm (by decide) rfl (fun ls hl => ?_)
                                          replace hl : lv_has ls 4 [(3, .int v292), (2, .int v46), (0, .ref h0), (1, .int p1)] := hl
                                          refine lv_goto (tgt := 307) hx hb dX12_yard_333 rfl ?_
                                          exact ih275 H285 locs285 v292 ((z274 + 1)) ls (by omega) ev292i (by omega) (by omega) (cpd) (by omega) hC285 hS285 hKp285 kd2 n0 n1 hl
                                    exact L307 _ H272 locs272 0 0 ls (Nat.lt_succ_self _) (by decide) (by omega) (by omega) (CPd.nil (by omega)) (by omega) hC272 hS272 hKp272 kd2 n0 n1 hl
                                  · refine lv_aload_n hx hb dX12_yard_279 rfl (lv_at hl 2 rfl) ?_
                                    refine q_getC E hC272 g0 fa_RX12_35 uc dX12_yard_280 ?_
                                    refine lv_sipush (v := 2214) hx hb dX12_yard_283 rfl ?_
                                    refine lv_iload_n hx hb dX12_yard_286 rfl (lv_at hl 0 rfl) ?_
                                    refine lv_iadd hx hb dX12_yard_287 (lv_topi (fun v293 ev293 => ?_))
                                    have ev293i : v293.toInt = (2214 + z271) := i_add ev293 (by decide) ev271 (by omega) (by omega)
                                    refine lv_aload_n hx hb dX12_yard_288 rfl (lv_at hl 2 rfl) ?_
                                    refine q_getC E hC272 g0 fa_RX12_35 uc dX12_yard_289 ?_
                                    refine lv_sipush (v := 2142) hx hb dX12_yard_292 rfl ?_
                                    refine lv_iload_n hx hb dX12_yard_295 rfl (lv_at hl 0 rfl) ?_
                                    refine lv_iadd hx hb dX12_yard_296 (lv_topi (fun v294 ev294 => ?_))
                                    have ev294i : v294.toInt = (2142 + z271) := i_add ev294 (by decide) ev271 (by omega) (by omega)
                                    refine q_cald E hC272 (lo := 0) (hi := 99) gca (a := (2142 + z271)) ev294i (by omega) (by omega) (cr_n26 (by omega) (by omega)) dX12_yard_297 (fun v295 ev295 lv295 uv295 => ?_)
                                    have m296 : (sI H272 ca ((2142 + z271) : Int).toNat).toInt = v295.toInt := congrArg Int32.toInt ev295
                                    refine q_cast E hC272 hS272 gca (a := (2214 + z271)) ev293i (by omega) (by omega) (cs_n134 (a := (2214 + z271)) (by omega) (by omega)) dX12_yard_298 (fun H297 locs297 hC297 hS297 U297 => ?_)
                                    have hKp297 := Kp.upD gca rfl rfl (fun _ => ⟨fun h => absurd h (by decide), fun h => absurd h (by decide), fun h => absurd h (by decide)⟩) U297 hKp272
                                    replace kd : KD H0 H297 ca 0 0 := KD.up kd U297 (by omega) (by omega)
                                    replace kd2 : KD H0 H297 ca 0 520 := KD.up kd2 U297 (by omega) (by omega)
                                    replace n0 : EQ H297 ca 2080 xx := EQ.up n0 U297 ⟨by omega, by omega⟩ (by omega)
                                    replace n1 : EQ H297 ca 2081 yy := EQ.up n1 U297 ⟨by omega, by omega⟩ (by omega)
                                    have m298 : (sI H297 h0 (X.1.2 11 12)).toInt = (sI H272 h0 (X.1.2 11 12)).toInt := congrArg Int32.toInt (up_nI U297 (ne_k g0 gca (by decide)))
                                    have m299 : (sI H297 h0 (X.1.2 11 14)).toInt = (sI H272 h0 (X.1.2 11 14)).toInt := congrArg Int32.toInt (up_nI U297 (ne_k g0 gca (by decide)))
                                    have m300 := congrArg tk m299
                                    have m301 : (sI H297 h0 (X.1.2 11 16)).toInt = (sI H272 h0 (X.1.2 11 16)).toInt := congrArg Int32.toInt (up_nI U297 (ne_k g0 gca (by decide)))
                                    have m302 : (sI H297 h0 (X.1.2 11 8)).toInt = (sI H272 h0 (X.1.2 11 8)).toInt := congrArg Int32.toInt (up_nI U297 (ne_k g0 gca (by decide)))
                                    have e303 := up_I U297
                                    obtain ⟨v304, ev304⟩ : ∃ z, z = v271 + Int32.ofInt 1 := ⟨_, rfl⟩
                                    have ev304i : v304.toInt = (z271 + 1) := i_add ev304 ev271 (by decide) (by omega) (by omega)
                                    refine lv_iinc hx hb dX12_yard_299 hl (k := 0) rfl ev304.symm (by decide) rfl (fun ls hl => ?_)
                                    replace hl : lv_has ls 4 [(3, .int v304), (2, .int v46), (0, .ref h0), (1, .int p1)] := hl
                                    refine lv_goto (tgt := 273) hx hb dX12_yard_302 rfl ?_
                                    exact ih272 H297 locs297 v304 ((z271 + 1)) ls (by omega) ev304i (by omega) (by omega) (by omega) hC297 hS297 hKp297 kd kd2 n0 n1 hl
                              exact L273 _ H268 locs268 0 0 ls (Nat.lt_succ_self _) (by decide) (by omega) (by omega) (by omega) hC268 hS268 hKp268 kd kd2 n0 n1 hl
                            · refine q_if_ne hx hb (a := 0) (by decide) (tgt := 271) dX12_yard_266 rfl (fun c305 => absurd c305 (by omega)) (fun c305 => ?_)
                              refine lv_iconst (v := (-1)) hx hb dX12_yard_269 rfl ?_
                              have hpost : KD H0 H268 ca 0 0 ∨ (KD H0 H268 ca 0 520 ∧ YI H268 ca) := Or.inl kd
                              have c306 : ((-1) : Int32).toInt = (-1) := (by decide)
                              exact ret (-1) H268 locs268 _ _ dX12_yard_270 ⟨hKp268, ⟨hpost, by omega⟩⟩ hC268 hS268
                          · refine lv_aload_n hx hb dX12_yard_172 rfl (lv_at hl 1 rfl) ?_
                            refine q_goIp (q_runV (As := []) (rest := []) E hC222 hS222 (m_X12_isSchool l X Γ H222 hC222 h0 g0 ca gca uc) cw_X12_isSchool cl_RX12_172 g0 ⟨rfl, rfl⟩ rfl hl.1 rfl (Nat.zero_le _) (by decide) dX12_yard_173) hS222 (fun v307 locs307 hr307 hS307 => ?_)
                            rcases hr307 with rfl | rfl
                            · refine q_if_eq hx hb (a := 0) (by decide) (tgt := 186) dX12_yard_176 rfl (fun c308 => ?_) (fun c308 => absurd c308 (by omega))
                              refine lv_aload_n hx hb dX12_yard_186 rfl (lv_at hl 1 rfl) ?_
                              refine q_goIp (q_runV (As := []) (rest := []) E hC222 hS307 (m_X12_isSnow l X Γ H222 hC222 h0 g0 ca gca uc) cw_X12_isSnow cl_RX12_178 g0 ⟨rfl, rfl⟩ rfl hl.1 rfl (Nat.zero_le _) (by decide) dX12_yard_187) hS307 (fun v309 locs309 hr309 hS309 => ?_)
                              rcases hr309 with rfl | rfl
                              · refine q_if_eq hx hb (a := 0) (by decide) (tgt := 201) dX12_yard_190 rfl (fun c310 => ?_) (fun c310 => absurd c310 (by omega))
                                refine lv_aload_n hx hb dX12_yard_201 rfl (lv_at hl 1 rfl) ?_
                                refine q_goIp (q_runV (As := []) (rest := []) E hC222 hS309 (m_X12_isWall l X Γ H222 hC222 h0 g0 ca gca uc) cw_X12_isWall cl_RX12_163 g0 ⟨rfl, rfl⟩ rfl hl.1 rfl (Nat.zero_le _) (by decide) dX12_yard_202) hS309 (fun v311 locs311 hr311 hS311 => ?_)
                                rcases hr311 with rfl | rfl
                                · refine q_if_eq hx hb (a := 0) (by decide) (tgt := 216) dX12_yard_205 rfl (fun c312 => ?_) (fun c312 => absurd c312 (by omega))
                                  refine lv_aload_n hx hb dX12_yard_216 rfl (lv_at hl 1 rfl) ?_
                                  refine q_goIp (q_runV (As := []) (rest := []) E hC222 hS311 (m_X12_isSun l X Γ H222 hC222 h0 g0 ca gca uc) cw_X12_isSun cl_RX12_187 g0 ⟨rfl, rfl⟩ rfl hl.1 rfl (Nat.zero_le _) (by decide) dX12_yard_217) hS311 (fun v313 locs313 hr313 hS313 => ?_)
                                  rcases hr313 with rfl | rfl
                                  · refine q_if_eq hx hb (a := 0) (by decide) (tgt := 231) dX12_yard_220 rfl (fun c314 => ?_) (fun c314 => absurd c314 (by omega))
                                    refine lv_aload_n hx hb dX12_yard_231 rfl (lv_at hl 1 rfl) ?_
                                    refine q_goIp (q_runV (As := []) (rest := []) E hC222 hS313 (m_X12_isNo l X Γ H222 hC222 h0 g0 ca gca uc) cw_X12_isNo cl_RX12_193 g0 ⟨rfl, rfl⟩ rfl hl.1 rfl (Nat.zero_le _) (by decide) dX12_yard_232) hS313 (fun v315 locs315 hr315 hS315 => ?_)
                                    rcases hr315 with rfl | rfl
                                    · refine q_if_eq hx hb (a := 0) (by decide) (tgt := 245) dX12_yard_235 rfl (fun c316 => ?_) (fun c316 => absurd c316 (by omega))
                                      refine lv_aload_n hx hb dX12_yard_245 rfl (lv_at hl 1 rfl) ?_
                                      refine q_goV (q_runV (As := []) (rest := []) E hC222 hS315 (m_X12_wrong l X Γ H222 hC222 h0 g0 ca gca uc) cw_X12_wrong cl_RX12_231 g0 ⟨rfl, rfl⟩ rfl hl.1 rfl (Nat.zero_le _) (by decide) dX12_yard_246) hS315 (fun H317 locs317 hr317 hC317 hS317 => ?_)
                                      obtain ⟨hp317, hr317⟩ := hr317
                                      have hKp317 := hKp222.tr (hp317.mono rfl)
                                      replace kd : KD H0 H317 ca 0 0 := KD.kp kd hp317 gca rfl rfl
                                      replace kd2 : KD H0 H317 ca 0 520 := KD.kp kd2 hp317 gca rfl rfl
                                      replace n0 : EQ H317 ca 2080 xx := EQ.kn n0 hp317 gca rfl (by unfold dpn; omega)
                                      replace n1 : EQ H317 ca 2081 yy := EQ.kn n1 hp317 gca rfl (by unfold dpn; omega)
                                      have m318 : (sI H317 h0 (X.1.2 11 8)).toInt = (sI H222 h0 (X.1.2 11 8)).toInt := congrArg Int32.toInt (kp_I hp317 g0 (k := 8) rfl (by decide) rfl)
                                      obtain ⟨f317_0, f317_1, f317_2, f317_3⟩ := hr317
                                      refine lv_aload_n hx hb dX12_yard_249 rfl (lv_at hl 1 rfl) ?_
                                      refine lv_aload_n hx hb dX12_yard_250 rfl (lv_at hl 1 rfl) ?_
                                      refine lv_bipush (v := 59) hx hb dX12_yard_251 rfl ?_
                                      have hz9 := tk_or (sI H317 h0 (X.1.2 11 14)).toInt
                                      refine q_goIp (q_runV (As := [.int 59]) (rest := [.ref h0]) E hC317 hS317 (m_X12_isSign l X Γ H317 hC317 h0 g0 59 (a1 := 59) (by decide) ca gca uc) cw_X12_isSign cl_RX12_255 g0 ⟨rfl, rfl⟩ rfl hl.1 rfl (show _ ≤ _ from by simp [Value.category]) (by decide) dX12_yard_253) hS317 (fun v319 locs319 hr319 hS319 => ?_)
                                      have b319 : (v319.toInt = 1 ∧ _) ∨ (v319.toInt = 0 ∧ _) := hr319.imp (fun h => ⟨by rw [h.1]; decide, h.2⟩) (fun h => ⟨by rw [h.1]; decide, h.2⟩)
                                      refine q_goV (q_runV (As := [.int v319]) (rest := []) E hC317 hS319 (m_X12_must l X Γ H317 hC317 h0 g0 v319 (a1 := v319.toInt) rfl ca gca uc (by omega) (by omega)) cw_X12_must cl_RX12_244 g0 ⟨rfl, rfl⟩ rfl hl.1 rfl (Nat.zero_le _) (by decide) dX12_yard_256) hS319 (fun H320 locs320 hr320 hC320 hS320 => ?_)
                                      obtain ⟨hp320, hr320⟩ := hr320
                                      have hKp320 := hKp317.tr (hp320.mono rfl)
                                      replace kd : KD H0 H320 ca 0 0 := KD.kp kd hp320 gca rfl rfl
                                      replace kd2 : KD H0 H320 ca 0 520 := KD.kp kd2 hp320 gca rfl rfl
                                      replace n0 : EQ H320 ca 2080 xx := EQ.kn n0 hp320 gca rfl (by unfold dpn; omega)
                                      replace n1 : EQ H320 ca 2081 yy := EQ.kn n1 hp320 gca rfl (by unfold dpn; omega)
                                      have m321 : (sI H320 h0 (X.1.2 11 8)).toInt = (sI H317 h0 (X.1.2 11 8)).toInt := congrArg Int32.toInt (kp_I hp320 g0 (k := 8) rfl (by decide) rfl)
                                      obtain ⟨f320_0, f320_1, f320_2, f320_3, f320_4⟩ := hr320
                                      refine lv_goto (tgt := 158) hx hb dX12_yard_259 rfl ?_
                                      exact ih222 H320 locs320 ls (by omega) (by omega) (by omega) hC320 hS320 hKp320 kd kd2 n0 n1 hl
                                    · refine q_if_eq hx hb (a := 1) (by decide) (tgt := 245) dX12_yard_235 rfl (fun c322 => absurd c322 (by omega)) (fun c322 => ?_)
                                      refine lv_aload_n hx hb dX12_yard_238 rfl (lv_at hl 1 rfl) ?_
                                      refine q_goV (q_runV (As := []) (rest := []) E hC222 hS315 (m_X12_readArticle l X Γ H222 hC222 h0 g0 ca gca uc) cw_X12_readArticle cl_RX12_264 g0 ⟨rfl, rfl⟩ rfl hl.1 rfl (Nat.zero_le _) (by decide) dX12_yard_239) hS315 (fun H323 locs323 hr323 hC323 hS323 => ?_)
                                      obtain ⟨hp323, hr323⟩ := hr323
                                      have hKp323 := hKp222.tr (hp323.mono rfl)
                                      replace kd : KD H0 H323 ca 0 0 := KD.kp kd hp323 gca rfl rfl
                                      replace kd2 : KD H0 H323 ca 0 520 := KD.kp kd2 hp323 gca rfl rfl
                                      replace n0 : EQ H323 ca 2080 xx := EQ.kn n0 hp323 gca rfl (by unfold dpn; omega)
                                      replace n1 : EQ H323 ca 2081 yy := EQ.kn n1 hp323 gca rfl (by unfold dpn; omega)
                                      have m324 : (sI H323 h0 (X.1.2 11 8)).toInt = (sI H222 h0 (X.1.2 11 8)).toInt := congrArg Int32.toInt (kp_I hp323 g0 (k := 8) rfl (by decide) rfl)
                                      obtain ⟨f323_0, f323_1, f323_2, f323_3⟩ := hr323
                                      refine lv_goto (tgt := 249) hx hb dX12_yard_242 rfl ?_
                                      refine lv_aload_n hx hb dX12_yard_249 rfl (lv_at hl 1 rfl) ?_
                                      refine lv_aload_n hx hb dX12_yard_250 rfl (lv_at hl 1 rfl) ?_
                                      refine lv_bipush (v := 59) hx hb dX12_yard_251 rfl ?_
                                      have hz9 := tk_or (sI H323 h0 (X.1.2 11 14)).toInt
                                      refine q_goIp (q_runV (As := [.int 59]) (rest := [.ref h0]) E hC323 hS323 (m_X12_isSign l X Γ H323 hC323 h0 g0 59 (a1 := 59) (by decide) ca gca uc) cw_X12_isSign cl_RX12_255 g0 ⟨rfl, rfl⟩ rfl hl.1 rfl (show _ ≤ _ from by simp [Value.category]) (by decide) dX12_yard_253) hS323 (fun v325 locs325 hr325 hS325 => ?_)
                                      have b325 : (v325.toInt = 1 ∧ _) ∨ (v325.toInt = 0 ∧ _) := hr325.imp (fun h => ⟨by rw [h.1]; decide, h.2⟩) (fun h => ⟨by rw [h.1]; decide, h.2⟩)
                                      refine q_goV (q_runV (As := [.int v325]) (rest := []) E hC323 hS325 (m_X12_must l X Γ H323 hC323 h0 g0 v325 (a1 := v325.toInt) rfl ca gca uc (by omega) (by omega)) cw_X12_must cl_RX12_244 g0 ⟨rfl, rfl⟩ rfl hl.1 rfl (Nat.zero_le _) (by decide) dX12_yard_256) hS325 (fun H326 locs326 hr326 hC326 hS326 => ?_)
                                      obtain ⟨hp326, hr326⟩ := hr326
                                      have hKp326 := hKp323.tr (hp326.mono rfl)
                                      replace kd : KD H0 H326 ca 0 0 := KD.kp kd hp326 gca rfl rfl
                                      replace kd2 : KD H0 H326 ca 0 520 := KD.kp kd2 hp326 gca rfl rfl
                                      replace n0 : EQ H326 ca 2080 xx := EQ.kn n0 hp326 gca rfl (by unfold dpn; omega)
                                      replace n1 : EQ H326 ca 2081 yy := EQ.kn n1 hp326 gca rfl (by unfold dpn; omega)
                                      have m327 : (sI H326 h0 (X.1.2 11 8)).toInt = (sI H323 h0 (X.1.2 11 8)).toInt := congrArg Int32.toInt (kp_I hp326 g0 (k := 8) rfl (by decide) rfl)
                                      obtain ⟨f326_0, f326_1, f326_2, f326_3, f326_4⟩ := hr326
                                      refine lv_goto (tgt := 158) hx hb dX12_yard_259 rfl ?_
                                      exact ih222 H326 locs326 ls (by omega) (by omega) (by omega) hC326 hS326 hKp326 kd kd2 n0 n1 hl
                                  · refine q_if_eq hx hb (a := 1) (by decide) (tgt := 231) dX12_yard_220 rfl (fun c328 => absurd c328 (by omega)) (fun c328 => ?_)
                                    refine lv_aload_n hx hb dX12_yard_223 rfl (lv_at hl 1 rfl) ?_
                                    refine lv_iconst (v := 2) hx hb dX12_yard_224 rfl ?_
                                    refine q_goV (q_runV (As := [.int 2]) (rest := []) E hC222 hS313 (m_X12_readCell l X Γ H222 hC222 h0 g0 2 (a1 := 2) (by decide) ca gca uc (by omega) (by omega)) cw_X12_readCell cl_RX12_261 g0 ⟨rfl, rfl⟩ rfl hl.1 rfl (Nat.zero_le _) (by decide) dX12_yard_225) hS313 (fun H329 locs329 hr329 hC329 hS329 => ?_)
                                    obtain ⟨hp329, hr329⟩ := hr329
                                    have hKp329 := hKp222.tr (hp329.mono rfl)
                                    replace kd : KD H0 H329 ca 0 0 := KD.kp kd hp329 gca rfl rfl
                                    replace kd2 : KD H0 H329 ca 0 520 := KD.kp kd2 hp329 gca rfl rfl
                                    replace n0 : EQ H329 ca 2080 xx := EQ.kn n0 hp329 gca rfl (by unfold dpn; omega)
                                    replace n1 : EQ H329 ca 2081 yy := EQ.kn n1 hp329 gca rfl (by unfold dpn; omega)
                                    have m330 : (sI H329 h0 (X.1.2 11 8)).toInt = (sI H222 h0 (X.1.2 11 8)).toInt := congrArg Int32.toInt (kp_I hp329 g0 (k := 8) rfl (by decide) rfl)
                                    obtain ⟨f329_0, f329_1, f329_2, f329_3⟩ := hr329
                                    refine lv_goto (tgt := 249) hx hb dX12_yard_228 rfl ?_
                                    refine lv_aload_n hx hb dX12_yard_249 rfl (lv_at hl 1 rfl) ?_
                                    refine lv_aload_n hx hb dX12_yard_250 rfl (lv_at hl 1 rfl) ?_
                                    refine lv_bipush (v := 59) hx hb dX12_yard_251 rfl ?_
                                    have hz9 := tk_or (sI H329 h0 (X.1.2 11 14)).toInt
                                    refine q_goIp (q_runV (As := [.int 59]) (rest := [.ref h0]) E hC329 hS329 (m_X12_isSign l X Γ H329 hC329 h0 g0 59 (a1 := 59) (by decide) ca gca uc) cw_X12_isSign cl_RX12_255 g0 ⟨rfl, rfl⟩ rfl hl.1 rfl (show _ ≤ _ from by simp [Value.category]) (by decide) dX12_yard_253) hS329 (fun v331 locs331 hr331 hS331 => ?_)
                                    have b331 : (v331.toInt = 1 ∧ _) ∨ (v331.toInt = 0 ∧ _) := hr331.imp (fun h => ⟨by rw [h.1]; decide, h.2⟩) (fun h => ⟨by rw [h.1]; decide, h.2⟩)
                                    refine q_goV (q_runV (As := [.int v331]) (rest := []) E hC329 hS331 (m_X12_must l X Γ H329 hC329 h0 g0 v331 (a1 := v331.toInt) rfl ca gca uc (by omega) (by omega)) cw_X12_must cl_RX12_244 g0 ⟨rfl, rfl⟩ rfl hl.1 rfl (Nat.zero_le _) (by decide) dX12_yard_256) hS331 (fun H332 locs332 hr332 hC332 hS332 => ?_)
                                    obtain ⟨hp332, hr332⟩ := hr332
                                    have hKp332 := hKp329.tr (hp332.mono rfl)
                                    replace kd : KD H0 H332 ca 0 0 := KD.kp kd hp332 gca rfl rfl
                                    replace kd2 : KD H0 H332 ca 0 520 := KD.kp kd2 hp332 gca rfl rfl
                                    replace n0 : EQ H332 ca 2080 xx := EQ.kn n0 hp332 gca rfl (by unfold dpn; omega)
                                    replace n1 : EQ H332 ca 2081 yy := EQ.kn n1 hp332 gca rfl (by unfold dpn; omega)
                                    have m333 : (sI H332 h0 (X.1.2 11 8)).toInt = (sI H329 h0 (X.1.2 11 8)).toInt := congrArg Int32.toInt (kp_I hp332 g0 (k := 8) rfl (by decide) rfl)
                                    obtain ⟨f332_0, f332_1, f332_2, f332_3, f332_4⟩ := hr332
                                    refine lv_goto (tgt := 158) hx hb dX12_yard_259 rfl ?_
                                    exact ih222 H332 locs332 ls (by omega) (by omega) (by omega) hC332 hS332 hKp332 kd kd2 n0 n1 hl
                                · refine q_if_eq hx hb (a := 1) (by decide) (tgt := 216) dX12_yard_205 rfl (fun c334 => absurd c334 (by omega)) (fun c334 => ?_)
                                  refine lv_aload_n hx hb dX12_yard_208 rfl (lv_at hl 1 rfl) ?_
                                  refine lv_iconst (v := 1) hx hb dX12_yard_209 rfl ?_
                                  refine q_goV (q_runV (As := [.int 1]) (rest := []) E hC222 hS311 (m_X12_readCell l X Γ H222 hC222 h0 g0 1 (a1 := 1) (by decide) ca gca uc (by omega) (by omega)) cw_X12_readCell cl_RX12_261 g0 ⟨rfl, rfl⟩ rfl hl.1 rfl (Nat.zero_le _) (by decide) dX12_yard_210) hS311 (fun H335 locs335 hr335 hC335 hS335 => ?_)
                                  obtain ⟨hp335, hr335⟩ := hr335
                                  have hKp335 := hKp222.tr (hp335.mono rfl)
                                  replace kd : KD H0 H335 ca 0 0 := KD.kp kd hp335 gca rfl rfl
                                  replace kd2 : KD H0 H335 ca 0 520 := KD.kp kd2 hp335 gca rfl rfl
                                  replace n0 : EQ H335 ca 2080 xx := EQ.kn n0 hp335 gca rfl (by unfold dpn; omega)
                                  replace n1 : EQ H335 ca 2081 yy := EQ.kn n1 hp335 gca rfl (by unfold dpn; omega)
                                  have m336 : (sI H335 h0 (X.1.2 11 8)).toInt = (sI H222 h0 (X.1.2 11 8)).toInt := congrArg Int32.toInt (kp_I hp335 g0 (k := 8) rfl (by decide) rfl)
                                  obtain ⟨f335_0, f335_1, f335_2, f335_3⟩ := hr335
                                  refine lv_goto (tgt := 249) hx hb dX12_yard_213 rfl ?_
                                  refine lv_aload_n hx hb dX12_yard_249 rfl (lv_at hl 1 rfl) ?_
                                  refine lv_aload_n hx hb dX12_yard_250 rfl (lv_at hl 1 rfl) ?_
                                  refine lv_bipush (v := 59) hx hb dX12_yard_251 rfl ?_
                                  have hz9 := tk_or (sI H335 h0 (X.1.2 11 14)).toInt
                                  refine q_goIp (q_runV (As := [.int 59]) (rest := [.ref h0]) E hC335 hS335 (m_X12_isSign l X Γ H335 hC335 h0 g0 59 (a1 := 59) (by decide) ca gca uc) cw_X12_isSign cl_RX12_255 g0 ⟨rfl, rfl⟩ rfl hl.1 rfl (show _ ≤ _ from by simp [Value.category]) (by decide) dX12_yard_253) hS335 (fun v337 locs337 hr337 hS337 => ?_)
                                  have b337 : (v337.toInt = 1 ∧ _) ∨ (v337.toInt = 0 ∧ _) := hr337.imp (fun h => ⟨by rw [h.1]; decide, h.2⟩) (fun h => ⟨by rw [h.1]; decide, h.2⟩)
                                  refine q_goV (q_runV (As := [.int v337]) (rest := []) E hC335 hS337 (m_X12_must l X Γ H335 hC335 h0 g0 v337 (a1 := v337.toInt) rfl ca gca uc (by omega) (by omega)) cw_X12_must cl_RX12_244 g0 ⟨rfl, rfl⟩ rfl hl.1 rfl (Nat.zero_le _) (by decide) dX12_yard_256) hS337 (fun H338 locs338 hr338 hC338 hS338 => ?_)
                                  obtain ⟨hp338, hr338⟩ := hr338
                                  have hKp338 := hKp335.tr (hp338.mono rfl)
                                  replace kd : KD H0 H338 ca 0 0 := KD.kp kd hp338 gca rfl rfl
                                  replace kd2 : KD H0 H338 ca 0 520 := KD.kp kd2 hp338 gca rfl rfl
                                  replace n0 : EQ H338 ca 2080 xx := EQ.kn n0 hp338 gca rfl (by unfold dpn; omega)
                                  replace n1 : EQ H338 ca 2081 yy := EQ.kn n1 hp338 gca rfl (by unfold dpn; omega)
                                  have m339 : (sI H338 h0 (X.1.2 11 8)).toInt = (sI H335 h0 (X.1.2 11 8)).toInt := congrArg Int32.toInt (kp_I hp338 g0 (k := 8) rfl (by decide) rfl)
                                  obtain ⟨f338_0, f338_1, f338_2, f338_3, f338_4⟩ := hr338
                                  refine lv_goto (tgt := 158) hx hb dX12_yard_259 rfl ?_
                                  exact ih222 H338 locs338 ls (by omega) (by omega) (by omega) hC338 hS338 hKp338 kd kd2 n0 n1 hl
                              · refine q_if_eq hx hb (a := 1) (by decide) (tgt := 201) dX12_yard_190 rfl (fun c340 => absurd c340 (by omega)) (fun c340 => ?_)
                                refine lv_aload_n hx hb dX12_yard_193 rfl (lv_at hl 1 rfl) ?_
                                refine lv_iconst (v := 0) hx hb dX12_yard_194 rfl ?_
                                refine q_goV (q_runV (As := [.int 0]) (rest := []) E hC222 hS309 (m_X12_readCell l X Γ H222 hC222 h0 g0 0 (a1 := 0) (by decide) ca gca uc (by omega) (by omega)) cw_X12_readCell cl_RX12_261 g0 ⟨rfl, rfl⟩ rfl hl.1 rfl (Nat.zero_le _) (by decide) dX12_yard_195) hS309 (fun H341 locs341 hr341 hC341 hS341 => ?_)
                                obtain ⟨hp341, hr341⟩ := hr341
                                have hKp341 := hKp222.tr (hp341.mono rfl)
                                replace kd : KD H0 H341 ca 0 0 := KD.kp kd hp341 gca rfl rfl
                                replace kd2 : KD H0 H341 ca 0 520 := KD.kp kd2 hp341 gca rfl rfl
                                replace n0 : EQ H341 ca 2080 xx := EQ.kn n0 hp341 gca rfl (by unfold dpn; omega)
                                replace n1 : EQ H341 ca 2081 yy := EQ.kn n1 hp341 gca rfl (by unfold dpn; omega)
                                have m342 : (sI H341 h0 (X.1.2 11 8)).toInt = (sI H222 h0 (X.1.2 11 8)).toInt := congrArg Int32.toInt (kp_I hp341 g0 (k := 8) rfl (by decide) rfl)
                                obtain ⟨f341_0, f341_1, f341_2, f341_3⟩ := hr341
                                refine lv_goto (tgt := 249) hx hb dX12_yard_198 rfl ?_
                                refine lv_aload_n hx hb dX12_yard_249 rfl (lv_at hl 1 rfl) ?_
                                refine lv_aload_n hx hb dX12_yard_250 rfl (lv_at hl 1 rfl) ?_
                                refine lv_bipush (v := 59) hx hb dX12_yard_251 rfl ?_
                                have hz9 := tk_or (sI H341 h0 (X.1.2 11 14)).toInt
                                refine q_goIp (q_runV (As := [.int 59]) (rest := [.ref h0]) E hC341 hS341 (m_X12_isSign l X Γ H341 hC341 h0 g0 59 (a1 := 59) (by decide) ca gca uc) cw_X12_isSign cl_RX12_255 g0 ⟨rfl, rfl⟩ rfl hl.1 rfl (show _ ≤ _ from by simp [Value.category]) (by decide) dX12_yard_253) hS341 (fun v343 locs343 hr343 hS343 => ?_)
                                have b343 : (v343.toInt = 1 ∧ _) ∨ (v343.toInt = 0 ∧ _) := hr343.imp (fun h => ⟨by rw [h.1]; decide, h.2⟩) (fun h => ⟨by rw [h.1]; decide, h.2⟩)
                                refine q_goV (q_runV (As := [.int v343]) (rest := []) E hC341 hS343 (m_X12_must l X Γ H341 hC341 h0 g0 v343 (a1 := v343.toInt) rfl ca gca uc (by omega) (by omega)) cw_X12_must cl_RX12_244 g0 ⟨rfl, rfl⟩ rfl hl.1 rfl (Nat.zero_le _) (by decide) dX12_yard_256) hS343 (fun H344 locs344 hr344 hC344 hS344 => ?_)
                                obtain ⟨hp344, hr344⟩ := hr344
                                have hKp344 := hKp341.tr (hp344.mono rfl)
                                replace kd : KD H0 H344 ca 0 0 := KD.kp kd hp344 gca rfl rfl
                                replace kd2 : KD H0 H344 ca 0 520 := KD.kp kd2 hp344 gca rfl rfl
                                replace n0 : EQ H344 ca 2080 xx := EQ.kn n0 hp344 gca rfl (by unfold dpn; omega)
                                replace n1 : EQ H344 ca 2081 yy := EQ.kn n1 hp344 gca rfl (by unfold dpn; omega)
                                have m345 : (sI H344 h0 (X.1.2 11 8)).toInt = (sI H341 h0 (X.1.2 11 8)).toInt := congrArg Int32.toInt (kp_I hp344 g0 (k := 8) rfl (by decide) rfl)
                                obtain ⟨f344_0, f344_1, f344_2, f344_3, f344_4⟩ := hr344
                                refine lv_goto (tgt := 158) hx hb dX12_yard_259 rfl ?_
                                exact ih222 H344 locs344 ls (by omega) (by omega) (by omega) hC344 hS344 hKp344 kd kd2 n0 n1 hl
                            · refine q_if_eq hx hb (a := 1) (by decide) (tgt := 186) dX12_yard_176 rfl (fun c346 => absurd c346 (by omega)) (fun c346 => ?_)
                              refine lv_aload_n hx hb dX12_yard_179 rfl (lv_at hl 1 rfl) ?_
                              refine q_goV (q_runV (As := []) (rest := []) E hC222 hS307 (m_X12_readSchool l X Γ H222 hC222 h0 g0 ca gca uc) cw_X12_readSchool cl_RX12_258 g0 ⟨rfl, rfl⟩ rfl hl.1 rfl (Nat.zero_le _) (by decide) dX12_yard_180) hS307 (fun H347 locs347 hr347 hC347 hS347 => ?_)
                              obtain ⟨hp347, hr347⟩ := hr347
                              have hKp347 := hKp222.tr (hp347.mono rfl)
                              replace kd : KD H0 H347 ca 0 0 := KD.kp kd hp347 gca rfl rfl
                              replace kd2 : KD H0 H347 ca 0 520 := KD.kp kd2 hp347 gca rfl rfl
                              replace n0 : EQ H347 ca 2080 xx := EQ.kn n0 hp347 gca rfl (by unfold dpn; omega)
                              replace n1 : EQ H347 ca 2081 yy := EQ.kn n1 hp347 gca rfl (by unfold dpn; omega)
                              have m348 : (sI H347 h0 (X.1.2 11 8)).toInt = (sI H222 h0 (X.1.2 11 8)).toInt := congrArg Int32.toInt (kp_I hp347 g0 (k := 8) rfl (by decide) rfl)
                              obtain ⟨f347_0, f347_1, f347_2, f347_3⟩ := hr347
                              refine lv_goto (tgt := 249) hx hb dX12_yard_183 rfl ?_
                              refine lv_aload_n hx hb dX12_yard_249 rfl (lv_at hl 1 rfl) ?_
                              refine lv_aload_n hx hb dX12_yard_250 rfl (lv_at hl 1 rfl) ?_
                              refine lv_bipush (v := 59) hx hb dX12_yard_251 rfl ?_
                              have hz9 := tk_or (sI H347 h0 (X.1.2 11 14)).toInt
                              refine q_goIp (q_runV (As := [.int 59]) (rest := [.ref h0]) E hC347 hS347 (m_X12_isSign l X Γ H347 hC347 h0 g0 59 (a1 := 59) (by decide) ca gca uc) cw_X12_isSign cl_RX12_255 g0 ⟨rfl, rfl⟩ rfl hl.1 rfl (show _ ≤ _ from by simp [Value.category]) (by decide) dX12_yard_253) hS347 (fun v349 locs349 hr349 hS349 => ?_)
                              have b349 : (v349.toInt = 1 ∧ _) ∨ (v349.toInt = 0 ∧ _) := hr349.imp (fun h => ⟨by rw [h.1]; decide, h.2⟩) (fun h => ⟨by rw [h.1]; decide, h.2⟩)
                              refine q_goV (q_runV (As := [.int v349]) (rest := []) E hC347 hS349 (m_X12_must l X Γ H347 hC347 h0 g0 v349 (a1 := v349.toInt) rfl ca gca uc (by omega) (by omega)) cw_X12_must cl_RX12_244 g0 ⟨rfl, rfl⟩ rfl hl.1 rfl (Nat.zero_le _) (by decide) dX12_yard_256) hS349 (fun H350 locs350 hr350 hC350 hS350 => ?_)
                              obtain ⟨hp350, hr350⟩ := hr350
                              have hKp350 := hKp347.tr (hp350.mono rfl)
                              replace kd : KD H0 H350 ca 0 0 := KD.kp kd hp350 gca rfl rfl
                              replace kd2 : KD H0 H350 ca 0 520 := KD.kp kd2 hp350 gca rfl rfl
                              replace n0 : EQ H350 ca 2080 xx := EQ.kn n0 hp350 gca rfl (by unfold dpn; omega)
                              replace n1 : EQ H350 ca 2081 yy := EQ.kn n1 hp350 gca rfl (by unfold dpn; omega)
                              have m351 : (sI H350 h0 (X.1.2 11 8)).toInt = (sI H347 h0 (X.1.2 11 8)).toInt := congrArg Int32.toInt (kp_I hp350 g0 (k := 8) rfl (by decide) rfl)
                              obtain ⟨f350_0, f350_1, f350_2, f350_3, f350_4⟩ := hr350
                              refine lv_goto (tgt := 158) hx hb dX12_yard_259 rfl ?_
                              exact ih222 H350 locs350 ls (by omega) (by omega) (by omega) hC350 hS350 hKp350 kd kd2 n0 n1 hl
                    exact L158 903 H220 locs220 ls (by omega) (by omega) (by omega) hC220 hS220 hKp220 kd kd2 n0 n1 hl
                  · refine lv_aload_n hx hb dX12_yard_119 rfl (lv_at hl 1 rfl) ?_
                    refine lv_iconst (v := 4) hx hb dX12_yard_120 rfl ?_
                    refine lv_iload_n hx hb dX12_yard_121 rfl (lv_at hl 0 rfl) ?_
                    refine q_goV (q_runV (As := [.int 4, .int v46]) (rest := []) E hC49 hS49 (m_X12_fail l X Γ H49 hC49 h0 g0 4 (a1 := 4) (by decide) v46 (a2 := v46.toInt) rfl ca gca uc (by omega) (by omega)) cw_X12_fail cl_RX12_224 g0 ⟨rfl, rfl⟩ rfl hl.1 rfl (Nat.zero_le _) (by decide) dX12_yard_122) hS49 (fun H352 locs352 hr352 hC352 hS352 => ?_)
                    obtain ⟨hp352, hr352⟩ := hr352
                    have hKp352 := hKp49.tr (hp352.mono rfl)
                    replace kd : KD H0 H352 ca 0 0 := KD.kp kd hp352 gca rfl rfl
                    replace kd2 : KD H0 H352 ca 0 520 := KD.kp kd2 hp352 gca rfl rfl
                    replace n0 : EQ H352 ca 2080 xx := EQ.kn n0 hp352 gca rfl (by unfold dpn; omega)
                    have m353 : (sI H352 h0 (X.1.2 11 8)).toInt = (sI H49 h0 (X.1.2 11 8)).toInt := congrArg Int32.toInt (kp_I hp352 g0 (k := 8) rfl (by decide) rfl)
                    obtain ⟨f352_0, f352_1, f352_2, f352_3⟩ := hr352
                    refine lv_aload_n hx hb dX12_yard_125 rfl (lv_at hl 1 rfl) ?_
                    refine lv_aload_n hx hb dX12_yard_126 rfl (lv_at hl 1 rfl) ?_
                    refine q_goIp (q_runV (As := []) (rest := [.ref h0]) E hC352 hS352 (m_X12_isHigh l X Γ H352 hC352 h0 g0 ca gca uc) cw_X12_isHigh cl_RX12_169 g0 ⟨rfl, rfl⟩ rfl hl.1 rfl (show _ ≤ _ from by simp [Value.category]) (by decide) dX12_yard_127) hS352 (fun v354 locs354 hr354 hS354 => ?_)
                    have b354 : v354.toInt = 0 ∨ v354.toInt = 1 := hr354.imp (fun h => by rw [h]; decide) (fun h => by rw [h]; decide)
                    refine q_goV (q_runV (As := [.int v354]) (rest := []) E hC352 hS354 (m_X12_must l X Γ H352 hC352 h0 g0 v354 (a1 := v354.toInt) rfl ca gca uc (by omega) (by omega)) cw_X12_must cl_RX12_244 g0 ⟨rfl, rfl⟩ rfl hl.1 rfl (Nat.zero_le _) (by decide) dX12_yard_130) hS354 (fun H355 locs355 hr355 hC355 hS355 => ?_)
                    obtain ⟨hp355, hr355⟩ := hr355
                    have hKp355 := hKp352.tr (hp355.mono rfl)
                    replace kd : KD H0 H355 ca 0 0 := KD.kp kd hp355 gca rfl rfl
                    replace kd2 : KD H0 H355 ca 0 520 := KD.kp kd2 hp355 gca rfl rfl
                    replace n0 : EQ H355 ca 2080 xx := EQ.kn n0 hp355 gca rfl (by unfold dpn; omega)
                    have m356 : (sI H355 h0 (X.1.2 11 8)).toInt = (sI H352 h0 (X.1.2 11 8)).toInt := congrArg Int32.toInt (kp_I hp355 g0 (k := 8) rfl (by decide) rfl)
                    obtain ⟨f355_0, f355_1, f355_2, f355_3, f355_4⟩ := hr355
                    refine lv_aload_n hx hb dX12_yard_133 rfl (lv_at hl 1 rfl) ?_
                    refine q_getC E hC355 g0 fa_RX12_35 uc dX12_yard_134 ?_
                    refine lv_sipush (v := 2081) hx hb dX12_yard_137 rfl ?_
                    refine lv_aload_n hx hb dX12_yard_140 rfl (lv_at hl 1 rfl) ?_
                    refine lv_iconst (v := 1) hx hb dX12_yard_141 rfl ?_
                    refine lv_bipush (v := 6) hx hb dX12_yard_142 rfl ?_
                    refine q_goI (q_runV (As := [.int 1, .int 6]) (rest := [.int 2081, .ref ca]) E hC355 hS355 (m_X12_count l X Γ H355 hC355 h0 g0 1 (a1 := 1) (by decide) 6 (a2 := 6) (by decide) ca gca uc (by omega) (by omega) (by omega) (by omega)) cw_X12_count cl_RX12_248 g0 ⟨rfl, rfl⟩ rfl hl.1 rfl (show _ ≤ _ from by simp [Value.category]) (by decide) dX12_yard_144) hS355 (fun v357 H357 locs357 hr357 hC357 hS357 => ?_)
                    obtain ⟨hp357, hr357⟩ := hr357
                    have hKp357 := hKp355.tr (hp357.mono rfl)
                    replace kd : KD H0 H357 ca 0 0 := KD.kp kd hp357 gca rfl rfl
                    replace kd2 : KD H0 H357 ca 0 520 := KD.kp kd2 hp357 gca rfl rfl
                    replace n0 : EQ H357 ca 2080 xx := EQ.kn n0 hp357 gca rfl (by unfold dpn; omega)
                    have m358 : (sI H357 h0 (X.1.2 11 8)).toInt = (sI H355 h0 (X.1.2 11 8)).toInt := congrArg Int32.toInt (kp_I hp357 g0 (k := 8) rfl (by decide) rfl)
                    obtain ⟨f357_0, f357_1, f357_2, f357_3, f357_4, f357_5, f357_6, f357_7⟩ := hr357
                    refine q_cast E hC357 hS357 gca (a := 2081) (show (2081 : Int32).toInt = 2081 from by decide) (by omega) (by omega) (cs_n0 (a := 2081) (b := v357.toInt) (by omega) (by omega) rfl (by omega) (by omega)) dX12_yard_147 (fun H359 locs359 hC359 hS359 U359 => ?_)
                    have hKp359 := Kp.upD gca rfl rfl (fun _ => ⟨fun h => absurd h (by decide), fun h => absurd h (by decide), fun h => absurd h (by decide)⟩) U359 hKp357
                    replace kd : KD H0 H359 ca 0 0 := KD.up kd U359 (by omega) (by omega)
                    replace kd2 : KD H0 H359 ca 0 520 := KD.up kd2 U359 (by omega) (by omega)
                    replace n0 : EQ H359 ca 2080 xx := EQ.up n0 U359 ⟨by omega, by omega⟩ (by omega)
                    have m360 : (sI H359 h0 (X.1.2 11 12)).toInt = (sI H357 h0 (X.1.2 11 12)).toInt := congrArg Int32.toInt (up_nI U359 (ne_k g0 gca (by decide)))
                    have m361 : (sI H359 h0 (X.1.2 11 14)).toInt = (sI H357 h0 (X.1.2 11 14)).toInt := congrArg Int32.toInt (up_nI U359 (ne_k g0 gca (by decide)))
                    have m362 := congrArg tk m361
                    have m363 : (sI H359 h0 (X.1.2 11 16)).toInt = (sI H357 h0 (X.1.2 11 16)).toInt := congrArg Int32.toInt (up_nI U359 (ne_k g0 gca (by decide)))
                    have m364 : (sI H359 h0 (X.1.2 11 8)).toInt = (sI H357 h0 (X.1.2 11 8)).toInt := congrArg Int32.toInt (up_nI U359 (ne_k g0 gca (by decide)))
                    obtain ⟨yy, hyy⟩ : ∃ z, v357.toInt = z := ⟨_, rfl⟩
                    have n1 : EQ H359 ca 2081 yy := (congrArg Int32.toInt (up_I U359)).trans (rfl.trans hyy)
                    have e365 := up_I U359
                    refine lv_aload_n hx hb dX12_yard_148 rfl (lv_at hl 1 rfl) ?_
                    refine lv_aload_n hx hb dX12_yard_149 rfl (lv_at hl 1 rfl) ?_
                    refine lv_bipush (v := 59) hx hb dX12_yard_150 rfl ?_
                    refine q_goIp (q_runV (As := [.int 59]) (rest := [.ref h0]) E hC359 hS359 (m_X12_isSign l X Γ H359 hC359 h0 g0 59 (a1 := 59) (by decide) ca gca uc) cw_X12_isSign cl_RX12_255 g0 ⟨rfl, rfl⟩ rfl hl.1 rfl (show _ ≤ _ from by simp [Value.category]) (by decide) dX12_yard_152) hS359 (fun v366 locs366 hr366 hS366 => ?_)
                    have b366 : (v366.toInt = 1 ∧ _) ∨ (v366.toInt = 0 ∧ _) := hr366.imp (fun h => ⟨by rw [h.1]; decide, h.2⟩) (fun h => ⟨by rw [h.1]; decide, h.2⟩)
                    have hb0 := f_bd hC359 g0 (ci := 11) (k := 16) rfl rfl
                    refine q_goV (q_runV (As := [.int v366]) (rest := []) E hC359 hS366 (m_X12_must l X Γ H359 hC359 h0 g0 v366 (a1 := v366.toInt) rfl ca gca uc (by omega) (by omega)) cw_X12_must cl_RX12_244 g0 ⟨rfl, rfl⟩ rfl hl.1 rfl (Nat.zero_le _) (by decide) dX12_yard_155) hS366 (fun H367 locs367 hr367 hC367 hS367 => ?_)
                    obtain ⟨hp367, hr367⟩ := hr367
                    have hKp367 := hKp359.tr (hp367.mono rfl)
                    replace kd : KD H0 H367 ca 0 0 := KD.kp kd hp367 gca rfl rfl
                    replace kd2 : KD H0 H367 ca 0 520 := KD.kp kd2 hp367 gca rfl rfl
                    replace n0 : EQ H367 ca 2080 xx := EQ.kn n0 hp367 gca rfl (by unfold dpn; omega)
                    replace n1 : EQ H367 ca 2081 yy := EQ.kn n1 hp367 gca rfl (by unfold dpn; omega)
                    have m368 : (sI H367 h0 (X.1.2 11 8)).toInt = (sI H359 h0 (X.1.2 11 8)).toInt := congrArg Int32.toInt (kp_I hp367 g0 (k := 8) rfl (by decide) rfl)
                    obtain ⟨f367_0, f367_1, f367_2, f367_3, f367_4⟩ := hr367
                    have L158 : ∀ (n369 : Nat) (H369 : Heap) (locs369 : List Loc) (ls : Array Slot), 0 < n369 ∧ ((sI H369 h0 (X.1.2 11 12)).toInt ≠ 0 ∨ 902 - (sI H369 h0 (X.1.2 11 16)).toInt < n369) → ((sI H369 h0 (X.1.2 11 12)).toInt = 0 → 2 ≤ xx ∧ 1 ≤ yy) → (sI H369 h0 (X.1.2 11 8)).toInt = 0 → Conf X Γ H369 → va_S (AΓ Γ) H0 H369 locs369 → Kp X Γ [1, 6, 8, 9, 11, 12, 14, 19, 22, 24, 26, 28] H0 H369 → (KD H0 H369 ca 0 0) → (KD H0 H369 ca 0 520) → (EQ H369 ca 2080 xx) → (EQ H369 ca 2081 yy) → lv_has ls 4 [(2, .int v46), (0, .ref h0), (1, .int p1)] → W p l e (rmL 5) s m args below meth c H369 locs369 0 0 Qz (F0 m 158 ls []) := by
                      intro n369
                      induction n369 with
                      | zero => intro H369 locs369 ls hm369 iv369_0 iv369_1 hC369 hS369 hKp369 kd kd2 n0 n1 hl; exact absurd hm369 (by omega)
                      | succ n369 ih369 =>
                        intro H369 locs369 ls hm369 iv369_0 iv369_1 hC369 hS369 hKp369 kd kd2 n0 n1 hl
                        have hb1 := f_bd hC369 g0 (ci := 11) (k := 16) rfl rfl
                        have hb2 := f_bd hC369 g0 (ci := 11) (k := 12) rfl rfl
                        refine lv_aload_n hx hb dX12_yard_158 rfl (lv_at hl 1 rfl) ?_
                        refine q_getI E hC369 g0 fa_RX12_218 dX12_yard_159 (fun v370 ev370 lv370 uv370 => ?_)
                        have m371 : (sI H369 h0 (X.1.2 11 12)).toInt = v370.toInt := (congrArg Int32.toInt ev370).trans rfl
                        refine q_if_ne hx hb (a := v370.toInt) rfl (tgt := 262) dX12_yard_162 rfl (fun c372 => ?_) (fun c372 => ?_)
                        · refine lv_aload_n hx hb dX12_yard_262 rfl (lv_at hl 1 rfl) ?_
                          refine q_goI (q_runV (As := []) (rest := []) E hC369 hS369 (m_X12_isWell l X Γ H369 hC369 h0 g0 ca gca uc) cw_X12_isWell cl_RX12_267 g0 ⟨rfl, rfl⟩ rfl hl.1 rfl (Nat.zero_le _) (by decide) dX12_yard_263) hS369 (fun v373 H373 locs373 hr373 hC373 hS373 => ?_)
                          obtain ⟨hp373, hr373⟩ := hr373
                          have hKp373 := hKp369.tr (hp373.mono rfl)
                          replace kd : KD H0 H373 ca 0 0 := KD.kp kd hp373 gca rfl rfl
                          replace kd2 : KD H0 H373 ca 0 520 := KD.kp kd2 hp373 gca rfl rfl
                          replace n0 : EQ H373 ca 2080 xx := EQ.kn n0 hp373 gca rfl (by unfold dpn; omega)
                          replace n1 : EQ H373 ca 2081 yy := EQ.kn n1 hp373 gca rfl (by unfold dpn; omega)
                          have m374 : (sI H373 h0 (X.1.2 11 8)).toInt = (sI H369 h0 (X.1.2 11 8)).toInt := congrArg Int32.toInt (kp_I hp373 g0 (k := 8) rfl (by decide) rfl)
                          rcases hr373 with ⟨rfl, f373a⟩ | ⟨rfl, -⟩
                          · refine q_if_ne hx hb (a := 1) (by decide) (tgt := 271) dX12_yard_266 rfl (fun c375 => ?_) (fun c375 => absurd c375 (by omega))
                            have hxy : 2 ≤ xx ∧ 1 ≤ yy := by omega
                            refine lv_iconst (v := 0) hx hb dX12_yard_271 rfl ?_
                            refine lv_istore_n hx hb dX12_yard_272 rfl hl (by decide) rfl (fun ls hl => ?_)
                            replace hl : lv_has ls 4 [(3, .int 0), (2, .int v46), (0, .ref h0), (1, .int p1)] := hl
                            have L273 : ∀ (n377 : Nat) (H377 : Heap) (locs377 : List Loc) (v376 : Int32) (z376 : Int) (ls : Array Slot), (36 - z376).toNat < n377 → v376.toInt = z376 → z376 ≤ 36 → 0 ≤ z376 → (sI H377 h0 (X.1.2 11 8)).toInt = 0 → Conf X Γ H377 → va_S (AΓ Γ) H0 H377 locs377 → Kp X Γ [1, 6, 8, 9, 11, 12, 14, 19, 22, 24, 26, 28] H0 H377 → (KD H0 H377 ca 0 0) → (KD H0 H377 ca 0 520) → (EQ H377 ca 2080 xx) → (EQ H377 ca 2081 yy) → lv_has ls 4 [(3, .int v376), (2, .int v46), (0, .ref h0), (1, .int p1)] → W p l e (rmL 5) s m args below meth c H377 locs377 0 0 Qz (F0 m 273 ls []) := by
                              intro n377
                              induction n377 with
                              | zero => intro H377 locs377 v376 z376 ls hm377 ev376 iv377_0 iv377_1 iv377_2 hC377 hS377 hKp377 kd kd2 n0 n1 hl; exact absurd hm377 (Nat.not_lt_zero _)
                              | succ n377 ih377 =>
                                intro H377 locs377 v376 z376 ls hm377 ev376 iv377_0 iv377_1 iv377_2 hC377 hS377 hKp377 kd kd2 n0 n1 hl
                                refine lv_iload_n hx hb dX12_yard_273 rfl (lv_at hl 0 rfl) ?_
                                refine lv_bipush (v := 36) hx hb dX12_yard_274 rfl ?_
                                refine q_icmp_ge hx hb (a := z376) (b := 36) ev376 (by decide) (tgt := 305) dX12_yard_276 rfl (fun c378 => ?_) (fun c378 => ?_)
                                · refine lv_iconst (v := 0) hx hb dX12_yard_305 rfl ?_
                                  refine lv_istore_n hx hb dX12_yard_306 rfl hl (by decide) rfl (fun ls hl => ?_)
                                  replace hl : lv_has ls 4 [(3, .int 0), (2, .int v46), (0, .ref h0), (1, .int p1)] := hl
                                  have L307 : ∀ (n380 : Nat) (H380 : Heap) (locs380 : List Loc) (v379 : Int32) (z379 : Int) (ls : Array Slot), (520 - z379).toNat < n380 → v379.toInt = z379 → z379 ≤ 520 → 0 ≤ z379 → CPd H380 ca 2080 0 z379 → (sI H380 h0 (X.1.2 11 8)).toInt = 0 → Conf X Γ H380 → va_S (AΓ Γ) H0 H380 locs380 → Kp X Γ [1, 6, 8, 9, 11, 12, 14, 19, 22, 24, 26, 28] H0 H380 → (KD H0 H380 ca 0 520) → (EQ H380 ca 2080 xx) → (EQ H380 ca 2081 yy) → lv_has ls 4 [(3, .int v379), (2, .int v46), (0, .ref h0), (1, .int p1)] → W p l e (rmL 5) s m args below meth c H380 locs380 0 0 Qz (F0 m 307 ls []) := by
                                    intro n380
                                    induction n380 with
                                    | zero => intro H380 locs380 v379 z379 ls hm380 ev379 iv380_0 iv380_1 iv380_2 iv380_3 hC380 hS380 hKp380 kd2 n0 n1 hl; exact absurd hm380 (Nat.not_lt_zero _)
                                    | succ n380 ih380 =>
                                      intro H380 locs380 v379 z379 ls hm380 ev379 iv380_0 iv380_1 iv380_2 iv380_3 hC380 hS380 hKp380 kd2 n0 n1 hl
                                      have cpd := iv380_2
                                      refine lv_iload_n hx hb dX12_yard_307 rfl (lv_at hl 0 rfl) ?_
                                      refine lv_sipush (v := 520) hx hb dX12_yard_308 rfl ?_
                                      refine q_icmp_ge hx hb (a := z379) (b := 520) ev379 (by decide) (tgt := 336) dX12_yard_311 rfl (fun c381 => ?_) (fun c381 => ?_)
                                      · refine lv_aload_n hx hb dX12_yard_336 rfl (lv_at hl 2 rfl) ?_
                                        refine q_getC E hC380 g0 fa_RX12_35 uc dX12_yard_337 ?_
                                        refine lv_iconst (v := 0) hx hb dX12_yard_340 rfl ?_
                                        refine q_cald E hC380 (lo := 0) (hi := 6) gca (a := 0) (show (0 : Int32).toInt = 0 from by decide) (by omega) (by omega) (cr_c0 (by omega) (by omega)) dX12_yard_341 (fun v382 ev382 lv382 uv382 => ?_)
                                        have m383 : (sI H380 ca (0 : Int).toNat).toInt = v382.toInt := congrArg Int32.toInt ev382
                                        refine lv_aload_n hx hb dX12_yard_342 rfl (lv_at hl 2 rfl) ?_
                                        refine q_getC E hC380 g0 fa_RX12_35 uc dX12_yard_343 ?_
                                        refine lv_iconst (v := 1) hx hb dX12_yard_346 rfl ?_
                                        refine q_cald E hC380 (lo := 0) (hi := 6) gca (a := 1) (show (1 : Int32).toInt = 1 from by decide) (by omega) (by omega) (cr_c0 (by omega) (by omega)) dX12_yard_347 (fun v384 ev384 lv384 uv384 => ?_)
                                        have m385 : (sI H380 ca (1 : Int).toNat).toInt = v384.toInt := congrArg Int32.toInt ev384
                                        refine lv_imul hx hb dX12_yard_348 (lv_topi (fun v386 ev386 => ?_))
                                        have hpost : KD H0 H380 ca 0 0 ∨ (KD H0 H380 ca 0 520 ∧ YI H380 ca) := Or.inr ⟨kd2, YI.mk hC380 gca cpd (by omega) n0 n1 hxy⟩
                                        have c387 : v386.toInt = v386.toInt := rfl
                                        exact ret v386 H380 locs380 _ _ dX12_yard_349 ⟨hKp380, ⟨hpost, by omega⟩⟩ hC380 hS380
                                      · refine lv_aload_n hx hb dX12_yard_314 rfl (lv_at hl 2 rfl) ?_
                                        refine q_getC E hC380 g0 fa_RX12_35 uc dX12_yard_315 ?_
                                        refine lv_iload_n hx hb dX12_yard_318 rfl (lv_at hl 0 rfl) ?_
                                        refine lv_aload_n hx hb dX12_yard_319 rfl (lv_at hl 2 rfl) ?_
                                        refine q_getC E hC380 g0 fa_RX12_35 uc dX12_yard_320 ?_
                                        refine lv_sipush (v := 2080) hx hb dX12_yard_323 rfl ?_
                                        refine lv_iload_n hx hb dX12_yard_326 rfl (lv_at hl 0 rfl) ?_
                                        refine lv_iadd hx hb dX12_yard_327 (lv_topi (fun v388 ev388 => ?_))
                                        have ev388i : v388.toInt = (2080 + z379) := i_add ev388 (by decide) ev379 (by omega) (by omega)
                                        refine q_craw E hC380 gca (a := (2080 + z379)) ev388i (by omega) (by omega) dX12_yard_328 (fun v389 ev389 tv389 => ?_)
                                        refine q_cast E hC380 hS380 gca (a := z379) ev379 (by omega) (by omega) (cT_nb (k := z379) rfl rfl (by omega) (by omega) tv389) dX12_yard_329 (fun H390 locs390 hC390 hS390 U390 => ?_)
                                        have hKp390 := Kp.upD gca rfl rfl (fun _ => ⟨fun h => absurd h (by decide), fun h => absurd h (by decide), fun h => absurd h (by decide)⟩) U390 hKp380
                                        replace kd2 : KD H0 H390 ca 0 520 := KD.up kd2 U390 (by omega) (by omega)
                                        replace n0 : EQ H390 ca 2080 xx := EQ.up n0 U390 ⟨by omega, by omega⟩ (by omega)
                                        replace n1 : EQ H390 ca 2081 yy := EQ.up n1 U390 ⟨by omega, by omega⟩ (by omega)
                                        have m391 : (sI H390 h0 (X.1.2 11 12)).toInt = (sI H380 h0 (X.1.2 11 12)).toInt := congrArg Int32.toInt (up_nI U390 (ne_k g0 gca (by decide)))
                                        have m392 : (sI H390 h0 (X.1.2 11 14)).toInt = (sI H380 h0 (X.1.2 11 14)).toInt := congrArg Int32.toInt (up_nI U390 (ne_k g0 gca (by decide)))
                                        have m393 := congrArg tk m392
                                        have m394 : (sI H390 h0 (X.1.2 11 16)).toInt = (sI H380 h0 (X.1.2 11 16)).toInt := congrArg Int32.toInt (up_nI U390 (ne_k g0 gca (by decide)))
                                        have m395 : (sI H390 h0 (X.1.2 11 8)).toInt = (sI H380 h0 (X.1.2 11 8)).toInt := congrArg Int32.toInt (up_nI U390 (ne_k g0 gca (by decide)))
                                        have cpd : CPd H390 ca 2080 0 (z379 + 1) := CPd.step cpd (a := z379) (by omega) U390 ev389 (by omega) (by omega) (by omega)
                                        have e396 := up_I U390
                                        obtain ⟨v397, ev397⟩ : ∃ z, z = v379 + Int32.ofInt 1 := ⟨_, rfl⟩
                                        have ev397i : v397.toInt = (z379 + 1) := i_add ev397 ev379 (by decide) (by omega) (by omega)
                                        refine lv_iinc hx hb dX12_yard_330 hl (k := 0) rfl ev397.symm (by decide) rfl (fun ls hl => ?_)
                                        replace hl : lv_has ls 4 [(3, .int v397), (2, .int v46), (0, .ref h0), (1, .int p1)] := hl
                                        refine lv_goto (tgt := 307) hx hb dX12_yard_333 rfl ?_
                                        exact ih380 H390 locs390 v397 ((z379 + 1)) ls (by omega) ev397i (by omega) (by omega) (cpd) (by omega) hC390 hS390 hKp390 kd2 n0 n1 hl
                                  exact L307 _ H377 locs377 0 0 ls (Nat.lt_succ_self _) (by decide) (by omega) (by omega) (CPd.nil (by omega)) (by omega) hC377 hS377 hKp377 kd2 n0 n1 hl
                                · refine lv_aload_n hx hb dX12_yard_279 rfl (lv_at hl 2 rfl) ?_
                                  refine q_getC E hC377 g0 fa_RX12_35 uc dX12_yard_280 ?_
                                  refine lv_sipush (v := 2214) hx hb dX12_yard_283 rfl ?_
                                  refine lv_iload_n hx hb dX12_yard_286 rfl (lv_at hl 0 rfl) ?_
                                  refine lv_iadd hx hb dX12_yard_287 (lv_topi (fun v398 ev398 => ?_))
                                  have ev398i : v398.toInt = (2214 + z376) := i_add ev398 (by decide) ev376 (by omega) (by omega)
                                  refine lv_aload_n hx hb dX12_yard_288 rfl (lv_at hl 2 rfl) ?_
                                  refine q_getC E hC377 g0 fa_RX12_35 uc dX12_yard_289 ?_
                                  refine lv_sipush (v := 2142) hx hb dX12_yard_292 rfl ?_
                                  refine lv_iload_n hx hb dX12_yard_295 rfl (lv_at hl 0 rfl) ?_
                                  refine lv_iadd hx hb dX12_yard_296 (lv_topi (fun v399 ev399 => ?_))
                                  have ev399i : v399.toInt = (2142 + z376) := i_add ev399 (by decide) ev376 (by omega) (by omega)
                                  refine q_cald E hC377 (lo := 0) (hi := 99) gca (a := (2142 + z376)) ev399i (by omega) (by omega) (cr_n26 (by omega) (by omega)) dX12_yard_297 (fun v400 ev400 lv400 uv400 => ?_)
                                  have m401 : (sI H377 ca ((2142 + z376) : Int).toNat).toInt = v400.toInt := congrArg Int32.toInt ev400
                                  refine q_cast E hC377 hS377 gca (a := (2214 + z376)) ev398i (by omega) (by omega) (cs_n134 (a := (2214 + z376)) (by omega) (by omega)) dX12_yard_298 (fun H402 locs402 hC402 hS402 U402 => ?_)
                                  have hKp402 := Kp.upD gca rfl rfl (fun _ => ⟨fun h => absurd h (by decide), fun h => absurd h (by decide), fun h => absurd h (by decide)⟩) U402 hKp377
                                  replace kd : KD H0 H402 ca 0 0 := KD.up kd U402 (by omega) (by omega)
                                  replace kd2 : KD H0 H402 ca 0 520 := KD.up kd2 U402 (by omega) (by omega)
                                  replace n0 : EQ H402 ca 2080 xx := EQ.up n0 U402 ⟨by omega, by omega⟩ (by omega)
                                  replace n1 : EQ H402 ca 2081 yy := EQ.up n1 U402 ⟨by omega, by omega⟩ (by omega)
                                  have m403 : (sI H402 h0 (X.1.2 11 12)).toInt = (sI H377 h0 (X.1.2 11 12)).toInt := congrArg Int32.toInt (up_nI U402 (ne_k g0 gca (by decide)))
                                  have m404 : (sI H402 h0 (X.1.2 11 14)).toInt = (sI H377 h0 (X.1.2 11 14)).toInt := congrArg Int32.toInt (up_nI U402 (ne_k g0 gca (by decide)))
                                  have m405 := congrArg tk m404
                                  have m406 : (sI H402 h0 (X.1.2 11 16)).toInt = (sI H377 h0 (X.1.2 11 16)).toInt := congrArg Int32.toInt (up_nI U402 (ne_k g0 gca (by decide)))
                                  have m407 : (sI H402 h0 (X.1.2 11 8)).toInt = (sI H377 h0 (X.1.2 11 8)).toInt := congrArg Int32.toInt (up_nI U402 (ne_k g0 gca (by decide)))
                                  have e408 := up_I U402
                                  obtain ⟨v409, ev409⟩ : ∃ z, z = v376 + Int32.ofInt 1 := ⟨_, rfl⟩
                                  have ev409i : v409.toInt = (z376 + 1) := i_add ev409 ev376 (by decide) (by omega) (by omega)
                                  refine lv_iinc hx hb dX12_yard_299 hl (k := 0) rfl ev409.symm (by decide) rfl (fun ls hl => ?_)
                                  replace hl : lv_has ls 4 [(3, .int v409), (2, .int v46), (0, .ref h0), (1, .int p1)] := hl
                                  refine lv_goto (tgt := 273) hx hb dX12_yard_302 rfl ?_
                                  exact ih377 H402 locs402 v409 ((z376 + 1)) ls (by omega) ev409i (by omega) (by omega) (by omega) hC402 hS402 hKp402 kd kd2 n0 n1 hl
                            exact L273 _ H373 locs373 0 0 ls (Nat.lt_succ_self _) (by decide) (by omega) (by omega) (by omega) hC373 hS373 hKp373 kd kd2 n0 n1 hl
                          · refine q_if_ne hx hb (a := 0) (by decide) (tgt := 271) dX12_yard_266 rfl (fun c410 => absurd c410 (by omega)) (fun c410 => ?_)
                            refine lv_iconst (v := (-1)) hx hb dX12_yard_269 rfl ?_
                            have hpost : KD H0 H373 ca 0 0 ∨ (KD H0 H373 ca 0 520 ∧ YI H373 ca) := Or.inl kd
                            have c411 : ((-1) : Int32).toInt = (-1) := (by decide)
                            exact ret (-1) H373 locs373 _ _ dX12_yard_270 ⟨hKp373, ⟨hpost, by omega⟩⟩ hC373 hS373
                        · refine lv_aload_n hx hb dX12_yard_165 rfl (lv_at hl 1 rfl) ?_
                          refine q_getI E hC369 g0 fa_RX12_120 dX12_yard_166 (fun v412 ev412 _ _ => ?_)
                          have m413 : (sI H369 h0 (X.1.2 11 14)).toInt = v412.toInt := (congrArg Int32.toInt ev412).trans rfl
                          refine q_if_eq hx hb (a := v412.toInt) rfl (tgt := 262) dX12_yard_169 rfl (fun c414 => ?_) (fun c414 => ?_)
                          · refine lv_aload_n hx hb dX12_yard_262 rfl (lv_at hl 1 rfl) ?_
                            refine q_goI (q_runV (As := []) (rest := []) E hC369 hS369 (m_X12_isWell l X Γ H369 hC369 h0 g0 ca gca uc) cw_X12_isWell cl_RX12_267 g0 ⟨rfl, rfl⟩ rfl hl.1 rfl (Nat.zero_le _) (by decide) dX12_yard_263) hS369 (fun v415 H415 locs415 hr415 hC415 hS415 => ?_)
                            obtain ⟨hp415, hr415⟩ := hr415
                            have hKp415 := hKp369.tr (hp415.mono rfl)
                            replace kd : KD H0 H415 ca 0 0 := KD.kp kd hp415 gca rfl rfl
                            replace kd2 : KD H0 H415 ca 0 520 := KD.kp kd2 hp415 gca rfl rfl
                            replace n0 : EQ H415 ca 2080 xx := EQ.kn n0 hp415 gca rfl (by unfold dpn; omega)
                            replace n1 : EQ H415 ca 2081 yy := EQ.kn n1 hp415 gca rfl (by unfold dpn; omega)
                            have m416 : (sI H415 h0 (X.1.2 11 8)).toInt = (sI H369 h0 (X.1.2 11 8)).toInt := congrArg Int32.toInt (kp_I hp415 g0 (k := 8) rfl (by decide) rfl)
                            rcases hr415 with ⟨rfl, f415a⟩ | ⟨rfl, -⟩
                            · refine q_if_ne hx hb (a := 1) (by decide) (tgt := 271) dX12_yard_266 rfl (fun c417 => ?_) (fun c417 => absurd c417 (by omega))
                              have hxy : 2 ≤ xx ∧ 1 ≤ yy := by omega
                              refine lv_iconst (v := 0) hx hb dX12_yard_271 rfl ?_
                              refine lv_istore_n hx hb dX12_yard_272 rfl hl (by decide) rfl (fun ls hl => ?_)
                              replace hl : lv_has ls 4 [(3, .int 0), (2, .int v46), (0, .ref h0), (1, .int p1)] := hl
                              have L273 : ∀ (n419 : Nat) (H419 : Heap) (locs419 : List Loc) (v418 : Int32) (z418 : Int) (ls : Array Slot), (36 - z418).toNat < n419 → v418.toInt = z418 → z418 ≤ 36 → 0 ≤ z418 → (sI H419 h0 (X.1.2 11 8)).toInt = 0 → Conf X Γ H419 → va_S (AΓ Γ) H0 H419 locs419 → Kp X Γ [1, 6, 8, 9, 11, 12, 14, 19, 22, 24, 26, 28] H0 H419 → (KD H0 H419 ca 0 0) → (KD H0 H419 ca 0 520) → (EQ H419 ca 2080 xx) → (EQ H419 ca 2081 yy) → lv_has ls 4 [(3, .int v418), (2, .int v46), (0, .ref h0), (1, .int p1)] → W p l e (rmL 5) s m args below meth c H419 locs419 0 0 Qz (F0 m 273 ls []) := by
                                intro n419
                                induction n419 with
                                | zero => intro H419 locs419 v418 z418 ls hm419 ev418 iv419_0 iv419_1 iv419_2 hC419 hS419 hKp419 kd kd2 n0 n1 hl; exact absurd hm419 (Nat.not_lt_zero _)
                                | succ n419 ih419 =>
                                  intro H419 locs419 v418 z418 ls hm419 ev418 iv419_0 iv419_1 iv419_2 hC419 hS419 hKp419 kd kd2 n0 n1 hl
                                  refine lv_iload_n hx hb dX12_yard_273 rfl (lv_at hl 0 rfl) ?_
                                  refine lv_bipush (v := 36) hx hb dX12_yard_274 rfl ?_
                                  refine q_icmp_ge hx hb (a := z418) (b := 36) ev418 (by decide) (tgt := 305) dX12_yard_276 rfl (fun c420 => ?_) (fun c420 => ?_)
                                  · refine lv_iconst (v := 0) hx hb dX12_yard_305 rfl ?_
                                    refine lv_istore_n hx hb dX12_yard_306 rfl hl (by decide) rfl (fun ls hl => ?_)
                                    replace hl : lv_has ls 4 [(3, .int 0), (2, .int v46), (0, .ref h0), (1, .int p1)] := hl
                                    have L307 : ∀ (n422 : Nat) (H422 : Heap) (locs422 : List Loc) (v421 : Int32) (z421 : Int) (ls : Array Slot), (520 - z421).toNat < n422 → v421.toInt = z421 → z421 ≤ 520 → 0 ≤ z421 → CPd H422 ca 2080 0 z421 → (sI H422 h0 (X.1.2 11 8)).toInt = 0 → Conf X Γ H422 → va_S (AΓ Γ) H0 H422 locs422 → Kp X Γ [1, 6, 8, 9, 11, 12, 14, 19, 22, 24, 26, 28] H0 H422 → (KD H0 H422 ca 0 520) → (EQ H422 ca 2080 xx) → (EQ H422 ca 2081 yy) → lv_has ls 4 [(3, .int v421), (2, .int v46), (0, .ref h0), (1, .int p1)] → W p l e (rmL 5) s m args below meth c H422 locs422 0 0 Qz (F0 m 307 ls []) := by
                                      intro n422
                                      induction n422 with
                                      | zero => intro H422 locs422 v421 z421 ls hm422 ev421 iv422_0 iv422_1 iv422_2 iv422_3 hC422 hS422 hKp422 kd2 n0 n1 hl; exact absurd hm422 (Nat.not_lt_zero _)
                                      | succ n422 ih422 =>
                                        intro H422 locs422 v421 z421 ls hm422 ev421 iv422_0 iv422_1 iv422_2 iv422_3 hC422 hS422 hKp422 kd2 n0 n1 hl
                                        have cpd := iv422_2
                                        refine lv_iload_n hx hb dX12_yard_307 rfl (lv_at hl 0 rfl) ?_
                                        refine lv_sipush (v := 520) hx hb dX12_yard_308 rfl ?_
                                        refine q_icmp_ge hx hb (a := z421) (b := 520) ev421 (by decide) (tgt := 336) dX12_yard_311 rfl (fun c423 => ?_) (fun c423 => ?_)
                                        · refine lv_aload_n hx hb dX12_yard_336 rfl (lv_at hl 2 rfl) ?_
                                          refine q_getC E hC422 g0 fa_RX12_35 uc dX12_yard_337 ?_
                                          refine lv_iconst (v := 0) hx hb dX12_yard_340 rfl ?_
                                          refine q_cald E hC422 (lo := 0) (hi := 6) gca (a := 0) (show (0 : Int32).toInt = 0 from by decide) (by omega) (by omega) (cr_c0 (by omega) (by omega)) dX12_yard_341 (fun v424 ev424 lv424 uv424 => ?_)
                                          have m425 : (sI H422 ca (0 : Int).toNat).toInt = v424.toInt := congrArg Int32.toInt ev424
                                          refine lv_aload_n hx hb dX12_yard_342 rfl (lv_at hl 2 rfl) ?_
                                          refine q_getC E hC422 g0 fa_RX12_35 uc dX12_yard_343 ?_
                                          refine lv_iconst (v := 1) hx hb dX12_yard_346 rfl ?_
                                          refine q_cald E hC422 (lo := 0) (hi := 6) gca (a := 1) (show (1 : Int32).toInt = 1 from by decide) (by omega) (by omega) (cr_c0 (by omega) (by omega)) dX12_yard_347 (fun v426 ev426 lv426 uv426 => ?_)
                                          have m427 : (sI H422 ca (1 : Int).toNat).toInt = v426.toInt := congrArg Int32.toInt ev426
                                          refine lv_imul hx hb dX12_yard_348 (lv_topi (fun v428 ev428 => ?_))
                                          have hpost : KD H0 H422 ca 0 0 ∨ (KD H0 H422 ca 0 520 ∧ YI H422 ca) := Or.inr ⟨kd2, YI.mk hC422 gca cpd (by omega) n0 n1 hxy⟩
                                          have c429 : v428.toInt = v428.toInt := rfl
                                          exact ret v428 H422 locs422 _ _ dX12_yard_349 ⟨hKp422, ⟨hpost, by omega⟩⟩ hC422 hS422
                                        · refine lv_aload_n hx hb dX12_yard_314 rfl (lv_at hl 2 rfl) ?_
                                          refine q_getC E hC422 g0 fa_RX12_35 uc dX12_yard_315 ?_
                                          refine lv_iload_n hx hb dX12_yard_318 rfl (lv_at hl 0 rfl) ?_
                                          refine lv_aload_n hx hb dX12_yard_319 rfl (lv_at hl 2 rfl) ?_
                                          refine q_getC E hC422 g0 fa_RX12_35 uc dX12_yard_320 ?_
                                          refine lv_sipush (v := 2080) hx hb dX12_yard_323 rfl ?_
                                          refine lv_iload_n hx hb dX12_yard_326 rfl (lv_at hl 0 rfl) ?_
                                          refine lv_iadd hx hb dX12_yard_327 (lv_topi (fun v430 ev430 => ?_))
                                          have ev430i : v430.toInt = (2080 + z421) := i_add ev430 (by decide) ev421 (by omega) (by omega)
                                          refine q_craw E hC422 gca (a := (2080 + z421)) ev430i (by omega) (by omega) dX12_yard_328 (fun v431 ev431 tv431 => ?_)
                                          refine q_cast E hC422 hS422 gca (a := z421) ev421 (by omega) (by omega) (cT_nb (k := z421) rfl rfl (by omega) (by omega) tv431) dX12_yard_329 (fun H432 locs432 hC432 hS432 U432 => ?_)
                                          have hKp432 := Kp.upD gca rfl rfl (fun _ => ⟨fun h => absurd h (by decide), fun h => absurd h (by decide), fun h => absurd h (by decide)⟩) U432 hKp422
                                          replace kd2 : KD H0 H432 ca 0 520 := KD.up kd2 U432 (by omega) (by omega)
                                          replace n0 : EQ H432 ca 2080 xx := EQ.up n0 U432 ⟨by omega, by omega⟩ (by omega)
                                          replace n1 : EQ H432 ca 2081 yy := EQ.up n1 U432 ⟨by omega, by omega⟩ (by omega)
                                          have m433 : (sI H432 h0 (X.1.2 11 12)).toInt = (sI H422 h0 (X.1.2 11 12)).toInt := congrArg Int32.toInt (up_nI U432 (ne_k g0 gca (by decide)))
                                          have m434 : (sI H432 h0 (X.1.2 11 14)).toInt = (sI H422 h0 (X.1.2 11 14)).toInt := congrArg Int32.toInt (up_nI U432 (ne_k g0 gca (by decide)))
                                          have m435 := congrArg tk m434
                                          have m436 : (sI H432 h0 (X.1.2 11 16)).toInt = (sI H422 h0 (X.1.2 11 16)).toInt := congrArg Int32.toInt (up_nI U432 (ne_k g0 gca (by decide)))
                                          have m437 : (sI H432 h0 (X.1.2 11 8)).toInt = (sI H422 h0 (X.1.2 11 8)).toInt := congrArg Int32.toInt (up_nI U432 (ne_k g0 gca (by decide)))
                                          have cpd : CPd H432 ca 2080 0 (z421 + 1) := CPd.step cpd (a := z421) (by omega) U432 ev431 (by omega) (by omega) (by omega)
                                          have e438 := up_I U432
                                          obtain ⟨v439, ev439⟩ : ∃ z, z = v421 + Int32.ofInt 1 := ⟨_, rfl⟩
                                          have ev439i : v439.toInt = (z421 + 1) := i_add ev439 ev421 (by decide) (by omega) (by omega)
                                          refine lv_iinc hx hb dX12_yard_330 hl (k := 0) rfl ev439.symm (by decide) rfl (fun ls hl => ?_)
                                          replace hl : lv_has ls 4 [(3, .int v439), (2, .int v46), (0, .ref h0), (1, .int p1)] := hl
                                          refine lv_goto (tgt := 307) hx hb dX12_yard_333 rfl ?_
                                          exact ih422 H432 locs432 v439 ((z421 + 1)) ls (by omega) ev439i (by omega) (by omega) (cpd) (by omega) hC432 hS432 hKp432 kd2 n0 n1 hl
                                    exact L307 _ H419 locs419 0 0 ls (Nat.lt_succ_self _) (by decide) (by omega) (by omega) (CPd.nil (by omega)) (by omega) hC419 hS419 hKp419 kd2 n0 n1 hl
                                  · refine lv_aload_n hx hb dX12_yard_279 rfl (lv_at hl 2 rfl) ?_
                                    refine q_getC E hC419 g0 fa_RX12_35 uc dX12_yard_280 ?_
                                    refine lv_sipush (v := 2214) hx hb dX12_yard_283 rfl ?_
                                    refine lv_iload_n hx hb dX12_yard_286 rfl (lv_at hl 0 rfl) ?_
                                    refine lv_iadd hx hb dX12_yard_287 (lv_topi (fun v440 ev440 => ?_))
                                    have ev440i : v440.toInt = (2214 + z418) := i_add ev440 (by decide) ev418 (by omega) (by omega)
                                    refine lv_aload_n hx hb dX12_yard_288 rfl (lv_at hl 2 rfl) ?_
                                    refine q_getC E hC419 g0 fa_RX12_35 uc dX12_yard_289 ?_
                                    refine lv_sipush (v := 2142) hx hb dX12_yard_292 rfl ?_
                                    refine lv_iload_n hx hb dX12_yard_295 rfl (lv_at hl 0 rfl) ?_
                                    refine lv_iadd hx hb dX12_yard_296 (lv_topi (fun v441 ev441 => ?_))
                                    have ev441i : v441.toInt = (2142 + z418) := i_add ev441 (by decide) ev418 (by omega) (by omega)
                                    refine q_cald E hC419 (lo := 0) (hi := 99) gca (a := (2142 + z418)) ev441i (by omega) (by omega) (cr_n26 (by omega) (by omega)) dX12_yard_297 (fun v442 ev442 lv442 uv442 => ?_)
                                    have m443 : (sI H419 ca ((2142 + z418) : Int).toNat).toInt = v442.toInt := congrArg Int32.toInt ev442
                                    refine q_cast E hC419 hS419 gca (a := (2214 + z418)) ev440i (by omega) (by omega) (cs_n134 (a := (2214 + z418)) (by omega) (by omega)) dX12_yard_298 (fun H444 locs444 hC444 hS444 U444 => ?_)
                                    have hKp444 := Kp.upD gca rfl rfl (fun _ => ⟨fun h => absurd h (by decide), fun h => absurd h (by decide), fun h => absurd h (by decide)⟩) U444 hKp419
                                    replace kd : KD H0 H444 ca 0 0 := KD.up kd U444 (by omega) (by omega)
                                    replace kd2 : KD H0 H444 ca 0 520 := KD.up kd2 U444 (by omega) (by omega)
                                    replace n0 : EQ H444 ca 2080 xx := EQ.up n0 U444 ⟨by omega, by omega⟩ (by omega)
                                    replace n1 : EQ H444 ca 2081 yy := EQ.up n1 U444 ⟨by omega, by omega⟩ (by omega)
                                    have m445 : (sI H444 h0 (X.1.2 11 12)).toInt = (sI H419 h0 (X.1.2 11 12)).toInt := congrArg Int32.toInt (up_nI U444 (ne_k g0 gca (by decide)))
                                    have m446 : (sI H444 h0 (X.1.2 11 14)).toInt = (sI H419 h0 (X.1.2 11 14)).toInt := congrArg Int32.toInt (up_nI U444 (ne_k g0 gca (by decide)))
                                    have m447 := congrArg tk m446
                                    have m448 : (sI H444 h0 (X.1.2 11 16)).toInt = (sI H419 h0 (X.1.2 11 16)).toInt := congrArg Int32.toInt (up_nI U444 (ne_k g0 gca (by decide)))
                                    have m449 : (sI H444 h0 (X.1.2 11 8)).toInt = (sI H419 h0 (X.1.2 11 8)).toInt := congrArg Int32.toInt (up_nI U444 (ne_k g0 gca (by decide)))
                                    have e450 := up_I U444
                                    obtain ⟨v451, ev451⟩ : ∃ z, z = v418 + Int32.ofInt 1 := ⟨_, rfl⟩
                                    have ev451i : v451.toInt = (z418 + 1) := i_add ev451 ev418 (by decide) (by omega) (by omega)
                                    refine lv_iinc hx hb dX12_yard_299 hl (k := 0) rfl ev451.symm (by decide) rfl (fun ls hl => ?_)
                                    replace hl : lv_has ls 4 [(3, .int v451), (2, .int v46), (0, .ref h0), (1, .int p1)] := hl
                                    refine lv_goto (tgt := 273) hx hb dX12_yard_302 rfl ?_
                                    exact ih419 H444 locs444 v451 ((z418 + 1)) ls (by omega) ev451i (by omega) (by omega) (by omega) hC444 hS444 hKp444 kd kd2 n0 n1 hl
                              exact L273 _ H415 locs415 0 0 ls (Nat.lt_succ_self _) (by decide) (by omega) (by omega) (by omega) hC415 hS415 hKp415 kd kd2 n0 n1 hl
                            · refine q_if_ne hx hb (a := 0) (by decide) (tgt := 271) dX12_yard_266 rfl (fun c452 => absurd c452 (by omega)) (fun c452 => ?_)
                              refine lv_iconst (v := (-1)) hx hb dX12_yard_269 rfl ?_
                              have hpost : KD H0 H415 ca 0 0 ∨ (KD H0 H415 ca 0 520 ∧ YI H415 ca) := Or.inl kd
                              have c453 : ((-1) : Int32).toInt = (-1) := (by decide)
                              exact ret (-1) H415 locs415 _ _ dX12_yard_270 ⟨hKp415, ⟨hpost, by omega⟩⟩ hC415 hS415
                          · refine lv_aload_n hx hb dX12_yard_172 rfl (lv_at hl 1 rfl) ?_
                            refine q_goIp (q_runV (As := []) (rest := []) E hC369 hS369 (m_X12_isSchool l X Γ H369 hC369 h0 g0 ca gca uc) cw_X12_isSchool cl_RX12_172 g0 ⟨rfl, rfl⟩ rfl hl.1 rfl (Nat.zero_le _) (by decide) dX12_yard_173) hS369 (fun v454 locs454 hr454 hS454 => ?_)
                            rcases hr454 with rfl | rfl
                            · refine q_if_eq hx hb (a := 0) (by decide) (tgt := 186) dX12_yard_176 rfl (fun c455 => ?_) (fun c455 => absurd c455 (by omega))
                              refine lv_aload_n hx hb dX12_yard_186 rfl (lv_at hl 1 rfl) ?_
                              refine q_goIp (q_runV (As := []) (rest := []) E hC369 hS454 (m_X12_isSnow l X Γ H369 hC369 h0 g0 ca gca uc) cw_X12_isSnow cl_RX12_178 g0 ⟨rfl, rfl⟩ rfl hl.1 rfl (Nat.zero_le _) (by decide) dX12_yard_187) hS454 (fun v456 locs456 hr456 hS456 => ?_)
                              rcases hr456 with rfl | rfl
                              · refine q_if_eq hx hb (a := 0) (by decide) (tgt := 201) dX12_yard_190 rfl (fun c457 => ?_) (fun c457 => absurd c457 (by omega))
                                refine lv_aload_n hx hb dX12_yard_201 rfl (lv_at hl 1 rfl) ?_
                                refine q_goIp (q_runV (As := []) (rest := []) E hC369 hS456 (m_X12_isWall l X Γ H369 hC369 h0 g0 ca gca uc) cw_X12_isWall cl_RX12_163 g0 ⟨rfl, rfl⟩ rfl hl.1 rfl (Nat.zero_le _) (by decide) dX12_yard_202) hS456 (fun v458 locs458 hr458 hS458 => ?_)
                                rcases hr458 with rfl | rfl
                                · refine q_if_eq hx hb (a := 0) (by decide) (tgt := 216) dX12_yard_205 rfl (fun c459 => ?_) (fun c459 => absurd c459 (by omega))
                                  refine lv_aload_n hx hb dX12_yard_216 rfl (lv_at hl 1 rfl) ?_
                                  refine q_goIp (q_runV (As := []) (rest := []) E hC369 hS458 (m_X12_isSun l X Γ H369 hC369 h0 g0 ca gca uc) cw_X12_isSun cl_RX12_187 g0 ⟨rfl, rfl⟩ rfl hl.1 rfl (Nat.zero_le _) (by decide) dX12_yard_217) hS458 (fun v460 locs460 hr460 hS460 => ?_)
                                  rcases hr460 with rfl | rfl
                                  · refine q_if_eq hx hb (a := 0) (by decide) (tgt := 231) dX12_yard_220 rfl (fun c461 => ?_) (fun c461 => absurd c461 (by omega))
                                    refine lv_aload_n hx hb dX12_yard_231 rfl (lv_at hl 1 rfl) ?_
                                    refine q_goIp (q_runV (As := []) (rest := []) E hC369 hS460 (m_X12_isNo l X Γ H369 hC369 h0 g0 ca gca uc) cw_X12_isNo cl_RX12_193 g0 ⟨rfl, rfl⟩ rfl hl.1 rfl (Nat.zero_le _) (by decide) dX12_yard_232) hS460 (fun v462 locs462 hr462 hS462 => ?_)
                                    rcases hr462 with rfl | rfl
                                    · refine q_if_eq hx hb (a := 0) (by decide) (tgt := 245) dX12_yard_235 rfl (fun c463 => ?_) (fun c463 => absurd c463 (by omega))
                                      refine lv_aload_n hx hb dX12_yard_245 rfl (lv_at hl 1 rfl) ?_
                                      refine q_goV (q_runV (As := []) (rest := []) E hC369 hS462 (m_X12_wrong l X Γ H369 hC369 h0 g0 ca gca uc) cw_X12_wrong cl_RX12_231 g0 ⟨rfl, rfl⟩ rfl hl.1 rfl (Nat.zero_le _) (by decide) dX12_yard_246) hS462 (fun H464 locs464 hr464 hC464 hS464 => ?_)
                                      obtain ⟨hp464, hr464⟩ := hr464
                                      have hKp464 := hKp369.tr (hp464.mono rfl)
                                      replace kd : KD H0 H464 ca 0 0 := KD.kp kd hp464 gca rfl rfl
                                      replace kd2 : KD H0 H464 ca 0 520 := KD.kp kd2 hp464 gca rfl rfl
                                      replace n0 : EQ H464 ca 2080 xx := EQ.kn n0 hp464 gca rfl (by unfold dpn; omega)
                                      replace n1 : EQ H464 ca 2081 yy := EQ.kn n1 hp464 gca rfl (by unfold dpn; omega)
                                      have m465 : (sI H464 h0 (X.1.2 11 8)).toInt = (sI H369 h0 (X.1.2 11 8)).toInt := congrArg Int32.toInt (kp_I hp464 g0 (k := 8) rfl (by decide) rfl)
                                      obtain ⟨f464_0, f464_1, f464_2, f464_3⟩ := hr464
                                      refine lv_aload_n hx hb dX12_yard_249 rfl (lv_at hl 1 rfl) ?_
                                      refine lv_aload_n hx hb dX12_yard_250 rfl (lv_at hl 1 rfl) ?_
                                      refine lv_bipush (v := 59) hx hb dX12_yard_251 rfl ?_
                                      have hz9 := tk_or (sI H464 h0 (X.1.2 11 14)).toInt
                                      refine q_goIp (q_runV (As := [.int 59]) (rest := [.ref h0]) E hC464 hS464 (m_X12_isSign l X Γ H464 hC464 h0 g0 59 (a1 := 59) (by decide) ca gca uc) cw_X12_isSign cl_RX12_255 g0 ⟨rfl, rfl⟩ rfl hl.1 rfl (show _ ≤ _ from by simp [Value.category]) (by decide) dX12_yard_253) hS464 (fun v466 locs466 hr466 hS466 => ?_)
                                      have b466 : (v466.toInt = 1 ∧ _) ∨ (v466.toInt = 0 ∧ _) := hr466.imp (fun h => ⟨by rw [h.1]; decide, h.2⟩) (fun h => ⟨by rw [h.1]; decide, h.2⟩)
                                      refine q_goV (q_runV (As := [.int v466]) (rest := []) E hC464 hS466 (m_X12_must l X Γ H464 hC464 h0 g0 v466 (a1 := v466.toInt) rfl ca gca uc (by omega) (by omega)) cw_X12_must cl_RX12_244 g0 ⟨rfl, rfl⟩ rfl hl.1 rfl (Nat.zero_le _) (by decide) dX12_yard_256) hS466 (fun H467 locs467 hr467 hC467 hS467 => ?_)
                                      obtain ⟨hp467, hr467⟩ := hr467
                                      have hKp467 := hKp464.tr (hp467.mono rfl)
                                      replace kd : KD H0 H467 ca 0 0 := KD.kp kd hp467 gca rfl rfl
                                      replace kd2 : KD H0 H467 ca 0 520 := KD.kp kd2 hp467 gca rfl rfl
                                      replace n0 : EQ H467 ca 2080 xx := EQ.kn n0 hp467 gca rfl (by unfold dpn; omega)
                                      replace n1 : EQ H467 ca 2081 yy := EQ.kn n1 hp467 gca rfl (by unfold dpn; omega)
                                      have m468 : (sI H467 h0 (X.1.2 11 8)).toInt = (sI H464 h0 (X.1.2 11 8)).toInt := congrArg Int32.toInt (kp_I hp467 g0 (k := 8) rfl (by decide) rfl)
                                      obtain ⟨f467_0, f467_1, f467_2, f467_3, f467_4⟩ := hr467
                                      refine lv_goto (tgt := 158) hx hb dX12_yard_259 rfl ?_
                                      exact ih369 H467 locs467 ls (by omega) (by omega) (by omega) hC467 hS467 hKp467 kd kd2 n0 n1 hl
                                    · refine q_if_eq hx hb (a := 1) (by decide) (tgt := 245) dX12_yard_235 rfl (fun c469 => absurd c469 (by omega)) (fun c469 => ?_)
                                      refine lv_aload_n hx hb dX12_yard_238 rfl (lv_at hl 1 rfl) ?_
                                      refine q_goV (q_runV (As := []) (rest := []) E hC369 hS462 (m_X12_readArticle l X Γ H369 hC369 h0 g0 ca gca uc) cw_X12_readArticle cl_RX12_264 g0 ⟨rfl, rfl⟩ rfl hl.1 rfl (Nat.zero_le _) (by decide) dX12_yard_239) hS462 (fun H470 locs470 hr470 hC470 hS470 => ?_)
                                      obtain ⟨hp470, hr470⟩ := hr470
                                      have hKp470 := hKp369.tr (hp470.mono rfl)
                                      replace kd : KD H0 H470 ca 0 0 := KD.kp kd hp470 gca rfl rfl
                                      replace kd2 : KD H0 H470 ca 0 520 := KD.kp kd2 hp470 gca rfl rfl
                                      replace n0 : EQ H470 ca 2080 xx := EQ.kn n0 hp470 gca rfl (by unfold dpn; omega)
                                      replace n1 : EQ H470 ca 2081 yy := EQ.kn n1 hp470 gca rfl (by unfold dpn; omega)
                                      have m471 : (sI H470 h0 (X.1.2 11 8)).toInt = (sI H369 h0 (X.1.2 11 8)).toInt := congrArg Int32.toInt (kp_I hp470 g0 (k := 8) rfl (by decide) rfl)
                                      obtain ⟨f470_0, f470_1, f470_2, f470_3⟩ := hr470
                                      refine lv_goto (tgt := 249) hx hb dX12_yard_242 rfl ?_
                                      refine lv_aload_n hx hb dX12_yard_249 rfl (lv_at hl 1 rfl) ?_
                                      refine lv_aload_n hx hb dX12_yard_250 rfl (lv_at hl 1 rfl) ?_
                                      refine lv_bipush (v := 59) hx hb dX12_yard_251 rfl ?_
                                      have hz9 := tk_or (sI H470 h0 (X.1.2 11 14)).toInt
                                      refine q_goIp (q_runV (As := [.int 59]) (rest := [.ref h0]) E hC470 hS470 (m_X12_isSign l X Γ H470 hC470 h0 g0 59 (a1 := 59) (by decide) ca gca uc) cw_X12_isSign cl_RX12_255 g0 ⟨rfl, rfl⟩ rfl hl.1 rfl (show _ ≤ _ from by simp [Value.category]) (by decide) dX12_yard_253) hS470 (fun v472 locs472 hr472 hS472 => ?_)
                                      have b472 : (v472.toInt = 1 ∧ _) ∨ (v472.toInt = 0 ∧ _) := hr472.imp (fun h => ⟨by rw [h.1]; decide, h.2⟩) (fun h => ⟨by rw [h.1]; decide, h.2⟩)
                                      refine q_goV (q_runV (As := [.int v472]) (rest := []) E hC470 hS472 (m_X12_must l X Γ H470 hC470 h0 g0 v472 (a1 := v472.toInt) rfl ca gca uc (by omega) (by omega)) cw_X12_must cl_RX12_244 g0 ⟨rfl, rfl⟩ rfl hl.1 rfl (Nat.zero_le _) (by decide) dX12_yard_256) hS472 (fun H473 locs473 hr473 hC473 hS473 => ?_)
                                      obtain ⟨hp473, hr473⟩ := hr473
                                      have hKp473 := hKp470.tr (hp473.mono rfl)
                                      replace kd : KD H0 H473 ca 0 0 := KD.kp kd hp473 gca rfl rfl
                                      replace kd2 : KD H0 H473 ca 0 520 := KD.kp kd2 hp473 gca rfl rfl
                                      replace n0 : EQ H473 ca 2080 xx := EQ.kn n0 hp473 gca rfl (by unfold dpn; omega)
                                      replace n1 : EQ H473 ca 2081 yy := EQ.kn n1 hp473 gca rfl (by unfold dpn; omega)
                                      have m474 : (sI H473 h0 (X.1.2 11 8)).toInt = (sI H470 h0 (X.1.2 11 8)).toInt := congrArg Int32.toInt (kp_I hp473 g0 (k := 8) rfl (by decide) rfl)
                                      obtain ⟨f473_0, f473_1, f473_2, f473_3, f473_4⟩ := hr473
                                      refine lv_goto (tgt := 158) hx hb dX12_yard_259 rfl ?_
                                      exact ih369 H473 locs473 ls (by omega) (by omega) (by omega) hC473 hS473 hKp473 kd kd2 n0 n1 hl
                                  · refine q_if_eq hx hb (a := 1) (by decide) (tgt := 231) dX12_yard_220 rfl (fun c475 => absurd c475 (by omega)) (fun c475 => ?_)
                                    refine lv_aload_n hx hb dX12_yard_223 rfl (lv_at hl 1 rfl) ?_
                                    refine lv_iconst (v := 2) hx hb dX12_yard_224 rfl ?_
                                    refine q_goV (q_runV (As := [.int 2]) (rest := []) E hC369 hS460 (m_X12_readCell l X Γ H369 hC369 h0 g0 2 (a1 := 2) (by decide) ca gca uc (by omega) (by omega)) cw_X12_readCell cl_RX12_261 g0 ⟨rfl, rfl⟩ rfl hl.1 rfl (Nat.zero_le _) (by decide) dX12_yard_225) hS460 (fun H476 locs476 hr476 hC476 hS476 => ?_)
                                    obtain ⟨hp476, hr476⟩ := hr476
                                    have hKp476 := hKp369.tr (hp476.mono rfl)
                                    replace kd : KD H0 H476 ca 0 0 := KD.kp kd hp476 gca rfl rfl
                                    replace kd2 : KD H0 H476 ca 0 520 := KD.kp kd2 hp476 gca rfl rfl
                                    replace n0 : EQ H476 ca 2080 xx := EQ.kn n0 hp476 gca rfl (by unfold dpn; omega)
                                    replace n1 : EQ H476 ca 2081 yy := EQ.kn n1 hp476 gca rfl (by unfold dpn; omega)
                                    have m477 : (sI H476 h0 (X.1.2 11 8)).toInt = (sI H369 h0 (X.1.2 11 8)).toInt := congrArg Int32.toInt (kp_I hp476 g0 (k := 8) rfl (by decide) rfl)
                                    obtain ⟨f476_0, f476_1, f476_2, f476_3⟩ := hr476
                                    refine lv_goto (tgt := 249) hx hb dX12_yard_228 rfl ?_
                                    refine lv_aload_n hx hb dX12_yard_249 rfl (lv_at hl 1 rfl) ?_
                                    refine lv_aload_n hx hb dX12_yard_250 rfl (lv_at hl 1 rfl) ?_
                                    refine lv_bipush (v := 59) hx hb dX12_yard_251 rfl ?_
                                    have hz9 := tk_or (sI H476 h0 (X.1.2 11 14)).toInt
                                    refine q_goIp (q_runV (As := [.int 59]) (rest := [.ref h0]) E hC476 hS476 (m_X12_isSign l X Γ H476 hC476 h0 g0 59 (a1 := 59) (by decide) ca gca uc) cw_X12_isSign cl_RX12_255 g0 ⟨rfl, rfl⟩ rfl hl.1 rfl (show _ ≤ _ from by simp [Value.category]) (by decide) dX12_yard_253) hS476 (fun v478 locs478 hr478 hS478 => ?_)
                                    have b478 : (v478.toInt = 1 ∧ _) ∨ (v478.toInt = 0 ∧ _) := hr478.imp (fun h => ⟨by rw [h.1]; decide, h.2⟩) (fun h => ⟨by rw [h.1]; decide, h.2⟩)
                                    refine q_goV (q_runV (As := [.int v478]) (rest := []) E hC476 hS478 (m_X12_must l X Γ H476 hC476 h0 g0 v478 (a1 := v478.toInt) rfl ca gca uc (by omega) (by omega)) cw_X12_must cl_RX12_244 g0 ⟨rfl, rfl⟩ rfl hl.1 rfl (Nat.zero_le _) (by decide) dX12_yard_256) hS478 (fun H479 locs479 hr479 hC479 hS479 => ?_)
                                    obtain ⟨hp479, hr479⟩ := hr479
                                    have hKp479 := hKp476.tr (hp479.mono rfl)
                                    replace kd : KD H0 H479 ca 0 0 := KD.kp kd hp479 gca rfl rfl
                                    replace kd2 : KD H0 H479 ca 0 520 := KD.kp kd2 hp479 gca rfl rfl
                                    replace n0 : EQ H479 ca 2080 xx := EQ.kn n0 hp479 gca rfl (by unfold dpn; omega)
                                    replace n1 : EQ H479 ca 2081 yy := EQ.kn n1 hp479 gca rfl (by unfold dpn; omega)
                                    have m480 : (sI H479 h0 (X.1.2 11 8)).toInt = (sI H476 h0 (X.1.2 11 8)).toInt := congrArg Int32.toInt (kp_I hp479 g0 (k := 8) rfl (by decide) rfl)
                                    obtain ⟨f479_0, f479_1, f479_2, f479_3, f479_4⟩ := hr479
                                    refine lv_goto (tgt := 158) hx hb dX12_yard_259 rfl ?_
                                    exact ih369 H479 locs479 ls (by omega) (by omega) (by omega) hC479 hS479 hKp479 kd kd2 n0 n1 hl
                                · refine q_if_eq hx hb (a := 1) (by decide) (tgt := 216) dX12_yard_205 rfl (fun c481 => absurd c481 (by omega)) (fun c481 => ?_)
                                  refine lv_aload_n hx hb dX12_yard_208 rfl (lv_at hl 1 rfl) ?_
                                  refine lv_iconst (v := 1) hx hb dX12_yard_209 rfl ?_
                                  refine q_goV (q_runV (As := [.int 1]) (rest := []) E hC369 hS458 (m_X12_readCell l X Γ H369 hC369 h0 g0 1 (a1 := 1) (by decide) ca gca uc (by omega) (by omega)) cw_X12_readCell cl_RX12_261 g0 ⟨rfl, rfl⟩ rfl hl.1 rfl (Nat.zero_le _) (by decide) dX12_yard_210) hS458 (fun H482 locs482 hr482 hC482 hS482 => ?_)
                                  obtain ⟨hp482, hr482⟩ := hr482
                                  have hKp482 := hKp369.tr (hp482.mono rfl)
                                  replace kd : KD H0 H482 ca 0 0 := KD.kp kd hp482 gca rfl rfl
                                  replace kd2 : KD H0 H482 ca 0 520 := KD.kp kd2 hp482 gca rfl rfl
                                  replace n0 : EQ H482 ca 2080 xx := EQ.kn n0 hp482 gca rfl (by unfold dpn; omega)
                                  replace n1 : EQ H482 ca 2081 yy := EQ.kn n1 hp482 gca rfl (by unfold dpn; omega)
                                  have m483 : (sI H482 h0 (X.1.2 11 8)).toInt = (sI H369 h0 (X.1.2 11 8)).toInt := congrArg Int32.toInt (kp_I hp482 g0 (k := 8) rfl (by decide) rfl)
                                  obtain ⟨f482_0, f482_1, f482_2, f482_3⟩ := hr482
                                  refine lv_goto (tgt := 249) hx hb dX12_yard_213 rfl ?_
                                  refine lv_aload_n hx hb dX12_yard_249 rfl (lv_at hl 1 rfl) ?_
                                  refine lv_aload_n hx hb dX12_yard_250 rfl (lv_at hl 1 rfl) ?_
                                  refine lv_bipush (v := 59) hx hb dX12_yard_251 rfl ?_
                                  have hz9 := tk_or (sI H482 h0 (X.1.2 11 14)).toInt
                                  refine q_goIp (q_runV (As := [.int 59]) (rest := [.ref h0]) E hC482 hS482 (m_X12_isSign l X Γ H482 hC482 h0 g0 59 (a1 := 59) (by decide) ca gca uc) cw_X12_isSign cl_RX12_255 g0 ⟨rfl, rfl⟩ rfl hl.1 rfl (show _ ≤ _ from by simp [Value.category]) (by decide) dX12_yard_253) hS482 (fun v484 locs484 hr484 hS484 => ?_)
                                  have b484 : (v484.toInt = 1 ∧ _) ∨ (v484.toInt = 0 ∧ _) := hr484.imp (fun h => ⟨by rw [h.1]; decide, h.2⟩) (fun h => ⟨by rw [h.1]; decide, h.2⟩)
                                  refine q_goV (q_runV (As := [.int v484]) (rest := []) E hC482 hS484 (m_X12_must l X Γ H482 hC482 h0 g0 v484 (a1 := v484.toInt) rfl ca gca uc (by omega) (by omega)) cw_X12_must cl_RX12_244 g0 ⟨rfl, rfl⟩ rfl hl.1 rfl (Nat.zero_le _) (by decide) dX12_yard_256) hS484 (fun H485 locs485 hr485 hC485 hS485 => ?_)
                                  obtain ⟨hp485, hr485⟩ := hr485
                                  have hKp485 := hKp482.tr (hp485.mono rfl)
                                  replace kd : KD H0 H485 ca 0 0 := KD.kp kd hp485 gca rfl rfl
                                  replace kd2 : KD H0 H485 ca 0 520 := KD.kp kd2 hp485 gca rfl rfl
                                  replace n0 : EQ H485 ca 2080 xx := EQ.kn n0 hp485 gca rfl (by unfold dpn; omega)
                                  replace n1 : EQ H485 ca 2081 yy := EQ.kn n1 hp485 gca rfl (by unfold dpn; omega)
                                  have m486 : (sI H485 h0 (X.1.2 11 8)).toInt = (sI H482 h0 (X.1.2 11 8)).toInt := congrArg Int32.toInt (kp_I hp485 g0 (k := 8) rfl (by decide) rfl)
                                  obtain ⟨f485_0, f485_1, f485_2, f485_3, f485_4⟩ := hr485
                                  refine lv_goto (tgt := 158) hx hb dX12_yard_259 rfl ?_
                                  exact ih369 H485 locs485 ls (by omega) (by omega) (by omega) hC485 hS485 hKp485 kd kd2 n0 n1 hl
                              · refine q_if_eq hx hb (a := 1) (by decide) (tgt := 201) dX12_yard_190 rfl (fun c487 => absurd c487 (by omega)) (fun c487 => ?_)
                                refine lv_aload_n hx hb dX12_yard_193 rfl (lv_at hl 1 rfl) ?_
                                refine lv_iconst (v := 0) hx hb dX12_yard_194 rfl ?_
                                refine q_goV (q_runV (As := [.int 0]) (rest := []) E hC369 hS456 (m_X12_readCell l X Γ H369 hC369 h0 g0 0 (a1 := 0) (by decide) ca gca uc (by omega) (by omega)) cw_X12_readCell cl_RX12_261 g0 ⟨rfl, rfl⟩ rfl hl.1 rfl (Nat.zero_le _) (by decide) dX12_yard_195) hS456 (fun H488 locs488 hr488 hC488 hS488 => ?_)
                                obtain ⟨hp488, hr488⟩ := hr488
                                have hKp488 := hKp369.tr (hp488.mono rfl)
                                replace kd : KD H0 H488 ca 0 0 := KD.kp kd hp488 gca rfl rfl
                                replace kd2 : KD H0 H488 ca 0 520 := KD.kp kd2 hp488 gca rfl rfl
                                replace n0 : EQ H488 ca 2080 xx := EQ.kn n0 hp488 gca rfl (by unfold dpn; omega)
                                replace n1 : EQ H488 ca 2081 yy := EQ.kn n1 hp488 gca rfl (by unfold dpn; omega)
                                have m489 : (sI H488 h0 (X.1.2 11 8)).toInt = (sI H369 h0 (X.1.2 11 8)).toInt := congrArg Int32.toInt (kp_I hp488 g0 (k := 8) rfl (by decide) rfl)
                                obtain ⟨f488_0, f488_1, f488_2, f488_3⟩ := hr488
                                refine lv_goto (tgt := 249) hx hb dX12_yard_198 rfl ?_
                                refine lv_aload_n hx hb dX12_yard_249 rfl (lv_at hl 1 rfl) ?_
                                refine lv_aload_n hx hb dX12_yard_250 rfl (lv_at hl 1 rfl) ?_
                                refine lv_bipush (v := 59) hx hb dX12_yard_251 rfl ?_
                                have hz9 := tk_or (sI H488 h0 (X.1.2 11 14)).toInt
                                refine q_goIp (q_runV (As := [.int 59]) (rest := [.ref h0]) E hC488 hS488 (m_X12_isSign l X Γ H488 hC488 h0 g0 59 (a1 := 59) (by decide) ca gca uc) cw_X12_isSign cl_RX12_255 g0 ⟨rfl, rfl⟩ rfl hl.1 rfl (show _ ≤ _ from by simp [Value.category]) (by decide) dX12_yard_253) hS488 (fun v490 locs490 hr490 hS490 => ?_)
                                have b490 : (v490.toInt = 1 ∧ _) ∨ (v490.toInt = 0 ∧ _) := hr490.imp (fun h => ⟨by rw [h.1]; decide, h.2⟩) (fun h => ⟨by rw [h.1]; decide, h.2⟩)
                                refine q_goV (q_runV (As := [.int v490]) (rest := []) E hC488 hS490 (m_X12_must l X Γ H488 hC488 h0 g0 v490 (a1 := v490.toInt) rfl ca gca uc (by omega) (by omega)) cw_X12_must cl_RX12_244 g0 ⟨rfl, rfl⟩ rfl hl.1 rfl (Nat.zero_le _) (by decide) dX12_yard_256) hS490 (fun H491 locs491 hr491 hC491 hS491 => ?_)
                                obtain ⟨hp491, hr491⟩ := hr491
                                have hKp491 := hKp488.tr (hp491.mono rfl)
                                replace kd : KD H0 H491 ca 0 0 := KD.kp kd hp491 gca rfl rfl
                                replace kd2 : KD H0 H491 ca 0 520 := KD.kp kd2 hp491 gca rfl rfl
                                replace n0 : EQ H491 ca 2080 xx := EQ.kn n0 hp491 gca rfl (by unfold dpn; omega)
                                replace n1 : EQ H491 ca 2081 yy := EQ.kn n1 hp491 gca rfl (by unfold dpn; omega)
                                have m492 : (sI H491 h0 (X.1.2 11 8)).toInt = (sI H488 h0 (X.1.2 11 8)).toInt := congrArg Int32.toInt (kp_I hp491 g0 (k := 8) rfl (by decide) rfl)
                                obtain ⟨f491_0, f491_1, f491_2, f491_3, f491_4⟩ := hr491
                                refine lv_goto (tgt := 158) hx hb dX12_yard_259 rfl ?_
                                exact ih369 H491 locs491 ls (by omega) (by omega) (by omega) hC491 hS491 hKp491 kd kd2 n0 n1 hl
                            · refine q_if_eq hx hb (a := 1) (by decide) (tgt := 186) dX12_yard_176 rfl (fun c493 => absurd c493 (by omega)) (fun c493 => ?_)
                              refine lv_aload_n hx hb dX12_yard_179 rfl (lv_at hl 1 rfl) ?_
                              refine q_goV (q_runV (As := []) (rest := []) E hC369 hS454 (m_X12_readSchool l X Γ H369 hC369 h0 g0 ca gca uc) cw_X12_readSchool cl_RX12_258 g0 ⟨rfl, rfl⟩ rfl hl.1 rfl (Nat.zero_le _) (by decide) dX12_yard_180) hS454 (fun H494 locs494 hr494 hC494 hS494 => ?_)
                              obtain ⟨hp494, hr494⟩ := hr494
                              have hKp494 := hKp369.tr (hp494.mono rfl)
                              replace kd : KD H0 H494 ca 0 0 := KD.kp kd hp494 gca rfl rfl
                              replace kd2 : KD H0 H494 ca 0 520 := KD.kp kd2 hp494 gca rfl rfl
                              replace n0 : EQ H494 ca 2080 xx := EQ.kn n0 hp494 gca rfl (by unfold dpn; omega)
                              replace n1 : EQ H494 ca 2081 yy := EQ.kn n1 hp494 gca rfl (by unfold dpn; omega)
                              have m495 : (sI H494 h0 (X.1.2 11 8)).toInt = (sI H369 h0 (X.1.2 11 8)).toInt := congrArg Int32.toInt (kp_I hp494 g0 (k := 8) rfl (by decide) rfl)
                              obtain ⟨f494_0, f494_1, f494_2, f494_3⟩ := hr494
                              refine lv_goto (tgt := 249) hx hb dX12_yard_183 rfl ?_
                              refine lv_aload_n hx hb dX12_yard_249 rfl (lv_at hl 1 rfl) ?_
                              refine lv_aload_n hx hb dX12_yard_250 rfl (lv_at hl 1 rfl) ?_
                              refine lv_bipush (v := 59) hx hb dX12_yard_251 rfl ?_
                              have hz9 := tk_or (sI H494 h0 (X.1.2 11 14)).toInt
                              refine q_goIp (q_runV (As := [.int 59]) (rest := [.ref h0]) E hC494 hS494 (m_X12_isSign l X Γ H494 hC494 h0 g0 59 (a1 := 59) (by decide) ca gca uc) cw_X12_isSign cl_RX12_255 g0 ⟨rfl, rfl⟩ rfl hl.1 rfl (show _ ≤ _ from by simp [Value.category]) (by decide) dX12_yard_253) hS494 (fun v496 locs496 hr496 hS496 => ?_)
                              have b496 : (v496.toInt = 1 ∧ _) ∨ (v496.toInt = 0 ∧ _) := hr496.imp (fun h => ⟨by rw [h.1]; decide, h.2⟩) (fun h => ⟨by rw [h.1]; decide, h.2⟩)
                              refine q_goV (q_runV (As := [.int v496]) (rest := []) E hC494 hS496 (m_X12_must l X Γ H494 hC494 h0 g0 v496 (a1 := v496.toInt) rfl ca gca uc (by omega) (by omega)) cw_X12_must cl_RX12_244 g0 ⟨rfl, rfl⟩ rfl hl.1 rfl (Nat.zero_le _) (by decide) dX12_yard_256) hS496 (fun H497 locs497 hr497 hC497 hS497 => ?_)
                              obtain ⟨hp497, hr497⟩ := hr497
                              have hKp497 := hKp494.tr (hp497.mono rfl)
                              replace kd : KD H0 H497 ca 0 0 := KD.kp kd hp497 gca rfl rfl
                              replace kd2 : KD H0 H497 ca 0 520 := KD.kp kd2 hp497 gca rfl rfl
                              replace n0 : EQ H497 ca 2080 xx := EQ.kn n0 hp497 gca rfl (by unfold dpn; omega)
                              replace n1 : EQ H497 ca 2081 yy := EQ.kn n1 hp497 gca rfl (by unfold dpn; omega)
                              have m498 : (sI H497 h0 (X.1.2 11 8)).toInt = (sI H494 h0 (X.1.2 11 8)).toInt := congrArg Int32.toInt (kp_I hp497 g0 (k := 8) rfl (by decide) rfl)
                              obtain ⟨f497_0, f497_1, f497_2, f497_3, f497_4⟩ := hr497
                              refine lv_goto (tgt := 158) hx hb dX12_yard_259 rfl ?_
                              exact ih369 H497 locs497 ls (by omega) (by omega) (by omega) hC497 hS497 hKp497 kd kd2 n0 n1 hl
                    exact L158 903 H367 locs367 ls (by omega) (by omega) (by omega) hC367 hS367 hKp367 kd kd2 n0 n1 hl
              · refine lv_aload_n hx hb dX12_yard_57 rfl (lv_at hl 1 rfl) ?_
                refine q_getR E hC41 g0 fa_RX12_41 dX12_yard_58 (fun q499 eq499 gq499 => ?_)
                refine lv_iload_n hx hb dX12_yard_61 rfl (lv_at hl 0 rfl) ?_
                refine lv_iconst (v := 0) hx hb dX12_yard_62 rfl ?_
                refine q_iast E hC41 hS41 gq499 (by decide) rfl rfl (i_in (a := z40) ev40 (by omega) (by omega)) tv_F dX12_yard_63 (fun H500 locs500 hC500 hS500 U500 => ?_)
                have hKp500 := Kp.upA gq499 rfl (by decide) rfl U500 hKp41
                replace kd : KD H0 H500 ca 0 0 := KD.ne kd U500 (nek gq499 gca (by decide))
                replace kd2 : KD H0 H500 ca 0 520 := KD.ne kd2 U500 (nek gq499 gca (by decide))
                have m501 : (sI H500 h0 (X.1.2 11 12)).toInt = (sI H41 h0 (X.1.2 11 12)).toInt := congrArg Int32.toInt (up_nI U500 (ne_k g0 gq499 (by decide)))
                have m502 : (sI H500 h0 (X.1.2 11 14)).toInt = (sI H41 h0 (X.1.2 11 14)).toInt := congrArg Int32.toInt (up_nI U500 (ne_k g0 gq499 (by decide)))
                have m503 := congrArg tk m502
                have m504 : (sI H500 h0 (X.1.2 11 16)).toInt = (sI H41 h0 (X.1.2 11 16)).toInt := congrArg Int32.toInt (up_nI U500 (ne_k g0 gq499 (by decide)))
                have m505 : (sI H500 h0 (X.1.2 11 8)).toInt = (sI H41 h0 (X.1.2 11 8)).toInt := congrArg Int32.toInt (up_nI U500 (ne_k g0 gq499 (by decide)))
                obtain ⟨v506, ev506⟩ : ∃ z, z = v40 + Int32.ofInt 1 := ⟨_, rfl⟩
                have ev506i : v506.toInt = (z40 + 1) := i_add ev506 ev40 (by decide) (by omega) (by omega)
                refine lv_iinc hx hb dX12_yard_64 hl (k := 0) rfl ev506.symm (by decide) rfl (fun ls hl => ?_)
                replace hl : lv_has ls 4 [(2, .int v506), (0, .ref h0), (1, .int p1)] := hl
                refine lv_goto (tgt := 51) hx hb dX12_yard_67 rfl ?_
                exact ih41 H500 locs500 v506 ((z40 + 1)) ls (by omega) ev506i (by omega) (by omega) (by omega) hC500 hS500 hKp500 kd kd2 hl
          exact L51 _ H38 locs38 0 0 ls (Nat.lt_succ_self _) (by decide) (by omega) (by omega) (by omega) hC38 hS38 hKp38 kd kd2 hl
        · refine lv_aload_n hx hb dX12_yard_32 rfl (lv_at hl 1 rfl) ?_
          refine q_getC E hC38 g0 fa_RX12_35 uc dX12_yard_33 ?_
          refine lv_sipush (v := 2080) hx hb dX12_yard_36 rfl ?_
          refine lv_iload_n hx hb dX12_yard_39 rfl (lv_at hl 0 rfl) ?_
          refine lv_iadd hx hb dX12_yard_40 (lv_topi (fun v507 ev507 => ?_))
          have ev507i : v507.toInt = (2080 + z37) := i_add ev507 (by decide) ev37 (by omega) (by omega)
          refine lv_iconst (v := 0) hx hb dX12_yard_41 rfl ?_
          refine q_cast E hC38 hS38 gca (a := (2080 + z37)) ev507i (by omega) (by omega) (cT_nz (by omega) (by omega)) dX12_yard_42 (fun H508 locs508 hC508 hS508 U508 => ?_)
          have hKp508 := Kp.upD gca rfl rfl (fun _ => ⟨fun h => absurd h (by decide), fun h => absurd h (by decide), fun h => absurd h (by decide)⟩) U508 hKp38
          replace kd : KD H0 H508 ca 0 0 := KD.up kd U508 (by omega) (by omega)
          replace kd2 : KD H0 H508 ca 0 520 := KD.up kd2 U508 (by omega) (by omega)
          have m509 : (sI H508 h0 (X.1.2 11 12)).toInt = (sI H38 h0 (X.1.2 11 12)).toInt := congrArg Int32.toInt (up_nI U508 (ne_k g0 gca (by decide)))
          have m510 : (sI H508 h0 (X.1.2 11 14)).toInt = (sI H38 h0 (X.1.2 11 14)).toInt := congrArg Int32.toInt (up_nI U508 (ne_k g0 gca (by decide)))
          have m511 := congrArg tk m510
          have m512 : (sI H508 h0 (X.1.2 11 16)).toInt = (sI H38 h0 (X.1.2 11 16)).toInt := congrArg Int32.toInt (up_nI U508 (ne_k g0 gca (by decide)))
          have m513 : (sI H508 h0 (X.1.2 11 8)).toInt = (sI H38 h0 (X.1.2 11 8)).toInt := congrArg Int32.toInt (up_nI U508 (ne_k g0 gca (by decide)))
          have e514 := up_I U508
          obtain ⟨v515, ev515⟩ : ∃ z, z = v37 + Int32.ofInt 1 := ⟨_, rfl⟩
          have ev515i : v515.toInt = (z37 + 1) := i_add ev515 ev37 (by decide) (by omega) (by omega)
          refine lv_iinc hx hb dX12_yard_43 hl (k := 0) rfl ev515.symm (by decide) rfl (fun ls hl => ?_)
          replace hl : lv_has ls 4 [(2, .int v515), (0, .ref h0), (1, .int p1)] := hl
          refine lv_goto (tgt := 25) hx hb dX12_yard_46 rfl ?_
          exact ih38 H508 locs508 v515 ((z37 + 1)) ls (by omega) ev515i (by omega) (by omega) (by omega) hC508 hS508 hKp508 kd kd2 hl
    exact L25 _ H35 locs35 0 0 ls (Nat.lt_succ_self _) (by decide) (by omega) (by omega) (by omega) hC35 hS35 hKp35 kd kd2 hl
  · refine q_if_ne hx hb (a := 0) (by decide) (tgt := 23) dX12_yard_18 rfl (fun c516 => absurd c516 (by omega)) (fun c516 => ?_)
    refine lv_iconst (v := (-1)) hx hb dX12_yard_21 rfl ?_
    have hpost : KD H0 H35 ca 0 0 ∨ (KD H0 H35 ca 0 520 ∧ YI H35 ca) := Or.inl kd
    have c517 : ((-1) : Int32).toInt = (-1) := (by decide)
    exact ret (-1) H35 locs35 _ _ dX12_yard_22 ⟨hKp35, ⟨hpost, by omega⟩⟩ hC35 hS35
