set_option maxRecDepth 100000 in
set_option maxHeartbeats 4000000 in
theorem m_X12_isWell (l : Launch) (X : xW) (Γ : Nat → Option Nat) (H0 : Heap) (hC0 : Conf X Γ H0) (h0 : Nat) (g0 : Γ h0 = some 11) (ca : Nat) (gca : Γ ca = some 64) (uc : ∀ a, Γ a = some 64 → a = ca) : Ctr l X Γ yX12_isWell cX12_isWell 1 (some .boolean) 1 [.ref h0] H0 (QI X Γ (fun v H1 => Kp X Γ [1, 6, 7, 8, 9, 10, 11, 12, 14, 15, 16, 17] H0 H1 ∧ ((v = 1 ∧ ((sI H0 h0 (X.1.2 11 12)).toInt = 0)) ∨ (v = 0 ∧ (True))))) := by
  refine q_enterZ (own := "SnowFortsModel") (by decide) rfl (Nat.le_of_ble_eq_true rfl) ?_
  intro p e s m args below meth c ls Qz E hl ret hS0
  have hx := E.1; have hb := E.2.1
  have hKp0 : Kp X Γ [1, 6, 7, 8, 9, 10, 11, 12, 14, 15, 16, 17] H0 H0 := Kp.rf
  have hl : lv_has ls 1 [(0, .ref h0)] := hl
  refine lv_aload_n hx hb dX12_isWell_0 rfl (lv_at hl 0 rfl) ?_
  refine lv_aload_n hx hb dX12_isWell_1 rfl (lv_at hl 0 rfl) ?_
  refine q_getI E hC0 g0 fa_RX12_218 dX12_isWell_2 (fun v21 ev21 lv21 uv21 => ?_)
  have m22 : (sI H0 h0 (X.1.2 11 12)).toInt = v21.toInt := (congrArg Int32.toInt ev21).trans rfl
  refine q_put E hC0 hS0 g0 fp_RX12_28 tv_F rfl rfl dX12_isWell_5 (fun H23 locs23 hC23 hS23 U23 => ?_)
  have hKp23 := Kp.upO E g0 fp_RX12_28 rfl U23 hKp0
  have e24 := up_I U23
  have m25 : (sI H23 h0 (X.1.2 11 12)).toInt = (sI H0 h0 (X.1.2 11 12)).toInt := congrArg Int32.toInt (up_nI U23 (ne_f E 11 12 10 rfl (by decide) (by decide) (by decide)))
  refine lv_aload_n hx hb dX12_isWell_8 rfl (lv_at hl 0 rfl) ?_
  refine lv_aload_n hx hb dX12_isWell_9 rfl (lv_at hl 0 rfl) ?_
  have e27 := (up_nI U23 (ne_f E 11 12 10 rfl (by decide) (by decide) (by decide))).trans ev21
  refine q_getI E hC23 g0 fa_RX12_218 dX12_isWell_10 (fun v26 ev26 lv26 uv26 => ?_)
  have qv26 := e27.symm.trans ev26; subst qv26
  have m28 : (sI H23 h0 (X.1.2 11 12)).toInt = v21.toInt := (congrArg Int32.toInt ev26).trans rfl
  refine q_if_ne hx hb (a := v21.toInt) rfl (tgt := 20) dX12_isWell_13 rfl (fun c29 => ?_) (fun c29 => ?_)
  · refine lv_aload_n hx hb dX12_isWell_20 rfl (lv_at hl 0 rfl) ?_
    refine q_getI E hC23 g0 fa_RX12_221 dX12_isWell_21 (fun v30 ev30 _ _ => ?_)
    refine q_put E hC23 hS23 g0 fp_RX12_32 tv_F rfl rfl dX12_isWell_24 (fun H31 locs31 hC31 hS31 U31 => ?_)
    have hKp31 := Kp.upO E g0 fp_RX12_32 rfl U31 hKp23
    have e32 := up_I U31
    have m33 : (sI H31 h0 (X.1.2 11 12)).toInt = (sI H23 h0 (X.1.2 11 12)).toInt := congrArg Int32.toInt (up_nI U31 (ne_f E 11 12 11 rfl (by decide) (by decide) (by decide)))
    refine lv_aload_n hx hb dX12_isWell_27 rfl (lv_at hl 0 rfl) ?_
    have e35 := (up_nI U31 (ne_f E 11 12 11 rfl (by decide) (by decide) (by decide))).trans e27
    refine q_getI E hC31 g0 fa_RX12_218 dX12_isWell_28 (fun v34 ev34 lv34 uv34 => ?_)
    have qv34 := e35.symm.trans ev34; subst qv34
    have m36 : (sI H31 h0 (X.1.2 11 12)).toInt = v21.toInt := (congrArg Int32.toInt ev34).trans rfl
    refine q_if_eq hx hb (a := v21.toInt) rfl (tgt := 43) dX12_isWell_31 rfl (fun c37 => absurd c37 (by omega)) (fun c37 => ?_)
    refine lv_aload_n hx hb dX12_isWell_34 rfl (lv_at hl 0 rfl) ?_
    refine lv_bipush (v := 10) hx hb dX12_isWell_35 rfl ?_
    refine q_goI (q_runV (As := [.int 10]) (rest := []) E hC31 hS31 (m_X12_no l X Γ H31 hC31 h0 g0 10 (a1 := 10) (by decide) ca gca uc) cw_X12_no cl_RX12_84 g0 ⟨rfl, rfl⟩ rfl hl.1 rfl (Nat.zero_le _) (by decide) dX12_isWell_37) hS31 (fun v38 H38 locs38 hr38 hC38 hS38 => ?_)
    obtain ⟨hp38, hr38⟩ := hr38
    have hKp38 := hKp31.tr (hp38.mono rfl)
    rcases hr38 with ⟨rfl, f38a⟩ | ⟨rfl, -⟩
    · exact absurd f38a (by decide)
    · refine q_if_eq hx hb (a := 0) (by decide) (tgt := 47) dX12_isWell_40 rfl (fun c39 => ?_) (fun c39 => absurd c39 (by omega))
      refine lv_iconst (v := 0) hx hb dX12_isWell_47 rfl ?_
      exact ret 0 H38 locs38 _ _ dX12_isWell_48 (Or.inl rfl) ⟨hKp38, Or.inr ⟨rfl, trivial⟩⟩ hC38 hS38
  · refine lv_iconst (v := (-1)) hx hb dX12_isWell_16 rfl ?_
    refine lv_goto (tgt := 24) hx hb dX12_isWell_17 rfl ?_
    refine q_put E hC23 hS23 g0 fp_RX12_32 tv_F rfl rfl dX12_isWell_24 (fun H40 locs40 hC40 hS40 U40 => ?_)
    have hKp40 := Kp.upO E g0 fp_RX12_32 rfl U40 hKp23
    have e41 := up_I U40
    have m42 : (sI H40 h0 (X.1.2 11 12)).toInt = (sI H23 h0 (X.1.2 11 12)).toInt := congrArg Int32.toInt (up_nI U40 (ne_f E 11 12 11 rfl (by decide) (by decide) (by decide)))
    refine lv_aload_n hx hb dX12_isWell_27 rfl (lv_at hl 0 rfl) ?_
    have e44 := (up_nI U40 (ne_f E 11 12 11 rfl (by decide) (by decide) (by decide))).trans e27
    refine q_getI E hC40 g0 fa_RX12_218 dX12_isWell_28 (fun v43 ev43 lv43 uv43 => ?_)
    have qv43 := e44.symm.trans ev43; subst qv43
    have m45 : (sI H40 h0 (X.1.2 11 12)).toInt = v21.toInt := (congrArg Int32.toInt ev43).trans rfl
    refine q_if_eq hx hb (a := v21.toInt) rfl (tgt := 43) dX12_isWell_31 rfl (fun c46 => ?_) (fun c46 => absurd c46 (by omega))
    refine lv_iconst (v := 1) hx hb dX12_isWell_43 rfl ?_
    refine lv_goto (tgt := 48) hx hb dX12_isWell_44 rfl ?_
    exact ret 1 H40 locs40 _ _ dX12_isWell_48 (Or.inr rfl) ⟨hKp40, Or.inl ⟨rfl, by omega⟩⟩ hC40 hS40
set_option maxRecDepth 100000 in
set_option maxHeartbeats 4000000 in
theorem m_X12_yard (l : Launch) (X : xW) (Γ : Nat → Option Nat) (H0 : Heap) (hC0 : Conf X Γ H0) (h0 : Nat) (g0 : Γ h0 = some 11) (p1 : Int32) {a1 : Int} (e1 : p1.toInt = a1) (ca : Nat) (gca : Γ ca = some 64) (uc : ∀ a, Γ a = some 64 → a = ca) : Ctr l X Γ yX12_yard cX12_yard 4 (some .int) 5 [.ref h0, .int p1] H0 (QI X Γ (fun v H1 => Kp X Γ [1, 6, 8, 9, 11, 12, 14] H0 H1 ∧ ((KD H0 H1 ca 0 0 ∨ (KD H0 H1 ca 0 520 ∧ YI H1 ca))))) := by
  refine q_enterI (own := "SnowFortsModel") (by decide) rfl (Nat.le_of_ble_eq_true rfl) ?_
  intro p e s m args below meth c ls Qz E hl ret hS0
  have hx := E.1; have hb := E.2.1
  have hKp0 : Kp X Γ [1, 6, 8, 9, 11, 12, 14] H0 H0 := Kp.rf
  have hl : lv_has ls 4 [(0, .ref h0), (1, .int p1)] := hl
  have kd : KD H0 H0 ca 0 0 := KD.rf
  have kd2 : KD H0 H0 ca 0 520 := KD.rf
  refine lv_aload_n hx hb dX12_yard_0 rfl (lv_at hl 0 rfl) ?_
  refine lv_iconst (v := 0) hx hb dX12_yard_1 rfl ?_
  refine q_put E hC0 hS0 g0 fp_RX12_69 tv_F rfl rfl dX12_yard_2 (fun H21 locs21 hC21 hS21 U21 => ?_)
  have hKp21 := Kp.upO E g0 fp_RX12_69 rfl U21 hKp0
  have e22 := up_I U21
  have kd : KD H0 H21 ca 0 0 := KD.ne kd U21 (nek g0 gca (by decide))
  have kd2 : KD H0 H21 ca 0 520 := KD.ne kd2 U21 (nek g0 gca (by decide))
  have m23 : (sI H21 h0 (X.1.2 11 12)).toInt = (sI H0 h0 (X.1.2 11 12)).toInt := congrArg Int32.toInt (up_nI U21 (ne_f E 11 12 1 rfl (by decide) (by decide) (by decide)))
  have m24 : (sI H21 h0 (X.1.2 11 14)).toInt = (sI H0 h0 (X.1.2 11 14)).toInt := congrArg Int32.toInt (up_nI U21 (ne_f E 11 14 1 rfl (by decide) (by decide) (by decide)))
  have m25 := congrArg tk m24
  have m26 : (sI H21 h0 (X.1.2 11 16)).toInt = (sI H0 h0 (X.1.2 11 16)).toInt := congrArg Int32.toInt (up_nI U21 (ne_f E 11 16 1 rfl (by decide) (by decide) (by decide)))
  refine lv_aload_n hx hb dX12_yard_5 rfl (lv_at hl 0 rfl) ?_
  refine lv_iconst (v := 0) hx hb dX12_yard_6 rfl ?_
  refine q_put E hC21 hS21 g0 fp_RX12_72 tv_F rfl rfl dX12_yard_7 (fun H27 locs27 hC27 hS27 U27 => ?_)
  have hKp27 := Kp.upO E g0 fp_RX12_72 rfl U27 hKp21
  have e28 := up_I U27
  have kd : KD H0 H27 ca 0 0 := KD.ne kd U27 (nek g0 gca (by decide))
  have kd2 : KD H0 H27 ca 0 520 := KD.ne kd2 U27 (nek g0 gca (by decide))
  have m29 : (sI H27 h0 (X.1.2 11 12)).toInt = (sI H21 h0 (X.1.2 11 12)).toInt := congrArg Int32.toInt (up_nI U27 (ne_f E 11 12 0 rfl (by decide) (by decide) (by decide)))
  have m30 : (sI H27 h0 (X.1.2 11 14)).toInt = (sI H21 h0 (X.1.2 11 14)).toInt := congrArg Int32.toInt (up_nI U27 (ne_f E 11 14 0 rfl (by decide) (by decide) (by decide)))
  have m31 := congrArg tk m30
  have m32 : (sI H27 h0 (X.1.2 11 16)).toInt = (sI H21 h0 (X.1.2 11 16)).toInt := congrArg Int32.toInt (up_nI U27 (ne_f E 11 16 0 rfl (by decide) (by decide) (by decide)))
  refine lv_aload_n hx hb dX12_yard_10 rfl (lv_at hl 0 rfl) ?_
  refine lv_iload_n hx hb dX12_yard_11 rfl (lv_at hl 1 rfl) ?_
  refine lv_sipush (v := 900) hx hb dX12_yard_12 rfl ?_
  refine q_goI (q_runV (As := [.int p1, .int 900]) (rest := []) E hC27 hS27 (m_X12_opens l X Γ H27 hC27 h0 g0 p1 (a1 := a1) e1 900 (a2 := 900) (by decide) ca gca uc) cw_X12_opens cl_RX12_251 g0 ⟨rfl, rfl⟩ rfl hl.1 rfl (Nat.zero_le _) (by decide) dX12_yard_15) hS27 (fun v33 H33 locs33 hr33 hC33 hS33 => ?_)
  obtain ⟨hp33, hr33⟩ := hr33
  have hKp33 := hKp27.tr (hp33.mono rfl)
  have kd : KD H0 H33 ca 0 0 := KD.kp kd hp33 gca rfl rfl
  have kd2 : KD H0 H33 ca 0 520 := KD.kp kd2 hp33 gca rfl rfl
  rcases hr33 with ⟨rfl, f33a⟩ | ⟨rfl, -⟩
  · refine q_if_ne hx hb (a := 1) (by decide) (tgt := 23) dX12_yard_18 rfl (fun c34 => ?_) (fun c34 => absurd c34 (by omega))
    refine lv_iconst (v := 0) hx hb dX12_yard_23 rfl ?_
    refine lv_istore_n hx hb dX12_yard_24 rfl hl (by decide) rfl (fun ls hl => ?_)
    have hl : lv_has ls 4 [(2, .int 0), (0, .ref h0), (1, .int p1)] := hl
    have L25 : ∀ (n36 : Nat) (H36 : Heap) (locs36 : List Loc) (v35 : Int32) (z35 : Int) (ls : Array Slot), (520 - z35).toNat < n36 → v35.toInt = z35 → z35 ≤ 520 → 0 ≤ z35 → Conf X Γ H36 → va_S (AΓ Γ) H0 H36 locs36 → Kp X Γ [1, 6, 8, 9, 11, 12, 14] H0 H36 → (KD H0 H36 ca 0 0) → (KD H0 H36 ca 0 520) → lv_has ls 4 [(2, .int v35), (0, .ref h0), (1, .int p1)] → W p l e (rmL 5) s m args below meth c H36 locs36 0 0 Qz (F0 m 25 ls []) := by
      intro n36
      induction n36 with
      | zero => intro H36 locs36 v35 z35 ls hm36 ev35 iv36_0 iv36_1 hC36 hS36 hKp36 kd kd2 hl; exact absurd hm36 (Nat.not_lt_zero _)
      | succ n36 ih36 =>
        intro H36 locs36 v35 z35 ls hm36 ev35 iv36_0 iv36_1 hC36 hS36 hKp36 kd kd2 hl
        refine lv_iload_n hx hb dX12_yard_25 rfl (lv_at hl 0 rfl) ?_
        refine lv_sipush (v := 520) hx hb dX12_yard_26 rfl ?_
        refine q_icmp_ge hx hb (a := z35) (b := 520) ev35 (by decide) (tgt := 49) dX12_yard_29 rfl (fun c37 => ?_) (fun c37 => ?_)
        · refine lv_iconst (v := 0) hx hb dX12_yard_49 rfl ?_
          refine lv_istore_n hx hb dX12_yard_50 rfl hl (by decide) rfl (fun ls hl => ?_)
          have hl : lv_has ls 4 [(2, .int 0), (0, .ref h0), (1, .int p1)] := hl
          have L51 : ∀ (n39 : Nat) (H39 : Heap) (locs39 : List Loc) (v38 : Int32) (z38 : Int) (ls : Array Slot), (108 - z38).toNat < n39 → v38.toInt = z38 → z38 ≤ 108 → 0 ≤ z38 → Conf X Γ H39 → va_S (AΓ Γ) H0 H39 locs39 → Kp X Γ [1, 6, 8, 9, 11, 12, 14] H0 H39 → (KD H0 H39 ca 0 0) → (KD H0 H39 ca 0 520) → lv_has ls 4 [(2, .int v38), (0, .ref h0), (1, .int p1)] → W p l e (rmL 5) s m args below meth c H39 locs39 0 0 Qz (F0 m 51 ls []) := by
            intro n39
            induction n39 with
            | zero => intro H39 locs39 v38 z38 ls hm39 ev38 iv39_0 iv39_1 hC39 hS39 hKp39 kd kd2 hl; exact absurd hm39 (Nat.not_lt_zero _)
            | succ n39 ih39 =>
              intro H39 locs39 v38 z38 ls hm39 ev38 iv39_0 iv39_1 hC39 hS39 hKp39 kd kd2 hl
              refine lv_iload_n hx hb dX12_yard_51 rfl (lv_at hl 0 rfl) ?_
              refine lv_bipush (v := 108) hx hb dX12_yard_52 rfl ?_
              refine q_icmp_ge hx hb (a := z38) (b := 108) ev38 (by decide) (tgt := 70) dX12_yard_54 rfl (fun c40 => ?_) (fun c40 => ?_)
              · refine lv_aload_n hx hb dX12_yard_70 rfl (lv_at hl 1 rfl) ?_
                refine lv_aload_n hx hb dX12_yard_71 rfl (lv_at hl 1 rfl) ?_
                refine q_goIp (q_runV (As := []) (rest := [.ref h0]) E hC39 hS39 (m_X12_isWide l X Γ H39 hC39 h0 g0 ca gca uc) cw_X12_isWide cl_RX12_166 g0 ⟨rfl, rfl⟩ rfl hl.1 rfl (show _ ≤ _ from by simp [Value.category]) (by decide) dX12_yard_72) hS39 (fun v41 locs41 hr41 hS41 => ?_)
                have b41 : v41.toInt = 0 ∨ v41.toInt = 1 := hr41.imp (fun h => by rw [h]; decide) (fun h => by rw [h]; decide)
                refine q_goV (q_runV (As := [.int v41]) (rest := []) E hC39 hS41 (m_X12_must l X Γ H39 hC39 h0 g0 v41 (a1 := v41.toInt) rfl ca gca uc (by omega) (by omega)) cw_X12_must cl_RX12_244 g0 ⟨rfl, rfl⟩ rfl hl.1 rfl (Nat.zero_le _) (by decide) dX12_yard_75) hS41 (fun H42 locs42 hr42 hC42 hS42 => ?_)
                obtain ⟨hp42, hr42⟩ := hr42
                have hKp42 := hKp39.tr (hp42.mono rfl)
                have kd : KD H0 H42 ca 0 0 := KD.kp kd hp42 gca rfl rfl
                have kd2 : KD H0 H42 ca 0 520 := KD.kp kd2 hp42 gca rfl rfl
                obtain ⟨f42_0, f42_1, f42_2, f42_3, f42_4⟩ := hr42
                refine lv_aload_n hx hb dX12_yard_78 rfl (lv_at hl 1 rfl) ?_
                refine q_getI E hC42 g0 fa_RX12_114 dX12_yard_79 (fun v43 ev43 lv43 uv43 => ?_)
                refine lv_istore_n hx hb dX12_yard_82 rfl hl (by decide) rfl (fun ls hl => ?_)
                have hl : lv_has ls 4 [(2, .int v43), (0, .ref h0), (1, .int p1)] := hl
                refine lv_aload_n hx hb dX12_yard_83 rfl (lv_at hl 1 rfl) ?_
                refine q_getC E hC42 g0 fa_RX12_35 uc dX12_yard_84 ?_
                refine lv_sipush (v := 2080) hx hb dX12_yard_87 rfl ?_
                refine lv_aload_n hx hb dX12_yard_90 rfl (lv_at hl 1 rfl) ?_
                refine lv_iconst (v := 2) hx hb dX12_yard_91 rfl ?_
                refine lv_bipush (v := 6) hx hb dX12_yard_92 rfl ?_
                refine q_goI (q_runV (As := [.int 2, .int 6]) (rest := [.int 2080, .ref ca]) E hC42 hS42 (m_X12_count l X Γ H42 hC42 h0 g0 2 (a1 := 2) (by decide) 6 (a2 := 6) (by decide) ca gca uc (by omega) (by omega) (by omega) (by omega)) cw_X12_count cl_RX12_248 g0 ⟨rfl, rfl⟩ rfl hl.1 rfl (show _ ≤ _ from by simp [Value.category]) (by decide) dX12_yard_94) hS42 (fun v44 H44 locs44 hr44 hC44 hS44 => ?_)
                obtain ⟨hp44, hr44⟩ := hr44
                have hKp44 := hKp42.tr (hp44.mono rfl)
                have kd : KD H0 H44 ca 0 0 := KD.kp kd hp44 gca rfl rfl
                have kd2 : KD H0 H44 ca 0 520 := KD.kp kd2 hp44 gca rfl rfl
                obtain ⟨f44_0, f44_1, f44_2, f44_3, f44_4, f44_5, f44_6, f44_7⟩ := hr44
                refine q_cast E hC44 hS44 gca (a := 2080) (show (2080 : Int32).toInt = 2080 from by decide) (by omega) (by omega) (cs_n0 (a := 2080) (b := v44.toInt) (by omega) (by omega) rfl (by omega) (by omega)) dX12_yard_97 (fun H45 locs45 hC45 hS45 U45 => ?_)
                have hKp45 := Kp.upD gca rfl rfl (fun _ => ⟨fun h => absurd h (by decide), fun h => absurd h (by decide), fun h => absurd h (by decide)⟩) U45 hKp44
                have kd : KD H0 H45 ca 0 0 := KD.up kd U45 (by omega) (by omega)
                have kd2 : KD H0 H45 ca 0 520 := KD.up kd2 U45 (by omega) (by omega)
                have m46 : (sI H45 h0 (X.1.2 11 12)).toInt = (sI H44 h0 (X.1.2 11 12)).toInt := congrArg Int32.toInt (up_nI U45 (ne_k g0 gca (by decide)))
                have m47 : (sI H45 h0 (X.1.2 11 14)).toInt = (sI H44 h0 (X.1.2 11 14)).toInt := congrArg Int32.toInt (up_nI U45 (ne_k g0 gca (by decide)))
                have m48 := congrArg tk m47
                have m49 : (sI H45 h0 (X.1.2 11 16)).toInt = (sI H44 h0 (X.1.2 11 16)).toInt := congrArg Int32.toInt (up_nI U45 (ne_k g0 gca (by decide)))
                obtain ⟨xx, hxx⟩ : ∃ z, v44.toInt = z := ⟨_, rfl⟩
                have n0 : EQ H45 ca 2080 xx := (congrArg Int32.toInt (up_I U45)).trans (rfl.trans hxx)
                have e50 := up_I U45
                refine lv_aload_n hx hb dX12_yard_98 rfl (lv_at hl 1 rfl) ?_
                refine q_getI E hC45 g0 fa_RX12_218 dX12_yard_99 (fun v51 ev51 lv51 uv51 => ?_)
                have m52 : (sI H45 h0 (X.1.2 11 12)).toInt = v51.toInt := (congrArg Int32.toInt ev51).trans rfl
                refine q_if_ne hx hb (a := v51.toInt) rfl (tgt := 125) dX12_yard_102 rfl (fun c53 => ?_) (fun c53 => ?_)
                · refine lv_aload_n hx hb dX12_yard_125 rfl (lv_at hl 1 rfl) ?_
                  refine lv_aload_n hx hb dX12_yard_126 rfl (lv_at hl 1 rfl) ?_
                  refine q_goIp (q_runV (As := []) (rest := [.ref h0]) E hC45 hS45 (m_X12_isHigh l X Γ H45 hC45 h0 g0 ca gca uc) cw_X12_isHigh cl_RX12_169 g0 ⟨rfl, rfl⟩ rfl hl.1 rfl (show _ ≤ _ from by simp [Value.category]) (by decide) dX12_yard_127) hS45 (fun v54 locs54 hr54 hS54 => ?_)
                  have b54 : v54.toInt = 0 ∨ v54.toInt = 1 := hr54.imp (fun h => by rw [h]; decide) (fun h => by rw [h]; decide)
                  refine q_goV (q_runV (As := [.int v54]) (rest := []) E hC45 hS54 (m_X12_must l X Γ H45 hC45 h0 g0 v54 (a1 := v54.toInt) rfl ca gca uc (by omega) (by omega)) cw_X12_must cl_RX12_244 g0 ⟨rfl, rfl⟩ rfl hl.1 rfl (Nat.zero_le _) (by decide) dX12_yard_130) hS54 (fun H55 locs55 hr55 hC55 hS55 => ?_)
                  obtain ⟨hp55, hr55⟩ := hr55
                  have hKp55 := hKp45.tr (hp55.mono rfl)
                  have kd : KD H0 H55 ca 0 0 := KD.kp kd hp55 gca rfl rfl
                  have kd2 : KD H0 H55 ca 0 520 := KD.kp kd2 hp55 gca rfl rfl
                  have n0 : EQ H55 ca 2080 xx := EQ.kn n0 hp55 gca rfl (by unfold dpn; omega)
                  obtain ⟨f55_0, f55_1, f55_2, f55_3, f55_4⟩ := hr55
                  refine lv_aload_n hx hb dX12_yard_133 rfl (lv_at hl 1 rfl) ?_
                  refine q_getC E hC55 g0 fa_RX12_35 uc dX12_yard_134 ?_
                  refine lv_sipush (v := 2081) hx hb dX12_yard_137 rfl ?_
                  refine lv_aload_n hx hb dX12_yard_140 rfl (lv_at hl 1 rfl) ?_
                  refine lv_iconst (v := 1) hx hb dX12_yard_141 rfl ?_
                  refine lv_bipush (v := 6) hx hb dX12_yard_142 rfl ?_
                  refine q_goI (q_runV (As := [.int 1, .int 6]) (rest := [.int 2081, .ref ca]) E hC55 hS55 (m_X12_count l X Γ H55 hC55 h0 g0 1 (a1 := 1) (by decide) 6 (a2 := 6) (by decide) ca gca uc (by omega) (by omega) (by omega) (by omega)) cw_X12_count cl_RX12_248 g0 ⟨rfl, rfl⟩ rfl hl.1 rfl (show _ ≤ _ from by simp [Value.category]) (by decide) dX12_yard_144) hS55 (fun v56 H56 locs56 hr56 hC56 hS56 => ?_)
                  obtain ⟨hp56, hr56⟩ := hr56
                  have hKp56 := hKp55.tr (hp56.mono rfl)
                  have kd : KD H0 H56 ca 0 0 := KD.kp kd hp56 gca rfl rfl
                  have kd2 : KD H0 H56 ca 0 520 := KD.kp kd2 hp56 gca rfl rfl
                  have n0 : EQ H56 ca 2080 xx := EQ.kn n0 hp56 gca rfl (by unfold dpn; omega)
                  obtain ⟨f56_0, f56_1, f56_2, f56_3, f56_4, f56_5, f56_6, f56_7⟩ := hr56
                  refine q_cast E hC56 hS56 gca (a := 2081) (show (2081 : Int32).toInt = 2081 from by decide) (by omega) (by omega) (cs_n0 (a := 2081) (b := v56.toInt) (by omega) (by omega) rfl (by omega) (by omega)) dX12_yard_147 (fun H57 locs57 hC57 hS57 U57 => ?_)
                  have hKp57 := Kp.upD gca rfl rfl (fun _ => ⟨fun h => absurd h (by decide), fun h => absurd h (by decide), fun h => absurd h (by decide)⟩) U57 hKp56
                  have kd : KD H0 H57 ca 0 0 := KD.up kd U57 (by omega) (by omega)
                  have kd2 : KD H0 H57 ca 0 520 := KD.up kd2 U57 (by omega) (by omega)
                  have n0 : EQ H57 ca 2080 xx := EQ.up n0 U57 ⟨by omega, by omega⟩ (by omega)
                  have m58 : (sI H57 h0 (X.1.2 11 12)).toInt = (sI H56 h0 (X.1.2 11 12)).toInt := congrArg Int32.toInt (up_nI U57 (ne_k g0 gca (by decide)))
                  have m59 : (sI H57 h0 (X.1.2 11 14)).toInt = (sI H56 h0 (X.1.2 11 14)).toInt := congrArg Int32.toInt (up_nI U57 (ne_k g0 gca (by decide)))
                  have m60 := congrArg tk m59
                  have m61 : (sI H57 h0 (X.1.2 11 16)).toInt = (sI H56 h0 (X.1.2 11 16)).toInt := congrArg Int32.toInt (up_nI U57 (ne_k g0 gca (by decide)))
                  obtain ⟨yy, hyy⟩ : ∃ z, v56.toInt = z := ⟨_, rfl⟩
                  have n1 : EQ H57 ca 2081 yy := (congrArg Int32.toInt (up_I U57)).trans (rfl.trans hyy)
                  have e62 := up_I U57
                  refine lv_aload_n hx hb dX12_yard_148 rfl (lv_at hl 1 rfl) ?_
                  refine lv_aload_n hx hb dX12_yard_149 rfl (lv_at hl 1 rfl) ?_
                  refine lv_bipush (v := 59) hx hb dX12_yard_150 rfl ?_
                  refine q_goIp (q_runV (As := [.int 59]) (rest := [.ref h0]) E hC57 hS57 (m_X12_isSign l X Γ H57 hC57 h0 g0 59 (a1 := 59) (by decide) ca gca uc) cw_X12_isSign cl_RX12_255 g0 ⟨rfl, rfl⟩ rfl hl.1 rfl (show _ ≤ _ from by simp [Value.category]) (by decide) dX12_yard_152) hS57 (fun v63 locs63 hr63 hS63 => ?_)
                  have b63 : (v63.toInt = 1 ∧ _) ∨ (v63.toInt = 0 ∧ _) := hr63.imp (fun h => ⟨by rw [h.1]; decide, h.2⟩) (fun h => ⟨by rw [h.1]; decide, h.2⟩)
                  have hb0 := f_bd hC57 g0 (ci := 11) (k := 16) rfl rfl
                  refine q_goV (q_runV (As := [.int v63]) (rest := []) E hC57 hS63 (m_X12_must l X Γ H57 hC57 h0 g0 v63 (a1 := v63.toInt) rfl ca gca uc (by omega) (by omega)) cw_X12_must cl_RX12_244 g0 ⟨rfl, rfl⟩ rfl hl.1 rfl (Nat.zero_le _) (by decide) dX12_yard_155) hS63 (fun H64 locs64 hr64 hC64 hS64 => ?_)
                  obtain ⟨hp64, hr64⟩ := hr64
                  have hKp64 := hKp57.tr (hp64.mono rfl)
                  have kd : KD H0 H64 ca 0 0 := KD.kp kd hp64 gca rfl rfl
                  have kd2 : KD H0 H64 ca 0 520 := KD.kp kd2 hp64 gca rfl rfl
                  have n0 : EQ H64 ca 2080 xx := EQ.kn n0 hp64 gca rfl (by unfold dpn; omega)
                  have n1 : EQ H64 ca 2081 yy := EQ.kn n1 hp64 gca rfl (by unfold dpn; omega)
                  obtain ⟨f64_0, f64_1, f64_2, f64_3, f64_4⟩ := hr64
                  have L158 : ∀ (n65 : Nat) (H65 : Heap) (locs65 : List Loc) (ls : Array Slot), 0 < n65 ∧ ((sI H65 h0 (X.1.2 11 12)).toInt ≠ 0 ∨ 902 - (sI H65 h0 (X.1.2 11 16)).toInt < n65) → ((sI H65 h0 (X.1.2 11 12)).toInt = 0 → 2 ≤ xx ∧ 1 ≤ yy) → Conf X Γ H65 → va_S (AΓ Γ) H0 H65 locs65 → Kp X Γ [1, 6, 8, 9, 11, 12, 14] H0 H65 → (KD H0 H65 ca 0 0) → (KD H0 H65 ca 0 520) → (EQ H65 ca 2080 xx) → (EQ H65 ca 2081 yy) → lv_has ls 4 [(2, .int v43), (0, .ref h0), (1, .int p1)] → W p l e (rmL 5) s m args below meth c H65 locs65 0 0 Qz (F0 m 158 ls []) := by
                    intro n65
                    induction n65 with
                    | zero => intro H65 locs65 ls hm65 iv65_0 hC65 hS65 hKp65 kd kd2 n0 n1 hl; exact absurd hm65 (by omega)
                    | succ n65 ih65 =>
                      intro H65 locs65 ls hm65 iv65_0 hC65 hS65 hKp65 kd kd2 n0 n1 hl
                      have hb1 := f_bd hC65 g0 (ci := 11) (k := 16) rfl rfl
                      have hb2 := f_bd hC65 g0 (ci := 11) (k := 12) rfl rfl
                      refine lv_aload_n hx hb dX12_yard_158 rfl (lv_at hl 1 rfl) ?_
                      refine q_getI E hC65 g0 fa_RX12_218 dX12_yard_159 (fun v66 ev66 lv66 uv66 => ?_)
                      have m67 : (sI H65 h0 (X.1.2 11 12)).toInt = v66.toInt := (congrArg Int32.toInt ev66).trans rfl
                      refine q_if_ne hx hb (a := v66.toInt) rfl (tgt := 262) dX12_yard_162 rfl (fun c68 => ?_) (fun c68 => ?_)
                      · refine lv_aload_n hx hb dX12_yard_262 rfl (lv_at hl 1 rfl) ?_
                        refine q_goI (q_runV (As := []) (rest := []) E hC65 hS65 (m_X12_isWell l X Γ H65 hC65 h0 g0 ca gca uc) cw_X12_isWell cl_RX12_267 g0 ⟨rfl, rfl⟩ rfl hl.1 rfl (Nat.zero_le _) (by decide) dX12_yard_263) hS65 (fun v69 H69 locs69 hr69 hC69 hS69 => ?_)
                        obtain ⟨hp69, hr69⟩ := hr69
                        have hKp69 := hKp65.tr (hp69.mono rfl)
                        have kd : KD H0 H69 ca 0 0 := KD.kp kd hp69 gca rfl rfl
                        have kd2 : KD H0 H69 ca 0 520 := KD.kp kd2 hp69 gca rfl rfl
                        have n0 : EQ H69 ca 2080 xx := EQ.kn n0 hp69 gca rfl (by unfold dpn; omega)
                        have n1 : EQ H69 ca 2081 yy := EQ.kn n1 hp69 gca rfl (by unfold dpn; omega)
                        rcases hr69 with ⟨rfl, f69a⟩ | ⟨rfl, -⟩
                        · refine q_if_ne hx hb (a := 1) (by decide) (tgt := 271) dX12_yard_266 rfl (fun c70 => ?_) (fun c70 => absurd c70 (by omega))
                          have hxy : 2 ≤ xx ∧ 1 ≤ yy := by omega
                          refine lv_iconst (v := 0) hx hb dX12_yard_271 rfl ?_
                          refine lv_istore_n hx hb dX12_yard_272 rfl hl (by decide) rfl (fun ls hl => ?_)
                          have hl : lv_has ls 4 [(3, .int 0), (2, .int v43), (0, .ref h0), (1, .int p1)] := hl
                          have L273 : ∀ (n72 : Nat) (H72 : Heap) (locs72 : List Loc) (v71 : Int32) (z71 : Int) (ls : Array Slot), (36 - z71).toNat < n72 → v71.toInt = z71 → z71 ≤ 36 → 0 ≤ z71 → Conf X Γ H72 → va_S (AΓ Γ) H0 H72 locs72 → Kp X Γ [1, 6, 8, 9, 11, 12, 14] H0 H72 → (KD H0 H72 ca 0 0) → (KD H0 H72 ca 0 520) → (EQ H72 ca 2080 xx) → (EQ H72 ca 2081 yy) → lv_has ls 4 [(3, .int v71), (2, .int v43), (0, .ref h0), (1, .int p1)] → W p l e (rmL 5) s m args below meth c H72 locs72 0 0 Qz (F0 m 273 ls []) := by
                            intro n72
                            induction n72 with
                            | zero => intro H72 locs72 v71 z71 ls hm72 ev71 iv72_0 iv72_1 hC72 hS72 hKp72 kd kd2 n0 n1 hl; exact absurd hm72 (Nat.not_lt_zero _)
                            | succ n72 ih72 =>
                              intro H72 locs72 v71 z71 ls hm72 ev71 iv72_0 iv72_1 hC72 hS72 hKp72 kd kd2 n0 n1 hl
                              refine lv_iload_n hx hb dX12_yard_273 rfl (lv_at hl 0 rfl) ?_
                              refine lv_bipush (v := 36) hx hb dX12_yard_274 rfl ?_
                              refine q_icmp_ge hx hb (a := z71) (b := 36) ev71 (by decide) (tgt := 305) dX12_yard_276 rfl (fun c73 => ?_) (fun c73 => ?_)
                              · refine lv_iconst (v := 0) hx hb dX12_yard_305 rfl ?_
                                refine lv_istore_n hx hb dX12_yard_306 rfl hl (by decide) rfl (fun ls hl => ?_)
                                have hl : lv_has ls 4 [(3, .int 0), (2, .int v43), (0, .ref h0), (1, .int p1)] := hl
                                have L307 : ∀ (n75 : Nat) (H75 : Heap) (locs75 : List Loc) (v74 : Int32) (z74 : Int) (ls : Array Slot), (520 - z74).toNat < n75 → v74.toInt = z74 → z74 ≤ 520 → 0 ≤ z74 → CPd H75 ca 2080 0 z74 → Conf X Γ H75 → va_S (AΓ Γ) H0 H75 locs75 → Kp X Γ [1, 6, 8, 9, 11, 12, 14] H0 H75 → (KD H0 H75 ca 0 520) → (EQ H75 ca 2080 xx) → (EQ H75 ca 2081 yy) → lv_has ls 4 [(3, .int v74), (2, .int v43), (0, .ref h0), (1, .int p1)] → W p l e (rmL 5) s m args below meth c H75 locs75 0 0 Qz (F0 m 307 ls []) := by
                                  intro n75
                                  induction n75 with
                                  | zero => intro H75 locs75 v74 z74 ls hm75 ev74 iv75_0 iv75_1 iv75_2 hC75 hS75 hKp75 kd2 n0 n1 hl; exact absurd hm75 (Nat.not_lt_zero _)
                                  | succ n75 ih75 =>
                                    intro H75 locs75 v74 z74 ls hm75 ev74 iv75_0 iv75_1 iv75_2 hC75 hS75 hKp75 kd2 n0 n1 hl
                                    have cpd := iv75_2
                                    refine lv_iload_n hx hb dX12_yard_307 rfl (lv_at hl 0 rfl) ?_
                                    refine lv_sipush (v := 520) hx hb dX12_yard_308 rfl ?_
                                    refine q_icmp_ge hx hb (a := z74) (b := 520) ev74 (by decide) (tgt := 336) dX12_yard_311 rfl (fun c76 => ?_) (fun c76 => ?_)
                                    · refine lv_aload_n hx hb dX12_yard_336 rfl (lv_at hl 2 rfl) ?_
                                      refine q_getC E hC75 g0 fa_RX12_35 uc dX12_yard_337 ?_
                                      refine lv_iconst (v := 0) hx hb dX12_yard_340 rfl ?_
                                      refine q_cald E hC75 (lo := 0) (hi := 6) gca (a := 0) (show (0 : Int32).toInt = 0 from by decide) (by omega) (by omega) (cr_c0 (by omega) (by omega)) dX12_yard_341 (fun v77 ev77 lv77 uv77 => ?_)
                                      have m78 : (sI H75 ca (0 : Int).toNat).toInt = v77.toInt := congrArg Int32.toInt ev77
                                      refine lv_aload_n hx hb dX12_yard_342 rfl (lv_at hl 2 rfl) ?_
                                      refine q_getC E hC75 g0 fa_RX12_35 uc dX12_yard_343 ?_
                                      refine lv_iconst (v := 1) hx hb dX12_yard_346 rfl ?_
                                      refine q_cald E hC75 (lo := 0) (hi := 6) gca (a := 1) (show (1 : Int32).toInt = 1 from by decide) (by omega) (by omega) (cr_c0 (by omega) (by omega)) dX12_yard_347 (fun v79 ev79 lv79 uv79 => ?_)
                                      have m80 : (sI H75 ca (1 : Int).toNat).toInt = v79.toInt := congrArg Int32.toInt ev79
                                      refine lv_imul hx hb dX12_yard_348 (lv_topi (fun v81 ev81 => ?_))
                                      have hpost : KD H0 H75 ca 0 0 ∨ (KD H0 H75 ca 0 520 ∧ YI H75 ca) := Or.inr ⟨kd2, YI.mk hC75 gca cpd (by omega) n0 n1 hxy⟩
                                      have c82 : v81.toInt = v81.toInt := rfl
                                      exact ret v81 H75 locs75 _ _ dX12_yard_349 ⟨hKp75, hpost⟩ hC75 hS75
                                    · refine lv_aload_n hx hb dX12_yard_314 rfl (lv_at hl 2 rfl) ?_
                                      refine q_getC E hC75 g0 fa_RX12_35 uc dX12_yard_315 ?_
                                      refine lv_iload_n hx hb dX12_yard_318 rfl (lv_at hl 0 rfl) ?_
                                      refine lv_aload_n hx hb dX12_yard_319 rfl (lv_at hl 2 rfl) ?_
                                      refine q_getC E hC75 g0 fa_RX12_35 uc dX12_yard_320 ?_
                                      refine lv_sipush (v := 2080) hx hb dX12_yard_323 rfl ?_
                                      refine lv_iload_n hx hb dX12_yard_326 rfl (lv_at hl 0 rfl) ?_
                                      refine lv_iadd hx hb dX12_yard_327 (lv_topi (fun v83 ev83 => ?_))
                                      have ev83i : v83.toInt = (2080 + z74) := i_add ev83 (by decide) ev74 (by omega) (by omega)
                                      refine q_craw E hC75 gca (a := (2080 + z74)) ev83i (by omega) (by omega) dX12_yard_328 (fun v84 ev84 tv84 => ?_)
                                      refine q_cast E hC75 hS75 gca (a := z74) ev74 (by omega) (by omega) (cT_nb (k := z74) rfl rfl (by omega) (by omega) tv84) dX12_yard_329 (fun H85 locs85 hC85 hS85 U85 => ?_)
                                      have hKp85 := Kp.upD gca rfl rfl (fun _ => ⟨fun h => absurd h (by decide), fun h => absurd h (by decide), fun h => absurd h (by decide)⟩) U85 hKp75
                                      have kd2 : KD H0 H85 ca 0 520 := KD.up kd2 U85 (by omega) (by omega)
                                      have n0 : EQ H85 ca 2080 xx := EQ.up n0 U85 ⟨by omega, by omega⟩ (by omega)
                                      have n1 : EQ H85 ca 2081 yy := EQ.up n1 U85 ⟨by omega, by omega⟩ (by omega)
                                      have m86 : (sI H85 h0 (X.1.2 11 12)).toInt = (sI H75 h0 (X.1.2 11 12)).toInt := congrArg Int32.toInt (up_nI U85 (ne_k g0 gca (by decide)))
                                      have m87 : (sI H85 h0 (X.1.2 11 14)).toInt = (sI H75 h0 (X.1.2 11 14)).toInt := congrArg Int32.toInt (up_nI U85 (ne_k g0 gca (by decide)))
                                      have m88 := congrArg tk m87
                                      have m89 : (sI H85 h0 (X.1.2 11 16)).toInt = (sI H75 h0 (X.1.2 11 16)).toInt := congrArg Int32.toInt (up_nI U85 (ne_k g0 gca (by decide)))
                                      have cpd : CPd H85 ca 2080 0 (z74 + 1) := CPd.step cpd (a := z74) (by omega) U85 ev84 (by omega) (by omega) (by omega)
                                      have e90 := up_I U85
                                      obtain ⟨v91, ev91⟩ : ∃ z, z = v74 + Int32.ofInt 1 := ⟨_, rfl⟩
                                      have ev91i : v91.toInt = (z74 + 1) := i_add ev91 ev74 (by decide) (by omega) (by omega)
                                      refine lv_iinc hx hb dX12_yard_330 hl (k := 0) rfl ev91.symm (by decide) rfl (fun ls hl => ?_)
                                      have hl : lv_has ls 4 [(3, .int v91), (2, .int v43), (0, .ref h0), (1, .int p1)] := hl
                                      refine lv_goto (tgt := 307) hx hb dX12_yard_333 rfl ?_
                                      exact ih75 H85 locs85 v91 ((z74 + 1)) ls (by omega) ev91i (by omega) (by omega) (cpd) hC85 hS85 hKp85 kd2 n0 n1 hl
                                exact L307 _ H72 locs72 0 0 ls (Nat.lt_succ_self _) (by decide) (by omega) (by omega) (CPd.nil (by omega)) hC72 hS72 hKp72 kd2 n0 n1 hl
                              · refine lv_aload_n hx hb dX12_yard_279 rfl (lv_at hl 2 rfl) ?_
                                refine q_getC E hC72 g0 fa_RX12_35 uc dX12_yard_280 ?_
                                refine lv_sipush (v := 2214) hx hb dX12_yard_283 rfl ?_
                                refine lv_iload_n hx hb dX12_yard_286 rfl (lv_at hl 0 rfl) ?_
                                refine lv_iadd hx hb dX12_yard_287 (lv_topi (fun v92 ev92 => ?_))
                                have ev92i : v92.toInt = (2214 + z71) := i_add ev92 (by decide) ev71 (by omega) (by omega)
                                refine lv_aload_n hx hb dX12_yard_288 rfl (lv_at hl 2 rfl) ?_
                                refine q_getC E hC72 g0 fa_RX12_35 uc dX12_yard_289 ?_
                                refine lv_sipush (v := 2142) hx hb dX12_yard_292 rfl ?_
                                refine lv_iload_n hx hb dX12_yard_295 rfl (lv_at hl 0 rfl) ?_
                                refine lv_iadd hx hb dX12_yard_296 (lv_topi (fun v93 ev93 => ?_))
                                have ev93i : v93.toInt = (2142 + z71) := i_add ev93 (by decide) ev71 (by omega) (by omega)
                                refine q_cald E hC72 (lo := 0) (hi := 99) gca (a := (2142 + z71)) ev93i (by omega) (by omega) (cr_n26 (by omega) (by omega)) dX12_yard_297 (fun v94 ev94 lv94 uv94 => ?_)
                                have m95 : (sI H72 ca ((2142 + z71) : Int).toNat).toInt = v94.toInt := congrArg Int32.toInt ev94
                                refine q_cast E hC72 hS72 gca (a := (2214 + z71)) ev92i (by omega) (by omega) (cs_n134 (a := (2214 + z71)) (by omega) (by omega)) dX12_yard_298 (fun H96 locs96 hC96 hS96 U96 => ?_)
                                have hKp96 := Kp.upD gca rfl rfl (fun _ => ⟨fun h => absurd h (by decide), fun h => absurd h (by decide), fun h => absurd h (by decide)⟩) U96 hKp72
                                have kd : KD H0 H96 ca 0 0 := KD.up kd U96 (by omega) (by omega)
                                have kd2 : KD H0 H96 ca 0 520 := KD.up kd2 U96 (by omega) (by omega)
                                have n0 : EQ H96 ca 2080 xx := EQ.up n0 U96 ⟨by omega, by omega⟩ (by omega)
                                have n1 : EQ H96 ca 2081 yy := EQ.up n1 U96 ⟨by omega, by omega⟩ (by omega)
                                have m97 : (sI H96 h0 (X.1.2 11 12)).toInt = (sI H72 h0 (X.1.2 11 12)).toInt := congrArg Int32.toInt (up_nI U96 (ne_k g0 gca (by decide)))
                                have m98 : (sI H96 h0 (X.1.2 11 14)).toInt = (sI H72 h0 (X.1.2 11 14)).toInt := congrArg Int32.toInt (up_nI U96 (ne_k g0 gca (by decide)))
                                have m99 := congrArg tk m98
                                have m100 : (sI H96 h0 (X.1.2 11 16)).toInt = (sI H72 h0 (X.1.2 11 16)).toInt := congrArg Int32.toInt (up_nI U96 (ne_k g0 gca (by decide)))
                                have e101 := up_I U96
                                obtain ⟨v102, ev102⟩ : ∃ z, z = v71 + Int32.ofInt 1 := ⟨_, rfl⟩
                                have ev102i : v102.toInt = (z71 + 1) := i_add ev102 ev71 (by decide) (by omega) (by omega)
                                refine lv_iinc hx hb dX12_yard_299 hl (k := 0) rfl ev102.symm (by decide) rfl (fun ls hl => ?_)
                                have hl : lv_has ls 4 [(3, .int v102), (2, .int v43), (0, .ref h0), (1, .int p1)] := hl
                                refine lv_goto (tgt := 273) hx hb dX12_yard_302 rfl ?_
                                exact ih72 H96 locs96 v102 ((z71 + 1)) ls (by omega) ev102i (by omega) (by omega) hC96 hS96 hKp96 kd kd2 n0 n1 hl
                          exact L273 _ H69 locs69 0 0 ls (Nat.lt_succ_self _) (by decide) (by omega) (by omega) hC69 hS69 hKp69 kd kd2 n0 n1 hl
                        · refine q_if_ne hx hb (a := 0) (by decide) (tgt := 271) dX12_yard_266 rfl (fun c103 => absurd c103 (by omega)) (fun c103 => ?_)
                          refine lv_iconst (v := (-1)) hx hb dX12_yard_269 rfl ?_
                          have hpost : KD H0 H69 ca 0 0 ∨ (KD H0 H69 ca 0 520 ∧ YI H69 ca) := Or.inl kd
                          have c104 : ((-1) : Int32).toInt = (-1) := (by decide)
                          exact ret (-1) H69 locs69 _ _ dX12_yard_270 ⟨hKp69, hpost⟩ hC69 hS69
                      · refine lv_aload_n hx hb dX12_yard_165 rfl (lv_at hl 1 rfl) ?_
                        refine q_getI E hC65 g0 fa_RX12_120 dX12_yard_166 (fun v105 ev105 _ _ => ?_)
                        have m106 : (sI H65 h0 (X.1.2 11 14)).toInt = v105.toInt := (congrArg Int32.toInt ev105).trans rfl
                        refine q_if_eq hx hb (a := v105.toInt) rfl (tgt := 262) dX12_yard_169 rfl (fun c107 => ?_) (fun c107 => ?_)
                        · refine lv_aload_n hx hb dX12_yard_262 rfl (lv_at hl 1 rfl) ?_
                          refine q_goI (q_runV (As := []) (rest := []) E hC65 hS65 (m_X12_isWell l X Γ H65 hC65 h0 g0 ca gca uc) cw_X12_isWell cl_RX12_267 g0 ⟨rfl, rfl⟩ rfl hl.1 rfl (Nat.zero_le _) (by decide) dX12_yard_263) hS65 (fun v108 H108 locs108 hr108 hC108 hS108 => ?_)
                          obtain ⟨hp108, hr108⟩ := hr108
                          have hKp108 := hKp65.tr (hp108.mono rfl)
                          have kd : KD H0 H108 ca 0 0 := KD.kp kd hp108 gca rfl rfl
                          have kd2 : KD H0 H108 ca 0 520 := KD.kp kd2 hp108 gca rfl rfl
                          have n0 : EQ H108 ca 2080 xx := EQ.kn n0 hp108 gca rfl (by unfold dpn; omega)
                          have n1 : EQ H108 ca 2081 yy := EQ.kn n1 hp108 gca rfl (by unfold dpn; omega)
                          rcases hr108 with ⟨rfl, f108a⟩ | ⟨rfl, -⟩
                          · refine q_if_ne hx hb (a := 1) (by decide) (tgt := 271) dX12_yard_266 rfl (fun c109 => ?_) (fun c109 => absurd c109 (by omega))
                            have hxy : 2 ≤ xx ∧ 1 ≤ yy := by omega
                            refine lv_iconst (v := 0) hx hb dX12_yard_271 rfl ?_
                            refine lv_istore_n hx hb dX12_yard_272 rfl hl (by decide) rfl (fun ls hl => ?_)
                            have hl : lv_has ls 4 [(3, .int 0), (2, .int v43), (0, .ref h0), (1, .int p1)] := hl
                            have L273 : ∀ (n111 : Nat) (H111 : Heap) (locs111 : List Loc) (v110 : Int32) (z110 : Int) (ls : Array Slot), (36 - z110).toNat < n111 → v110.toInt = z110 → z110 ≤ 36 → 0 ≤ z110 → Conf X Γ H111 → va_S (AΓ Γ) H0 H111 locs111 → Kp X Γ [1, 6, 8, 9, 11, 12, 14] H0 H111 → (KD H0 H111 ca 0 0) → (KD H0 H111 ca 0 520) → (EQ H111 ca 2080 xx) → (EQ H111 ca 2081 yy) → lv_has ls 4 [(3, .int v110), (2, .int v43), (0, .ref h0), (1, .int p1)] → W p l e (rmL 5) s m args below meth c H111 locs111 0 0 Qz (F0 m 273 ls []) := by
                              intro n111
                              induction n111 with
                              | zero => intro H111 locs111 v110 z110 ls hm111 ev110 iv111_0 iv111_1 hC111 hS111 hKp111 kd kd2 n0 n1 hl; exact absurd hm111 (Nat.not_lt_zero _)
                              | succ n111 ih111 =>
                                intro H111 locs111 v110 z110 ls hm111 ev110 iv111_0 iv111_1 hC111 hS111 hKp111 kd kd2 n0 n1 hl
                                refine lv_iload_n hx hb dX12_yard_273 rfl (lv_at hl 0 rfl) ?_
                                refine lv_bipush (v := 36) hx hb dX12_yard_274 rfl ?_
                                refine q_icmp_ge hx hb (a := z110) (b := 36) ev110 (by decide) (tgt := 305) dX12_yard_276 rfl (fun c112 => ?_) (fun c112 => ?_)
                                · refine lv_iconst (v := 0) hx hb dX12_yard_305 rfl ?_
                                  refine lv_istore_n hx hb dX12_yard_306 rfl hl (by decide) rfl (fun ls hl => ?_)
                                  have hl : lv_has ls 4 [(3, .int 0), (2, .int v43), (0, .ref h0), (1, .int p1)] := hl
                                  have L307 : ∀ (n114 : Nat) (H114 : Heap) (locs114 : List Loc) (v113 : Int32) (z113 : Int) (ls : Array Slot), (520 - z113).toNat < n114 → v113.toInt = z113 → z113 ≤ 520 → 0 ≤ z113 → CPd H114 ca 2080 0 z113 → Conf X Γ H114 → va_S (AΓ Γ) H0 H114 locs114 → Kp X Γ [1, 6, 8, 9, 11, 12, 14] H0 H114 → (KD H0 H114 ca 0 520) → (EQ H114 ca 2080 xx) → (EQ H114 ca 2081 yy) → lv_has ls 4 [(3, .int v113), (2, .int v43), (0, .ref h0), (1, .int p1)] → W p l e (rmL 5) s m args below meth c H114 locs114 0 0 Qz (F0 m 307 ls []) := by
                                    intro n114
                                    induction n114 with
                                    | zero => intro H114 locs114 v113 z113 ls hm114 ev113 iv114_0 iv114_1 iv114_2 hC114 hS114 hKp114 kd2 n0 n1 hl; exact absurd hm114 (Nat.not_lt_zero _)
                                    | succ n114 ih114 =>
                                      intro H114 locs114 v113 z113 ls hm114 ev113 iv114_0 iv114_1 iv114_2 hC114 hS114 hKp114 kd2 n0 n1 hl
                                      have cpd := iv114_2
                                      refine lv_iload_n hx hb dX12_yard_307 rfl (lv_at hl 0 rfl) ?_
                                      refine lv_sipush (v := 520) hx hb dX12_yard_308 rfl ?_
                                      refine q_icmp_ge hx hb (a := z113) (b := 520) ev113 (by decide) (tgt := 336) dX12_yard_311 rfl (fun c115 => ?_) (fun c115 => ?_)
                                      · refine lv_aload_n hx hb dX12_yard_336 rfl (lv_at hl 2 rfl) ?_
                                        refine q_getC E hC114 g0 fa_RX12_35 uc dX12_yard_337 ?_
                                        refine lv_iconst (v := 0) hx hb dX12_yard_340 rfl ?_
                                        refine q_cald E hC114 (lo := 0) (hi := 6) gca (a := 0) (show (0 : Int32).toInt = 0 from by decide) (by omega) (by omega) (cr_c0 (by omega) (by omega)) dX12_yard_341 (fun v116 ev116 lv116 uv116 => ?_)
                                        have m117 : (sI H114 ca (0 : Int).toNat).toInt = v116.toInt := congrArg Int32.toInt ev116
                                        refine lv_aload_n hx hb dX12_yard_342 rfl (lv_at hl 2 rfl) ?_
                                        refine q_getC E hC114 g0 fa_RX12_35 uc dX12_yard_343 ?_
                                        refine lv_iconst (v := 1) hx hb dX12_yard_346 rfl ?_
                                        refine q_cald E hC114 (lo := 0) (hi := 6) gca (a := 1) (show (1 : Int32).toInt = 1 from by decide) (by omega) (by omega) (cr_c0 (by omega) (by omega)) dX12_yard_347 (fun v118 ev118 lv118 uv118 => ?_)
                                        have m119 : (sI H114 ca (1 : Int).toNat).toInt = v118.toInt := congrArg Int32.toInt ev118
                                        refine lv_imul hx hb dX12_yard_348 (lv_topi (fun v120 ev120 => ?_))
                                        have hpost : KD H0 H114 ca 0 0 ∨ (KD H0 H114 ca 0 520 ∧ YI H114 ca) := Or.inr ⟨kd2, YI.mk hC114 gca cpd (by omega) n0 n1 hxy⟩
                                        have c121 : v120.toInt = v120.toInt := rfl
                                        exact ret v120 H114 locs114 _ _ dX12_yard_349 ⟨hKp114, hpost⟩ hC114 hS114
                                      · refine lv_aload_n hx hb dX12_yard_314 rfl (lv_at hl 2 rfl) ?_
                                        refine q_getC E hC114 g0 fa_RX12_35 uc dX12_yard_315 ?_
                                        refine lv_iload_n hx hb dX12_yard_318 rfl (lv_at hl 0 rfl) ?_
                                        refine lv_aload_n hx hb dX12_yard_319 rfl (lv_at hl 2 rfl) ?_
                                        refine q_getC E hC114 g0 fa_RX12_35 uc dX12_yard_320 ?_
                                        refine lv_sipush (v := 2080) hx hb dX12_yard_323 rfl ?_
                                        refine lv_iload_n hx hb dX12_yard_326 rfl (lv_at hl 0 rfl) ?_
                                        refine lv_iadd hx hb dX12_yard_327 (lv_topi (fun v122 ev122 => ?_))
                                        have ev122i : v122.toInt = (2080 + z113) := i_add ev122 (by decide) ev113 (by omega) (by omega)
                                        refine q_craw E hC114 gca (a := (2080 + z113)) ev122i (by omega) (by omega) dX12_yard_328 (fun v123 ev123 tv123 => ?_)
                                        refine q_cast E hC114 hS114 gca (a := z113) ev113 (by omega) (by omega) (cT_nb (k := z113) rfl rfl (by omega) (by omega) tv123) dX12_yard_329 (fun H124 locs124 hC124 hS124 U124 => ?_)
                                        have hKp124 := Kp.upD gca rfl rfl (fun _ => ⟨fun h => absurd h (by decide), fun h => absurd h (by decide), fun h => absurd h (by decide)⟩) U124 hKp114
                                        have kd2 : KD H0 H124 ca 0 520 := KD.up kd2 U124 (by omega) (by omega)
                                        have n0 : EQ H124 ca 2080 xx := EQ.up n0 U124 ⟨by omega, by omega⟩ (by omega)
                                        have n1 : EQ H124 ca 2081 yy := EQ.up n1 U124 ⟨by omega, by omega⟩ (by omega)
                                        have m125 : (sI H124 h0 (X.1.2 11 12)).toInt = (sI H114 h0 (X.1.2 11 12)).toInt := congrArg Int32.toInt (up_nI U124 (ne_k g0 gca (by decide)))
                                        have m126 : (sI H124 h0 (X.1.2 11 14)).toInt = (sI H114 h0 (X.1.2 11 14)).toInt := congrArg Int32.toInt (up_nI U124 (ne_k g0 gca (by decide)))
                                        have m127 := congrArg tk m126
                                        have m128 : (sI H124 h0 (X.1.2 11 16)).toInt = (sI H114 h0 (X.1.2 11 16)).toInt := congrArg Int32.toInt (up_nI U124 (ne_k g0 gca (by decide)))
                                        have cpd : CPd H124 ca 2080 0 (z113 + 1) := CPd.step cpd (a := z113) (by omega) U124 ev123 (by omega) (by omega) (by omega)
                                        have e129 := up_I U124
                                        obtain ⟨v130, ev130⟩ : ∃ z, z = v113 + Int32.ofInt 1 := ⟨_, rfl⟩
                                        have ev130i : v130.toInt = (z113 + 1) := i_add ev130 ev113 (by decide) (by omega) (by omega)
                                        refine lv_iinc hx hb dX12_yard_330 hl (k := 0) rfl ev130.symm (by decide) rfl (fun ls hl => ?_)
                                        have hl : lv_has ls 4 [(3, .int v130), (2, .int v43), (0, .ref h0), (1, .int p1)] := hl
                                        refine lv_goto (tgt := 307) hx hb dX12_yard_333 rfl ?_
                                        exact ih114 H124 locs124 v130 ((z113 + 1)) ls (by omega) ev130i (by omega) (by omega) (cpd) hC124 hS124 hKp124 kd2 n0 n1 hl
                                  exact L307 _ H111 locs111 0 0 ls (Nat.lt_succ_self _) (by decide) (by omega) (by omega) (CPd.nil (by omega)) hC111 hS111 hKp111 kd2 n0 n1 hl
                                · refine lv_aload_n hx hb dX12_yard_279 rfl (lv_at hl 2 rfl) ?_
                                  refine q_getC E hC111 g0 fa_RX12_35 uc dX12_yard_280 ?_
                                  refine lv_sipush (v := 2214) hx hb dX12_yard_283 rfl ?_
                                  refine lv_iload_n hx hb dX12_yard_286 rfl (lv_at hl 0 rfl) ?_
                                  refine lv_iadd hx hb dX12_yard_287 (lv_topi (fun v131 ev131 => ?_))
                                  have ev131i : v131.toInt = (2214 + z110) := i_add ev131 (by decide) ev110 (by omega) (by omega)
                                  refine lv_aload_n hx hb dX12_yard_288 rfl (lv_at hl 2 rfl) ?_
                                  refine q_getC E hC111 g0 fa_RX12_35 uc dX12_yard_289 ?_
                                  refine lv_sipush (v := 2142) hx hb dX12_yard_292 rfl ?_
                                  refine lv_iload_n hx hb dX12_yard_295 rfl (lv_at hl 0 rfl) ?_
                                  refine lv_iadd hx hb dX12_yard_296 (lv_topi (fun v132 ev132 => ?_))
                                  have ev132i : v132.toInt = (2142 + z110) := i_add ev132 (by decide) ev110 (by omega) (by omega)
                                  refine q_cald E hC111 (lo := 0) (hi := 99) gca (a := (2142 + z110)) ev132i (by omega) (by omega) (cr_n26 (by omega) (by omega)) dX12_yard_297 (fun v133 ev133 lv133 uv133 => ?_)
                                  have m134 : (sI H111 ca ((2142 + z110) : Int).toNat).toInt = v133.toInt := congrArg Int32.toInt ev133
                                  refine q_cast E hC111 hS111 gca (a := (2214 + z110)) ev131i (by omega) (by omega) (cs_n134 (a := (2214 + z110)) (by omega) (by omega)) dX12_yard_298 (fun H135 locs135 hC135 hS135 U135 => ?_)
                                  have hKp135 := Kp.upD gca rfl rfl (fun _ => ⟨fun h => absurd h (by decide), fun h => absurd h (by decide), fun h => absurd h (by decide)⟩) U135 hKp111
                                  have kd : KD H0 H135 ca 0 0 := KD.up kd U135 (by omega) (by omega)
                                  have kd2 : KD H0 H135 ca 0 520 := KD.up kd2 U135 (by omega) (by omega)
                                  have n0 : EQ H135 ca 2080 xx := EQ.up n0 U135 ⟨by omega, by omega⟩ (by omega)
                                  have n1 : EQ H135 ca 2081 yy := EQ.up n1 U135 ⟨by omega, by omega⟩ (by omega)
                                  have m136 : (sI H135 h0 (X.1.2 11 12)).toInt = (sI H111 h0 (X.1.2 11 12)).toInt := congrArg Int32.toInt (up_nI U135 (ne_k g0 gca (by decide)))
                                  have m137 : (sI H135 h0 (X.1.2 11 14)).toInt = (sI H111 h0 (X.1.2 11 14)).toInt := congrArg Int32.toInt (up_nI U135 (ne_k g0 gca (by decide)))
                                  have m138 := congrArg tk m137
                                  have m139 : (sI H135 h0 (X.1.2 11 16)).toInt = (sI H111 h0 (X.1.2 11 16)).toInt := congrArg Int32.toInt (up_nI U135 (ne_k g0 gca (by decide)))
                                  have e140 := up_I U135
                                  obtain ⟨v141, ev141⟩ : ∃ z, z = v110 + Int32.ofInt 1 := ⟨_, rfl⟩
                                  have ev141i : v141.toInt = (z110 + 1) := i_add ev141 ev110 (by decide) (by omega) (by omega)
                                  refine lv_iinc hx hb dX12_yard_299 hl (k := 0) rfl ev141.symm (by decide) rfl (fun ls hl => ?_)
                                  have hl : lv_has ls 4 [(3, .int v141), (2, .int v43), (0, .ref h0), (1, .int p1)] := hl
                                  refine lv_goto (tgt := 273) hx hb dX12_yard_302 rfl ?_
                                  exact ih111 H135 locs135 v141 ((z110 + 1)) ls (by omega) ev141i (by omega) (by omega) hC135 hS135 hKp135 kd kd2 n0 n1 hl
                            exact L273 _ H108 locs108 0 0 ls (Nat.lt_succ_self _) (by decide) (by omega) (by omega) hC108 hS108 hKp108 kd kd2 n0 n1 hl
                          · refine q_if_ne hx hb (a := 0) (by decide) (tgt := 271) dX12_yard_266 rfl (fun c142 => absurd c142 (by omega)) (fun c142 => ?_)
                            refine lv_iconst (v := (-1)) hx hb dX12_yard_269 rfl ?_
                            have hpost : KD H0 H108 ca 0 0 ∨ (KD H0 H108 ca 0 520 ∧ YI H108 ca) := Or.inl kd
                            have c143 : ((-1) : Int32).toInt = (-1) := (by decide)
                            exact ret (-1) H108 locs108 _ _ dX12_yard_270 ⟨hKp108, hpost⟩ hC108 hS108
                        · refine lv_aload_n hx hb dX12_yard_172 rfl (lv_at hl 1 rfl) ?_
                          refine q_goIp (q_runV (As := []) (rest := []) E hC65 hS65 (m_X12_isSchool l X Γ H65 hC65 h0 g0 ca gca uc) cw_X12_isSchool cl_RX12_172 g0 ⟨rfl, rfl⟩ rfl hl.1 rfl (Nat.zero_le _) (by decide) dX12_yard_173) hS65 (fun v144 locs144 hr144 hS144 => ?_)
                          rcases hr144 with rfl | rfl
                          · refine q_if_eq hx hb (a := 0) (by decide) (tgt := 186) dX12_yard_176 rfl (fun c145 => ?_) (fun c145 => absurd c145 (by omega))
                            refine lv_aload_n hx hb dX12_yard_186 rfl (lv_at hl 1 rfl) ?_
                            refine q_goIp (q_runV (As := []) (rest := []) E hC65 hS144 (m_X12_isSnow l X Γ H65 hC65 h0 g0 ca gca uc) cw_X12_isSnow cl_RX12_178 g0 ⟨rfl, rfl⟩ rfl hl.1 rfl (Nat.zero_le _) (by decide) dX12_yard_187) hS144 (fun v146 locs146 hr146 hS146 => ?_)
                            rcases hr146 with rfl | rfl
                            · refine q_if_eq hx hb (a := 0) (by decide) (tgt := 201) dX12_yard_190 rfl (fun c147 => ?_) (fun c147 => absurd c147 (by omega))
                              refine lv_aload_n hx hb dX12_yard_201 rfl (lv_at hl 1 rfl) ?_
                              refine q_goIp (q_runV (As := []) (rest := []) E hC65 hS146 (m_X12_isWall l X Γ H65 hC65 h0 g0 ca gca uc) cw_X12_isWall cl_RX12_163 g0 ⟨rfl, rfl⟩ rfl hl.1 rfl (Nat.zero_le _) (by decide) dX12_yard_202) hS146 (fun v148 locs148 hr148 hS148 => ?_)
                              rcases hr148 with rfl | rfl
                              · refine q_if_eq hx hb (a := 0) (by decide) (tgt := 216) dX12_yard_205 rfl (fun c149 => ?_) (fun c149 => absurd c149 (by omega))
                                refine lv_aload_n hx hb dX12_yard_216 rfl (lv_at hl 1 rfl) ?_
                                refine q_goIp (q_runV (As := []) (rest := []) E hC65 hS148 (m_X12_isSun l X Γ H65 hC65 h0 g0 ca gca uc) cw_X12_isSun cl_RX12_187 g0 ⟨rfl, rfl⟩ rfl hl.1 rfl (Nat.zero_le _) (by decide) dX12_yard_217) hS148 (fun v150 locs150 hr150 hS150 => ?_)
                                rcases hr150 with rfl | rfl
                                · refine q_if_eq hx hb (a := 0) (by decide) (tgt := 231) dX12_yard_220 rfl (fun c151 => ?_) (fun c151 => absurd c151 (by omega))
                                  refine lv_aload_n hx hb dX12_yard_231 rfl (lv_at hl 1 rfl) ?_
                                  refine q_goIp (q_runV (As := []) (rest := []) E hC65 hS150 (m_X12_isNo l X Γ H65 hC65 h0 g0 ca gca uc) cw_X12_isNo cl_RX12_193 g0 ⟨rfl, rfl⟩ rfl hl.1 rfl (Nat.zero_le _) (by decide) dX12_yard_232) hS150 (fun v152 locs152 hr152 hS152 => ?_)
                                  rcases hr152 with rfl | rfl
                                  · refine q_if_eq hx hb (a := 0) (by decide) (tgt := 245) dX12_yard_235 rfl (fun c153 => ?_) (fun c153 => absurd c153 (by omega))
                                    refine lv_aload_n hx hb dX12_yard_245 rfl (lv_at hl 1 rfl) ?_
                                    refine q_goV (q_runV (As := []) (rest := []) E hC65 hS152 (m_X12_wrong l X Γ H65 hC65 h0 g0 ca gca uc) cw_X12_wrong cl_RX12_231 g0 ⟨rfl, rfl⟩ rfl hl.1 rfl (Nat.zero_le _) (by decide) dX12_yard_246) hS152 (fun H154 locs154 hr154 hC154 hS154 => ?_)
                                    obtain ⟨hp154, hr154⟩ := hr154
                                    have hKp154 := hKp65.tr (hp154.mono rfl)
                                    have kd : KD H0 H154 ca 0 0 := KD.kp kd hp154 gca rfl rfl
                                    have kd2 : KD H0 H154 ca 0 520 := KD.kp kd2 hp154 gca rfl rfl
                                    have n0 : EQ H154 ca 2080 xx := EQ.kn n0 hp154 gca rfl (by unfold dpn; omega)
                                    have n1 : EQ H154 ca 2081 yy := EQ.kn n1 hp154 gca rfl (by unfold dpn; omega)
                                    obtain ⟨f154_0, f154_1, f154_2, f154_3⟩ := hr154
                                    refine lv_aload_n hx hb dX12_yard_249 rfl (lv_at hl 1 rfl) ?_
                                    refine lv_aload_n hx hb dX12_yard_250 rfl (lv_at hl 1 rfl) ?_
                                    refine lv_bipush (v := 59) hx hb dX12_yard_251 rfl ?_
                                    have hz9 := tk_or (sI H154 h0 (X.1.2 11 14)).toInt
                                    refine q_goIp (q_runV (As := [.int 59]) (rest := [.ref h0]) E hC154 hS154 (m_X12_isSign l X Γ H154 hC154 h0 g0 59 (a1 := 59) (by decide) ca gca uc) cw_X12_isSign cl_RX12_255 g0 ⟨rfl, rfl⟩ rfl hl.1 rfl (show _ ≤ _ from by simp [Value.category]) (by decide) dX12_yard_253) hS154 (fun v155 locs155 hr155 hS155 => ?_)
                                    have b155 : (v155.toInt = 1 ∧ _) ∨ (v155.toInt = 0 ∧ _) := hr155.imp (fun h => ⟨by rw [h.1]; decide, h.2⟩) (fun h => ⟨by rw [h.1]; decide, h.2⟩)
                                    refine q_goV (q_runV (As := [.int v155]) (rest := []) E hC154 hS155 (m_X12_must l X Γ H154 hC154 h0 g0 v155 (a1 := v155.toInt) rfl ca gca uc (by omega) (by omega)) cw_X12_must cl_RX12_244 g0 ⟨rfl, rfl⟩ rfl hl.1 rfl (Nat.zero_le _) (by decide) dX12_yard_256) hS155 (fun H156 locs156 hr156 hC156 hS156 => ?_)
                                    obtain ⟨hp156, hr156⟩ := hr156
                                    have hKp156 := hKp154.tr (hp156.mono rfl)
                                    have kd : KD H0 H156 ca 0 0 := KD.kp kd hp156 gca rfl rfl
                                    have kd2 : KD H0 H156 ca 0 520 := KD.kp kd2 hp156 gca rfl rfl
                                    have n0 : EQ H156 ca 2080 xx := EQ.kn n0 hp156 gca rfl (by unfold dpn; omega)
                                    have n1 : EQ H156 ca 2081 yy := EQ.kn n1 hp156 gca rfl (by unfold dpn; omega)
                                    obtain ⟨f156_0, f156_1, f156_2, f156_3, f156_4⟩ := hr156
                                    refine lv_goto (tgt := 158) hx hb dX12_yard_259 rfl ?_
                                    exact ih65 H156 locs156 ls (by omega) (by omega) hC156 hS156 hKp156 kd kd2 n0 n1 hl
                                  · refine q_if_eq hx hb (a := 1) (by decide) (tgt := 245) dX12_yard_235 rfl (fun c157 => absurd c157 (by omega)) (fun c157 => ?_)
                                    refine lv_aload_n hx hb dX12_yard_238 rfl (lv_at hl 1 rfl) ?_
                                    refine q_goV (q_runV (As := []) (rest := []) E hC65 hS152 (m_X12_readArticle l X Γ H65 hC65 h0 g0 ca gca uc) cw_X12_readArticle cl_RX12_264 g0 ⟨rfl, rfl⟩ rfl hl.1 rfl (Nat.zero_le _) (by decide) dX12_yard_239) hS152 (fun H158 locs158 hr158 hC158 hS158 => ?_)
                                    obtain ⟨hp158, hr158⟩ := hr158
                                    have hKp158 := hKp65.tr (hp158.mono rfl)
                                    have kd : KD H0 H158 ca 0 0 := KD.kp kd hp158 gca rfl rfl
                                    have kd2 : KD H0 H158 ca 0 520 := KD.kp kd2 hp158 gca rfl rfl
                                    have n0 : EQ H158 ca 2080 xx := EQ.kn n0 hp158 gca rfl (by unfold dpn; omega)
                                    have n1 : EQ H158 ca 2081 yy := EQ.kn n1 hp158 gca rfl (by unfold dpn; omega)
                                    obtain ⟨f158_0, f158_1, f158_2, f158_3⟩ := hr158
                                    refine lv_goto (tgt := 249) hx hb dX12_yard_242 rfl ?_
                                    refine lv_aload_n hx hb dX12_yard_249 rfl (lv_at hl 1 rfl) ?_
                                    refine lv_aload_n hx hb dX12_yard_250 rfl (lv_at hl 1 rfl) ?_
                                    refine lv_bipush (v := 59) hx hb dX12_yard_251 rfl ?_
                                    have hz9 := tk_or (sI H158 h0 (X.1.2 11 14)).toInt
                                    refine q_goIp (q_runV (As := [.int 59]) (rest := [.ref h0]) E hC158 hS158 (m_X12_isSign l X Γ H158 hC158 h0 g0 59 (a1 := 59) (by decide) ca gca uc) cw_X12_isSign cl_RX12_255 g0 ⟨rfl, rfl⟩ rfl hl.1 rfl (show _ ≤ _ from by simp [Value.category]) (by decide) dX12_yard_253) hS158 (fun v159 locs159 hr159 hS159 => ?_)
                                    have b159 : (v159.toInt = 1 ∧ _) ∨ (v159.toInt = 0 ∧ _) := hr159.imp (fun h => ⟨by rw [h.1]; decide, h.2⟩) (fun h => ⟨by rw [h.1]; decide, h.2⟩)
                                    refine q_goV (q_runV (As := [.int v159]) (rest := []) E hC158 hS159 (m_X12_must l X Γ H158 hC158 h0 g0 v159 (a1 := v159.toInt) rfl ca gca uc (by omega) (by omega)) cw_X12_must cl_RX12_244 g0 ⟨rfl, rfl⟩ rfl hl.1 rfl (Nat.zero_le _) (by decide) dX12_yard_256) hS159 (fun H160 locs160 hr160 hC160 hS160 => ?_)
                                    obtain ⟨hp160, hr160⟩ := hr160
                                    have hKp160 := hKp158.tr (hp160.mono rfl)
                                    have kd : KD H0 H160 ca 0 0 := KD.kp kd hp160 gca rfl rfl
                                    have kd2 : KD H0 H160 ca 0 520 := KD.kp kd2 hp160 gca rfl rfl
                                    have n0 : EQ H160 ca 2080 xx := EQ.kn n0 hp160 gca rfl (by unfold dpn; omega)
                                    have n1 : EQ H160 ca 2081 yy := EQ.kn n1 hp160 gca rfl (by unfold dpn; omega)
                                    obtain ⟨f160_0, f160_1, f160_2, f160_3, f160_4⟩ := hr160
                                    refine lv_goto (tgt := 158) hx hb dX12_yard_259 rfl ?_
                                    exact ih65 H160 locs160 ls (by omega) (by omega) hC160 hS160 hKp160 kd kd2 n0 n1 hl
                                · refine q_if_eq hx hb (a := 1) (by decide) (tgt := 231) dX12_yard_220 rfl (fun c161 => absurd c161 (by omega)) (fun c161 => ?_)
                                  refine lv_aload_n hx hb dX12_yard_223 rfl (lv_at hl 1 rfl) ?_
                                  refine lv_iconst (v := 2) hx hb dX12_yard_224 rfl ?_
                                  refine q_goV (q_runV (As := [.int 2]) (rest := []) E hC65 hS150 (m_X12_readCell l X Γ H65 hC65 h0 g0 2 (a1 := 2) (by decide) ca gca uc (by omega) (by omega)) cw_X12_readCell cl_RX12_261 g0 ⟨rfl, rfl⟩ rfl hl.1 rfl (Nat.zero_le _) (by decide) dX12_yard_225) hS150 (fun H162 locs162 hr162 hC162 hS162 => ?_)
                                  obtain ⟨hp162, hr162⟩ := hr162
                                  have hKp162 := hKp65.tr (hp162.mono rfl)
                                  have kd : KD H0 H162 ca 0 0 := KD.kp kd hp162 gca rfl rfl
                                  have kd2 : KD H0 H162 ca 0 520 := KD.kp kd2 hp162 gca rfl rfl
                                  have n0 : EQ H162 ca 2080 xx := EQ.kn n0 hp162 gca rfl (by unfold dpn; omega)
                                  have n1 : EQ H162 ca 2081 yy := EQ.kn n1 hp162 gca rfl (by unfold dpn; omega)
                                  obtain ⟨f162_0, f162_1, f162_2, f162_3⟩ := hr162
                                  refine lv_goto (tgt := 249) hx hb dX12_yard_228 rfl ?_
                                  refine lv_aload_n hx hb dX12_yard_249 rfl (lv_at hl 1 rfl) ?_
                                  refine lv_aload_n hx hb dX12_yard_250 rfl (lv_at hl 1 rfl) ?_
                                  refine lv_bipush (v := 59) hx hb dX12_yard_251 rfl ?_
                                  have hz9 := tk_or (sI H162 h0 (X.1.2 11 14)).toInt
                                  refine q_goIp (q_runV (As := [.int 59]) (rest := [.ref h0]) E hC162 hS162 (m_X12_isSign l X Γ H162 hC162 h0 g0 59 (a1 := 59) (by decide) ca gca uc) cw_X12_isSign cl_RX12_255 g0 ⟨rfl, rfl⟩ rfl hl.1 rfl (show _ ≤ _ from by simp [Value.category]) (by decide) dX12_yard_253) hS162 (fun v163 locs163 hr163 hS163 => ?_)
                                  have b163 : (v163.toInt = 1 ∧ _) ∨ (v163.toInt = 0 ∧ _) := hr163.imp (fun h => ⟨by rw [h.1]; decide, h.2⟩) (fun h => ⟨by rw [h.1]; decide, h.2⟩)
                                  refine q_goV (q_runV (As := [.int v163]) (rest := []) E hC162 hS163 (m_X12_must l X Γ H162 hC162 h0 g0 v163 (a1 := v163.toInt) rfl ca gca uc (by omega) (by omega)) cw_X12_must cl_RX12_244 g0 ⟨rfl, rfl⟩ rfl hl.1 rfl (Nat.zero_le _) (by decide) dX12_yard_256) hS163 (fun H164 locs164 hr164 hC164 hS164 => ?_)
                                  obtain ⟨hp164, hr164⟩ := hr164
                                  have hKp164 := hKp162.tr (hp164.mono rfl)
                                  have kd : KD H0 H164 ca 0 0 := KD.kp kd hp164 gca rfl rfl
                                  have kd2 : KD H0 H164 ca 0 520 := KD.kp kd2 hp164 gca rfl rfl
                                  have n0 : EQ H164 ca 2080 xx := EQ.kn n0 hp164 gca rfl (by unfold dpn; omega)
                                  have n1 : EQ H164 ca 2081 yy := EQ.kn n1 hp164 gca rfl (by unfold dpn; omega)
                                  obtain ⟨f164_0, f164_1, f164_2, f164_3, f164_4⟩ := hr164
                                  refine lv_goto (tgt := 158) hx hb dX12_yard_259 rfl ?_
                                  exact ih65 H164 locs164 ls (by omega) (by omega) hC164 hS164 hKp164 kd kd2 n0 n1 hl
                              · refine q_if_eq hx hb (a := 1) (by decide) (tgt := 216) dX12_yard_205 rfl (fun c165 => absurd c165 (by omega)) (fun c165 => ?_)
                                refine lv_aload_n hx hb dX12_yard_208 rfl (lv_at hl 1 rfl) ?_
                                refine lv_iconst (v := 1) hx hb dX12_yard_209 rfl ?_
                                refine q_goV (q_runV (As := [.int 1]) (rest := []) E hC65 hS148 (m_X12_readCell l X Γ H65 hC65 h0 g0 1 (a1 := 1) (by decide) ca gca uc (by omega) (by omega)) cw_X12_readCell cl_RX12_261 g0 ⟨rfl, rfl⟩ rfl hl.1 rfl (Nat.zero_le _) (by decide) dX12_yard_210) hS148 (fun H166 locs166 hr166 hC166 hS166 => ?_)
                                obtain ⟨hp166, hr166⟩ := hr166
                                have hKp166 := hKp65.tr (hp166.mono rfl)
                                have kd : KD H0 H166 ca 0 0 := KD.kp kd hp166 gca rfl rfl
                                have kd2 : KD H0 H166 ca 0 520 := KD.kp kd2 hp166 gca rfl rfl
                                have n0 : EQ H166 ca 2080 xx := EQ.kn n0 hp166 gca rfl (by unfold dpn; omega)
                                have n1 : EQ H166 ca 2081 yy := EQ.kn n1 hp166 gca rfl (by unfold dpn; omega)
                                obtain ⟨f166_0, f166_1, f166_2, f166_3⟩ := hr166
                                refine lv_goto (tgt := 249) hx hb dX12_yard_213 rfl ?_
                                refine lv_aload_n hx hb dX12_yard_249 rfl (lv_at hl 1 rfl) ?_
                                refine lv_aload_n hx hb dX12_yard_250 rfl (lv_at hl 1 rfl) ?_
                                refine lv_bipush (v := 59) hx hb dX12_yard_251 rfl ?_
                                have hz9 := tk_or (sI H166 h0 (X.1.2 11 14)).toInt
                                refine q_goIp (q_runV (As := [.int 59]) (rest := [.ref h0]) E hC166 hS166 (m_X12_isSign l X Γ H166 hC166 h0 g0 59 (a1 := 59) (by decide) ca gca uc) cw_X12_isSign cl_RX12_255 g0 ⟨rfl, rfl⟩ rfl hl.1 rfl (show _ ≤ _ from by simp [Value.category]) (by decide) dX12_yard_253) hS166 (fun v167 locs167 hr167 hS167 => ?_)
                                have b167 : (v167.toInt = 1 ∧ _) ∨ (v167.toInt = 0 ∧ _) := hr167.imp (fun h => ⟨by rw [h.1]; decide, h.2⟩) (fun h => ⟨by rw [h.1]; decide, h.2⟩)
                                refine q_goV (q_runV (As := [.int v167]) (rest := []) E hC166 hS167 (m_X12_must l X Γ H166 hC166 h0 g0 v167 (a1 := v167.toInt) rfl ca gca uc (by omega) (by omega)) cw_X12_must cl_RX12_244 g0 ⟨rfl, rfl⟩ rfl hl.1 rfl (Nat.zero_le _) (by decide) dX12_yard_256) hS167 (fun H168 locs168 hr168 hC168 hS168 => ?_)
                                obtain ⟨hp168, hr168⟩ := hr168
                                have hKp168 := hKp166.tr (hp168.mono rfl)
                                have kd : KD H0 H168 ca 0 0 := KD.kp kd hp168 gca rfl rfl
                                have kd2 : KD H0 H168 ca 0 520 := KD.kp kd2 hp168 gca rfl rfl
                                have n0 : EQ H168 ca 2080 xx := EQ.kn n0 hp168 gca rfl (by unfold dpn; omega)
                                have n1 : EQ H168 ca 2081 yy := EQ.kn n1 hp168 gca rfl (by unfold dpn; omega)
                                obtain ⟨f168_0, f168_1, f168_2, f168_3, f168_4⟩ := hr168
                                refine lv_goto (tgt := 158) hx hb dX12_yard_259 rfl ?_
                                exact ih65 H168 locs168 ls (by omega) (by omega) hC168 hS168 hKp168 kd kd2 n0 n1 hl
                            · refine q_if_eq hx hb (a := 1) (by decide) (tgt := 201) dX12_yard_190 rfl (fun c169 => absurd c169 (by omega)) (fun c169 => ?_)
                              refine lv_aload_n hx hb dX12_yard_193 rfl (lv_at hl 1 rfl) ?_
                              refine lv_iconst (v := 0) hx hb dX12_yard_194 rfl ?_
                              refine q_goV (q_runV (As := [.int 0]) (rest := []) E hC65 hS146 (m_X12_readCell l X Γ H65 hC65 h0 g0 0 (a1 := 0) (by decide) ca gca uc (by omega) (by omega)) cw_X12_readCell cl_RX12_261 g0 ⟨rfl, rfl⟩ rfl hl.1 rfl (Nat.zero_le _) (by decide) dX12_yard_195) hS146 (fun H170 locs170 hr170 hC170 hS170 => ?_)
                              obtain ⟨hp170, hr170⟩ := hr170
                              have hKp170 := hKp65.tr (hp170.mono rfl)
                              have kd : KD H0 H170 ca 0 0 := KD.kp kd hp170 gca rfl rfl
                              have kd2 : KD H0 H170 ca 0 520 := KD.kp kd2 hp170 gca rfl rfl
                              have n0 : EQ H170 ca 2080 xx := EQ.kn n0 hp170 gca rfl (by unfold dpn; omega)
                              have n1 : EQ H170 ca 2081 yy := EQ.kn n1 hp170 gca rfl (by unfold dpn; omega)
                              obtain ⟨f170_0, f170_1, f170_2, f170_3⟩ := hr170
                              refine lv_goto (tgt := 249) hx hb dX12_yard_198 rfl ?_
                              refine lv_aload_n hx hb dX12_yard_249 rfl (lv_at hl 1 rfl) ?_
                              refine lv_aload_n hx hb dX12_yard_250 rfl (lv_at hl 1 rfl) ?_
                              refine lv_bipush (v := 59) hx hb dX12_yard_251 rfl ?_
                              have hz9 := tk_or (sI H170 h0 (X.1.2 11 14)).toInt
                              refine q_goIp (q_runV (As := [.int 59]) (rest := [.ref h0]) E hC170 hS170 (m_X12_isSign l X Γ H170 hC170 h0 g0 59 (a1 := 59) (by decide) ca gca uc) cw_X12_isSign cl_RX12_255 g0 ⟨rfl, rfl⟩ rfl hl.1 rfl (show _ ≤ _ from by simp [Value.category]) (by decide) dX12_yard_253) hS170 (fun v171 locs171 hr171 hS171 => ?_)
                              have b171 : (v171.toInt = 1 ∧ _) ∨ (v171.toInt = 0 ∧ _) := hr171.imp (fun h => ⟨by rw [h.1]; decide, h.2⟩) (fun h => ⟨by rw [h.1]; decide, h.2⟩)
                              refine q_goV (q_runV (As := [.int v171]) (rest := []) E hC170 hS171 (m_X12_must l X Γ H170 hC170 h0 g0 v171 (a1 := v171.toInt) rfl ca gca uc (by omega) (by omega)) cw_X12_must cl_RX12_244 g0 ⟨rfl, rfl⟩ rfl hl.1 rfl (Nat.zero_le _) (by decide) dX12_yard_256) hS171 (fun H172 locs172 hr172 hC172 hS172 => ?_)
                              obtain ⟨hp172, hr172⟩ := hr172
                              have hKp172 := hKp170.tr (hp172.mono rfl)
                              have kd : KD H0 H172 ca 0 0 := KD.kp kd hp172 gca rfl rfl
                              have kd2 : KD H0 H172 ca 0 520 := KD.kp kd2 hp172 gca rfl rfl
                              have n0 : EQ H172 ca 2080 xx := EQ.kn n0 hp172 gca rfl (by unfold dpn; omega)
                              have n1 : EQ H172 ca 2081 yy := EQ.kn n1 hp172 gca rfl (by unfold dpn; omega)
                              obtain ⟨f172_0, f172_1, f172_2, f172_3, f172_4⟩ := hr172
                              refine lv_goto (tgt := 158) hx hb dX12_yard_259 rfl ?_
                              exact ih65 H172 locs172 ls (by omega) (by omega) hC172 hS172 hKp172 kd kd2 n0 n1 hl
                          · refine q_if_eq hx hb (a := 1) (by decide) (tgt := 186) dX12_yard_176 rfl (fun c173 => absurd c173 (by omega)) (fun c173 => ?_)
                            refine lv_aload_n hx hb dX12_yard_179 rfl (lv_at hl 1 rfl) ?_
                            refine q_goV (q_runV (As := []) (rest := []) E hC65 hS144 (m_X12_readSchool l X Γ H65 hC65 h0 g0 ca gca uc) cw_X12_readSchool cl_RX12_258 g0 ⟨rfl, rfl⟩ rfl hl.1 rfl (Nat.zero_le _) (by decide) dX12_yard_180) hS144 (fun H174 locs174 hr174 hC174 hS174 => ?_)
                            obtain ⟨hp174, hr174⟩ := hr174
                            have hKp174 := hKp65.tr (hp174.mono rfl)
                            have kd : KD H0 H174 ca 0 0 := KD.kp kd hp174 gca rfl rfl
                            have kd2 : KD H0 H174 ca 0 520 := KD.kp kd2 hp174 gca rfl rfl
                            have n0 : EQ H174 ca 2080 xx := EQ.kn n0 hp174 gca rfl (by unfold dpn; omega)
                            have n1 : EQ H174 ca 2081 yy := EQ.kn n1 hp174 gca rfl (by unfold dpn; omega)
                            obtain ⟨f174_0, f174_1, f174_2, f174_3⟩ := hr174
                            refine lv_goto (tgt := 249) hx hb dX12_yard_183 rfl ?_
                            refine lv_aload_n hx hb dX12_yard_249 rfl (lv_at hl 1 rfl) ?_
                            refine lv_aload_n hx hb dX12_yard_250 rfl (lv_at hl 1 rfl) ?_
                            refine lv_bipush (v := 59) hx hb dX12_yard_251 rfl ?_
                            have hz9 := tk_or (sI H174 h0 (X.1.2 11 14)).toInt
                            refine q_goIp (q_runV (As := [.int 59]) (rest := [.ref h0]) E hC174 hS174 (m_X12_isSign l X Γ H174 hC174 h0 g0 59 (a1 := 59) (by decide) ca gca uc) cw_X12_isSign cl_RX12_255 g0 ⟨rfl, rfl⟩ rfl hl.1 rfl (show _ ≤ _ from by simp [Value.category]) (by decide) dX12_yard_253) hS174 (fun v175 locs175 hr175 hS175 => ?_)
                            have b175 : (v175.toInt = 1 ∧ _) ∨ (v175.toInt = 0 ∧ _) := hr175.imp (fun h => ⟨by rw [h.1]; decide, h.2⟩) (fun h => ⟨by rw [h.1]; decide, h.2⟩)
                            refine q_goV (q_runV (As := [.int v175]) (rest := []) E hC174 hS175 (m_X12_must l X Γ H174 hC174 h0 g0 v175 (a1 := v175.toInt) rfl ca gca uc (by omega) (by omega)) cw_X12_must cl_RX12_244 g0 ⟨rfl, rfl⟩ rfl hl.1 rfl (Nat.zero_le _) (by decide) dX12_yard_256) hS175 (fun H176 locs176 hr176 hC176 hS176 => ?_)
                            obtain ⟨hp176, hr176⟩ := hr176
                            have hKp176 := hKp174.tr (hp176.mono rfl)
                            have kd : KD H0 H176 ca 0 0 := KD.kp kd hp176 gca rfl rfl
                            have kd2 : KD H0 H176 ca 0 520 := KD.kp kd2 hp176 gca rfl rfl
                            have n0 : EQ H176 ca 2080 xx := EQ.kn n0 hp176 gca rfl (by unfold dpn; omega)
                            have n1 : EQ H176 ca 2081 yy := EQ.kn n1 hp176 gca rfl (by unfold dpn; omega)
                            obtain ⟨f176_0, f176_1, f176_2, f176_3, f176_4⟩ := hr176
                            refine lv_goto (tgt := 158) hx hb dX12_yard_259 rfl ?_
                            exact ih65 H176 locs176 ls (by omega) (by omega) hC176 hS176 hKp176 kd kd2 n0 n1 hl
                  exact L158 903 H64 locs64 ls (by omega) (by omega) hC64 hS64 hKp64 kd kd2 n0 n1 hl
                · refine lv_aload_n hx hb dX12_yard_105 rfl (lv_at hl 1 rfl) ?_
                  refine q_getC E hC45 g0 fa_RX12_35 uc dX12_yard_106 ?_
                  refine lv_sipush (v := 2080) hx hb dX12_yard_109 rfl ?_
                  refine q_cald E hC45 (lo := 0) (hi := 6) gca (a := 2080) (show (2080 : Int32).toInt = 2080 from by decide) (by omega) (by omega) (cr_n0 (by omega) (by omega)) dX12_yard_112 (fun v177 ev177 lv177 uv177 => ?_)
                  have qv177 := e50.symm.trans ev177; subst qv177
                  refine lv_iconst (v := 2) hx hb dX12_yard_113 rfl ?_
                  refine lv_irem hx hb dX12_yard_114 (by decide) (lv_topi (fun v178 ev178 => ?_))
                  have ev178i : v178.toInt = (v44.toInt % 2) := i_rem ev178 rfl (by decide) (by omega) (by decide)
                  refine lv_iconst (v := 1) hx hb dX12_yard_115 rfl ?_
                  refine q_icmp_ne hx hb (a := (v44.toInt % 2)) (b := 1) ev178i (by decide) (tgt := 125) dX12_yard_116 rfl (fun c179 => ?_) (fun c179 => ?_)
                  · refine lv_aload_n hx hb dX12_yard_125 rfl (lv_at hl 1 rfl) ?_
                    refine lv_aload_n hx hb dX12_yard_126 rfl (lv_at hl 1 rfl) ?_
                    refine q_goIp (q_runV (As := []) (rest := [.ref h0]) E hC45 hS45 (m_X12_isHigh l X Γ H45 hC45 h0 g0 ca gca uc) cw_X12_isHigh cl_RX12_169 g0 ⟨rfl, rfl⟩ rfl hl.1 rfl (show _ ≤ _ from by simp [Value.category]) (by decide) dX12_yard_127) hS45 (fun v180 locs180 hr180 hS180 => ?_)
                    have b180 : v180.toInt = 0 ∨ v180.toInt = 1 := hr180.imp (fun h => by rw [h]; decide) (fun h => by rw [h]; decide)
                    refine q_goV (q_runV (As := [.int v180]) (rest := []) E hC45 hS180 (m_X12_must l X Γ H45 hC45 h0 g0 v180 (a1 := v180.toInt) rfl ca gca uc (by omega) (by omega)) cw_X12_must cl_RX12_244 g0 ⟨rfl, rfl⟩ rfl hl.1 rfl (Nat.zero_le _) (by decide) dX12_yard_130) hS180 (fun H181 locs181 hr181 hC181 hS181 => ?_)
                    obtain ⟨hp181, hr181⟩ := hr181
                    have hKp181 := hKp45.tr (hp181.mono rfl)
                    have kd : KD H0 H181 ca 0 0 := KD.kp kd hp181 gca rfl rfl
                    have kd2 : KD H0 H181 ca 0 520 := KD.kp kd2 hp181 gca rfl rfl
                    have n0 : EQ H181 ca 2080 xx := EQ.kn n0 hp181 gca rfl (by unfold dpn; omega)
                    obtain ⟨f181_0, f181_1, f181_2, f181_3, f181_4⟩ := hr181
                    refine lv_aload_n hx hb dX12_yard_133 rfl (lv_at hl 1 rfl) ?_
                    refine q_getC E hC181 g0 fa_RX12_35 uc dX12_yard_134 ?_
                    refine lv_sipush (v := 2081) hx hb dX12_yard_137 rfl ?_
                    refine lv_aload_n hx hb dX12_yard_140 rfl (lv_at hl 1 rfl) ?_
                    refine lv_iconst (v := 1) hx hb dX12_yard_141 rfl ?_
                    refine lv_bipush (v := 6) hx hb dX12_yard_142 rfl ?_
                    refine q_goI (q_runV (As := [.int 1, .int 6]) (rest := [.int 2081, .ref ca]) E hC181 hS181 (m_X12_count l X Γ H181 hC181 h0 g0 1 (a1 := 1) (by decide) 6 (a2 := 6) (by decide) ca gca uc (by omega) (by omega) (by omega) (by omega)) cw_X12_count cl_RX12_248 g0 ⟨rfl, rfl⟩ rfl hl.1 rfl (show _ ≤ _ from by simp [Value.category]) (by decide) dX12_yard_144) hS181 (fun v182 H182 locs182 hr182 hC182 hS182 => ?_)
                    obtain ⟨hp182, hr182⟩ := hr182
                    have hKp182 := hKp181.tr (hp182.mono rfl)
                    have kd : KD H0 H182 ca 0 0 := KD.kp kd hp182 gca rfl rfl
                    have kd2 : KD H0 H182 ca 0 520 := KD.kp kd2 hp182 gca rfl rfl
                    have n0 : EQ H182 ca 2080 xx := EQ.kn n0 hp182 gca rfl (by unfold dpn; omega)
                    obtain ⟨f182_0, f182_1, f182_2, f182_3, f182_4, f182_5, f182_6, f182_7⟩ := hr182
                    refine q_cast E hC182 hS182 gca (a := 2081) (show (2081 : Int32).toInt = 2081 from by decide) (by omega) (by omega) (cs_n0 (a := 2081) (b := v182.toInt) (by omega) (by omega) rfl (by omega) (by omega)) dX12_yard_147 (fun H183 locs183 hC183 hS183 U183 => ?_)
                    have hKp183 := Kp.upD gca rfl rfl (fun _ => ⟨fun h => absurd h (by decide), fun h => absurd h (by decide), fun h => absurd h (by decide)⟩) U183 hKp182
                    have kd : KD H0 H183 ca 0 0 := KD.up kd U183 (by omega) (by omega)
                    have kd2 : KD H0 H183 ca 0 520 := KD.up kd2 U183 (by omega) (by omega)
                    have n0 : EQ H183 ca 2080 xx := EQ.up n0 U183 ⟨by omega, by omega⟩ (by omega)
                    have m184 : (sI H183 h0 (X.1.2 11 12)).toInt = (sI H182 h0 (X.1.2 11 12)).toInt := congrArg Int32.toInt (up_nI U183 (ne_k g0 gca (by decide)))
                    have m185 : (sI H183 h0 (X.1.2 11 14)).toInt = (sI H182 h0 (X.1.2 11 14)).toInt := congrArg Int32.toInt (up_nI U183 (ne_k g0 gca (by decide)))
                    have m186 := congrArg tk m185
                    have m187 : (sI H183 h0 (X.1.2 11 16)).toInt = (sI H182 h0 (X.1.2 11 16)).toInt := congrArg Int32.toInt (up_nI U183 (ne_k g0 gca (by decide)))
                    obtain ⟨yy, hyy⟩ : ∃ z, v182.toInt = z := ⟨_, rfl⟩
                    have n1 : EQ H183 ca 2081 yy := (congrArg Int32.toInt (up_I U183)).trans (rfl.trans hyy)
                    have e188 := up_I U183
                    refine lv_aload_n hx hb dX12_yard_148 rfl (lv_at hl 1 rfl) ?_
                    refine lv_aload_n hx hb dX12_yard_149 rfl (lv_at hl 1 rfl) ?_
                    refine lv_bipush (v := 59) hx hb dX12_yard_150 rfl ?_
                    refine q_goIp (q_runV (As := [.int 59]) (rest := [.ref h0]) E hC183 hS183 (m_X12_isSign l X Γ H183 hC183 h0 g0 59 (a1 := 59) (by decide) ca gca uc) cw_X12_isSign cl_RX12_255 g0 ⟨rfl, rfl⟩ rfl hl.1 rfl (show _ ≤ _ from by simp [Value.category]) (by decide) dX12_yard_152) hS183 (fun v189 locs189 hr189 hS189 => ?_)
                    have b189 : (v189.toInt = 1 ∧ _) ∨ (v189.toInt = 0 ∧ _) := hr189.imp (fun h => ⟨by rw [h.1]; decide, h.2⟩) (fun h => ⟨by rw [h.1]; decide, h.2⟩)
                    have hb0 := f_bd hC183 g0 (ci := 11) (k := 16) rfl rfl
                    refine q_goV (q_runV (As := [.int v189]) (rest := []) E hC183 hS189 (m_X12_must l X Γ H183 hC183 h0 g0 v189 (a1 := v189.toInt) rfl ca gca uc (by omega) (by omega)) cw_X12_must cl_RX12_244 g0 ⟨rfl, rfl⟩ rfl hl.1 rfl (Nat.zero_le _) (by decide) dX12_yard_155) hS189 (fun H190 locs190 hr190 hC190 hS190 => ?_)
                    obtain ⟨hp190, hr190⟩ := hr190
                    have hKp190 := hKp183.tr (hp190.mono rfl)
                    have kd : KD H0 H190 ca 0 0 := KD.kp kd hp190 gca rfl rfl
                    have kd2 : KD H0 H190 ca 0 520 := KD.kp kd2 hp190 gca rfl rfl
                    have n0 : EQ H190 ca 2080 xx := EQ.kn n0 hp190 gca rfl (by unfold dpn; omega)
                    have n1 : EQ H190 ca 2081 yy := EQ.kn n1 hp190 gca rfl (by unfold dpn; omega)
                    obtain ⟨f190_0, f190_1, f190_2, f190_3, f190_4⟩ := hr190
                    have L158 : ∀ (n191 : Nat) (H191 : Heap) (locs191 : List Loc) (ls : Array Slot), 0 < n191 ∧ ((sI H191 h0 (X.1.2 11 12)).toInt ≠ 0 ∨ 902 - (sI H191 h0 (X.1.2 11 16)).toInt < n191) → ((sI H191 h0 (X.1.2 11 12)).toInt = 0 → 2 ≤ xx ∧ 1 ≤ yy) → Conf X Γ H191 → va_S (AΓ Γ) H0 H191 locs191 → Kp X Γ [1, 6, 8, 9, 11, 12, 14] H0 H191 → (KD H0 H191 ca 0 0) → (KD H0 H191 ca 0 520) → (EQ H191 ca 2080 xx) → (EQ H191 ca 2081 yy) → lv_has ls 4 [(2, .int v43), (0, .ref h0), (1, .int p1)] → W p l e (rmL 5) s m args below meth c H191 locs191 0 0 Qz (F0 m 158 ls []) := by
                      intro n191
                      induction n191 with
                      | zero => intro H191 locs191 ls hm191 iv191_0 hC191 hS191 hKp191 kd kd2 n0 n1 hl; exact absurd hm191 (by omega)
                      | succ n191 ih191 =>
                        intro H191 locs191 ls hm191 iv191_0 hC191 hS191 hKp191 kd kd2 n0 n1 hl
                        have hb1 := f_bd hC191 g0 (ci := 11) (k := 16) rfl rfl
                        have hb2 := f_bd hC191 g0 (ci := 11) (k := 12) rfl rfl
                        refine lv_aload_n hx hb dX12_yard_158 rfl (lv_at hl 1 rfl) ?_
                        refine q_getI E hC191 g0 fa_RX12_218 dX12_yard_159 (fun v192 ev192 lv192 uv192 => ?_)
                        have m193 : (sI H191 h0 (X.1.2 11 12)).toInt = v192.toInt := (congrArg Int32.toInt ev192).trans rfl
                        refine q_if_ne hx hb (a := v192.toInt) rfl (tgt := 262) dX12_yard_162 rfl (fun c194 => ?_) (fun c194 => ?_)
                        · refine lv_aload_n hx hb dX12_yard_262 rfl (lv_at hl 1 rfl) ?_
                          refine q_goI (q_runV (As := []) (rest := []) E hC191 hS191 (m_X12_isWell l X Γ H191 hC191 h0 g0 ca gca uc) cw_X12_isWell cl_RX12_267 g0 ⟨rfl, rfl⟩ rfl hl.1 rfl (Nat.zero_le _) (by decide) dX12_yard_263) hS191 (fun v195 H195 locs195 hr195 hC195 hS195 => ?_)
                          obtain ⟨hp195, hr195⟩ := hr195
                          have hKp195 := hKp191.tr (hp195.mono rfl)
                          have kd : KD H0 H195 ca 0 0 := KD.kp kd hp195 gca rfl rfl
                          have kd2 : KD H0 H195 ca 0 520 := KD.kp kd2 hp195 gca rfl rfl
                          have n0 : EQ H195 ca 2080 xx := EQ.kn n0 hp195 gca rfl (by unfold dpn; omega)
                          have n1 : EQ H195 ca 2081 yy := EQ.kn n1 hp195 gca rfl (by unfold dpn; omega)
                          rcases hr195 with ⟨rfl, f195a⟩ | ⟨rfl, -⟩
                          · refine q_if_ne hx hb (a := 1) (by decide) (tgt := 271) dX12_yard_266 rfl (fun c196 => ?_) (fun c196 => absurd c196 (by omega))
                            have hxy : 2 ≤ xx ∧ 1 ≤ yy := by omega
                            refine lv_iconst (v := 0) hx hb dX12_yard_271 rfl ?_
                            refine lv_istore_n hx hb dX12_yard_272 rfl hl (by decide) rfl (fun ls hl => ?_)
                            have hl : lv_has ls 4 [(3, .int 0), (2, .int v43), (0, .ref h0), (1, .int p1)] := hl
                            have L273 : ∀ (n198 : Nat) (H198 : Heap) (locs198 : List Loc) (v197 : Int32) (z197 : Int) (ls : Array Slot), (36 - z197).toNat < n198 → v197.toInt = z197 → z197 ≤ 36 → 0 ≤ z197 → Conf X Γ H198 → va_S (AΓ Γ) H0 H198 locs198 → Kp X Γ [1, 6, 8, 9, 11, 12, 14] H0 H198 → (KD H0 H198 ca 0 0) → (KD H0 H198 ca 0 520) → (EQ H198 ca 2080 xx) → (EQ H198 ca 2081 yy) → lv_has ls 4 [(3, .int v197), (2, .int v43), (0, .ref h0), (1, .int p1)] → W p l e (rmL 5) s m args below meth c H198 locs198 0 0 Qz (F0 m 273 ls []) := by
                              intro n198
                              induction n198 with
                              | zero => intro H198 locs198 v197 z197 ls hm198 ev197 iv198_0 iv198_1 hC198 hS198 hKp198 kd kd2 n0 n1 hl; exact absurd hm198 (Nat.not_lt_zero _)
                              | succ n198 ih198 =>
                                intro H198 locs198 v197 z197 ls hm198 ev197 iv198_0 iv198_1 hC198 hS198 hKp198 kd kd2 n0 n1 hl
                                refine lv_iload_n hx hb dX12_yard_273 rfl (lv_at hl 0 rfl) ?_
                                refine lv_bipush (v := 36) hx hb dX12_yard_274 rfl ?_
                                refine q_icmp_ge hx hb (a := z197) (b := 36) ev197 (by decide) (tgt := 305) dX12_yard_276 rfl (fun c199 => ?_) (fun c199 => ?_)
                                · refine lv_iconst (v := 0) hx hb dX12_yard_305 rfl ?_
                                  refine lv_istore_n hx hb dX12_yard_306 rfl hl (by decide) rfl (fun ls hl => ?_)
                                  have hl : lv_has ls 4 [(3, .int 0), (2, .int v43), (0, .ref h0), (1, .int p1)] := hl
                                  have L307 : ∀ (n201 : Nat) (H201 : Heap) (locs201 : List Loc) (v200 : Int32) (z200 : Int) (ls : Array Slot), (520 - z200).toNat < n201 → v200.toInt = z200 → z200 ≤ 520 → 0 ≤ z200 → CPd H201 ca 2080 0 z200 → Conf X Γ H201 → va_S (AΓ Γ) H0 H201 locs201 → Kp X Γ [1, 6, 8, 9, 11, 12, 14] H0 H201 → (KD H0 H201 ca 0 520) → (EQ H201 ca 2080 xx) → (EQ H201 ca 2081 yy) → lv_has ls 4 [(3, .int v200), (2, .int v43), (0, .ref h0), (1, .int p1)] → W p l e (rmL 5) s m args below meth c H201 locs201 0 0 Qz (F0 m 307 ls []) := by
                                    intro n201
                                    induction n201 with
                                    | zero => intro H201 locs201 v200 z200 ls hm201 ev200 iv201_0 iv201_1 iv201_2 hC201 hS201 hKp201 kd2 n0 n1 hl; exact absurd hm201 (Nat.not_lt_zero _)
                                    | succ n201 ih201 =>
                                      intro H201 locs201 v200 z200 ls hm201 ev200 iv201_0 iv201_1 iv201_2 hC201 hS201 hKp201 kd2 n0 n1 hl
                                      have cpd := iv201_2
                                      refine lv_iload_n hx hb dX12_yard_307 rfl (lv_at hl 0 rfl) ?_
                                      refine lv_sipush (v := 520) hx hb dX12_yard_308 rfl ?_
                                      refine q_icmp_ge hx hb (a := z200) (b := 520) ev200 (by decide) (tgt := 336) dX12_yard_311 rfl (fun c202 => ?_) (fun c202 => ?_)
                                      · refine lv_aload_n hx hb dX12_yard_336 rfl (lv_at hl 2 rfl) ?_
                                        refine q_getC E hC201 g0 fa_RX12_35 uc dX12_yard_337 ?_
                                        refine lv_iconst (v := 0) hx hb dX12_yard_340 rfl ?_
                                        refine q_cald E hC201 (lo := 0) (hi := 6) gca (a := 0) (show (0 : Int32).toInt = 0 from by decide) (by omega) (by omega) (cr_c0 (by omega) (by omega)) dX12_yard_341 (fun v203 ev203 lv203 uv203 => ?_)
                                        have m204 : (sI H201 ca (0 : Int).toNat).toInt = v203.toInt := congrArg Int32.toInt ev203
                                        refine lv_aload_n hx hb dX12_yard_342 rfl (lv_at hl 2 rfl) ?_
                                        refine q_getC E hC201 g0 fa_RX12_35 uc dX12_yard_343 ?_
                                        refine lv_iconst (v := 1) hx hb dX12_yard_346 rfl ?_
                                        refine q_cald E hC201 (lo := 0) (hi := 6) gca (a := 1) (show (1 : Int32).toInt = 1 from by decide) (by omega) (by omega) (cr_c0 (by omega) (by omega)) dX12_yard_347 (fun v205 ev205 lv205 uv205 => ?_)
                                        have m206 : (sI H201 ca (1 : Int).toNat).toInt = v205.toInt := congrArg Int32.toInt ev205
                                        refine lv_imul hx hb dX12_yard_348 (lv_topi (fun v207 ev207 => ?_))
                                        have hpost : KD H0 H201 ca 0 0 ∨ (KD H0 H201 ca 0 520 ∧ YI H201 ca) := Or.inr ⟨kd2, YI.mk hC201 gca cpd (by omega) n0 n1 hxy⟩
                                        have c208 : v207.toInt = v207.toInt := rfl
                                        exact ret v207 H201 locs201 _ _ dX12_yard_349 ⟨hKp201, hpost⟩ hC201 hS201
                                      · refine lv_aload_n hx hb dX12_yard_314 rfl (lv_at hl 2 rfl) ?_
                                        refine q_getC E hC201 g0 fa_RX12_35 uc dX12_yard_315 ?_
                                        refine lv_iload_n hx hb dX12_yard_318 rfl (lv_at hl 0 rfl) ?_
                                        refine lv_aload_n hx hb dX12_yard_319 rfl (lv_at hl 2 rfl) ?_
                                        refine q_getC E hC201 g0 fa_RX12_35 uc dX12_yard_320 ?_
                                        refine lv_sipush (v := 2080) hx hb dX12_yard_323 rfl ?_
                                        refine lv_iload_n hx hb dX12_yard_326 rfl (lv_at hl 0 rfl) ?_
                                        refine lv_iadd hx hb dX12_yard_327 (lv_topi (fun v209 ev209 => ?_))
                                        have ev209i : v209.toInt = (2080 + z200) := i_add ev209 (by decide) ev200 (by omega) (by omega)
                                        refine q_craw E hC201 gca (a := (2080 + z200)) ev209i (by omega) (by omega) dX12_yard_328 (fun v210 ev210 tv210 => ?_)
                                        refine q_cast E hC201 hS201 gca (a := z200) ev200 (by omega) (by omega) (cT_nb (k := z200) rfl rfl (by omega) (by omega) tv210) dX12_yard_329 (fun H211 locs211 hC211 hS211 U211 => ?_)
                                        have hKp211 := Kp.upD gca rfl rfl (fun _ => ⟨fun h => absurd h (by decide), fun h => absurd h (by decide), fun h => absurd h (by decide)⟩) U211 hKp201
                                        have kd2 : KD H0 H211 ca 0 520 := KD.up kd2 U211 (by omega) (by omega)
                                        have n0 : EQ H211 ca 2080 xx := EQ.up n0 U211 ⟨by omega, by omega⟩ (by omega)
                                        have n1 : EQ H211 ca 2081 yy := EQ.up n1 U211 ⟨by omega, by omega⟩ (by omega)
                                        have m212 : (sI H211 h0 (X.1.2 11 12)).toInt = (sI H201 h0 (X.1.2 11 12)).toInt := congrArg Int32.toInt (up_nI U211 (ne_k g0 gca (by decide)))
                                        have m213 : (sI H211 h0 (X.1.2 11 14)).toInt = (sI H201 h0 (X.1.2 11 14)).toInt := congrArg Int32.toInt (up_nI U211 (ne_k g0 gca (by decide)))
                                        have m214 := congrArg tk m213
                                        have m215 : (sI H211 h0 (X.1.2 11 16)).toInt = (sI H201 h0 (X.1.2 11 16)).toInt := congrArg Int32.toInt (up_nI U211 (ne_k g0 gca (by decide)))
                                        have cpd : CPd H211 ca 2080 0 (z200 + 1) := CPd.step cpd (a := z200) (by omega) U211 ev210 (by omega) (by omega) (by omega)
                                        have e216 := up_I U211
                                        obtain ⟨v217, ev217⟩ : ∃ z, z = v200 + Int32.ofInt 1 := ⟨_, rfl⟩
                                        have ev217i : v217.toInt = (z200 + 1) := i_add ev217 ev200 (by decide) (by omega) (by omega)
                                        refine lv_iinc hx hb dX12_yard_330 hl (k := 0) rfl ev217.symm (by decide) rfl (fun ls hl => ?_)
                                        have hl : lv_has ls 4 [(3, .int v217), (2, .int v43), (0, .ref h0), (1, .int p1)] := hl
                                        refine lv_goto (tgt := 307) hx hb dX12_yard_333 rfl ?_
                                        exact ih201 H211 locs211 v217 ((z200 + 1)) ls (by omega) ev217i (by omega) (by omega) (cpd) hC211 hS211 hKp211 kd2 n0 n1 hl
                                  exact L307 _ H198 locs198 0 0 ls (Nat.lt_succ_self _) (by decide) (by omega) (by omega) (CPd.nil (by omega)) hC198 hS198 hKp198 kd2 n0 n1 hl
                                · refine lv_aload_n hx hb dX12_yard_279 rfl (lv_at hl 2 rfl) ?_
                                  refine q_getC E hC198 g0 fa_RX12_35 uc dX12_yard_280 ?_
                                  refine lv_sipush (v := 2214) hx hb dX12_yard_283 rfl ?_
                                  refine lv_iload_n hx hb dX12_yard_286 rfl (lv_at hl 0 rfl) ?_
                                  refine lv_iadd hx hb dX12_yard_287 (lv_topi (fun v218 ev218 => ?_))
                                  have ev218i : v218.toInt = (2214 + z197) := i_add ev218 (by decide) ev197 (by omega) (by omega)
                                  refine lv_aload_n hx hb dX12_yard_288 rfl (lv_at hl 2 rfl) ?_
                                  refine q_getC E hC198 g0 fa_RX12_35 uc dX12_yard_289 ?_
                                  refine lv_sipush (v := 2142) hx hb dX12_yard_292 rfl ?_
                                  refine lv_iload_n hx hb dX12_yard_295 rfl (lv_at hl 0 rfl) ?_
                                  refine lv_iadd hx hb dX12_yard_296 (lv_topi (fun v219 ev219 => ?_))
                                  have ev219i : v219.toInt = (2142 + z197) := i_add ev219 (by decide) ev197 (by omega) (by omega)
                                  refine q_cald E hC198 (lo := 0) (hi := 99) gca (a := (2142 + z197)) ev219i (by omega) (by omega) (cr_n26 (by omega) (by omega)) dX12_yard_297 (fun v220 ev220 lv220 uv220 => ?_)
                                  have m221 : (sI H198 ca ((2142 + z197) : Int).toNat).toInt = v220.toInt := congrArg Int32.toInt ev220
                                  refine q_cast E hC198 hS198 gca (a := (2214 + z197)) ev218i (by omega) (by omega) (cs_n134 (a := (2214 + z197)) (by omega) (by omega)) dX12_yard_298 (fun H222 locs222 hC222 hS222 U222 => ?_)
                                  have hKp222 := Kp.upD gca rfl rfl (fun _ => ⟨fun h => absurd h (by decide), fun h => absurd h (by decide), fun h => absurd h (by decide)⟩) U222 hKp198
                                  have kd : KD H0 H222 ca 0 0 := KD.up kd U222 (by omega) (by omega)
                                  have kd2 : KD H0 H222 ca 0 520 := KD.up kd2 U222 (by omega) (by omega)
                                  have n0 : EQ H222 ca 2080 xx := EQ.up n0 U222 ⟨by omega, by omega⟩ (by omega)
                                  have n1 : EQ H222 ca 2081 yy := EQ.up n1 U222 ⟨by omega, by omega⟩ (by omega)
                                  have m223 : (sI H222 h0 (X.1.2 11 12)).toInt = (sI H198 h0 (X.1.2 11 12)).toInt := congrArg Int32.toInt (up_nI U222 (ne_k g0 gca (by decide)))
                                  have m224 : (sI H222 h0 (X.1.2 11 14)).toInt = (sI H198 h0 (X.1.2 11 14)).toInt := congrArg Int32.toInt (up_nI U222 (ne_k g0 gca (by decide)))
                                  have m225 := congrArg tk m224
                                  have m226 : (sI H222 h0 (X.1.2 11 16)).toInt = (sI H198 h0 (X.1.2 11 16)).toInt := congrArg Int32.toInt (up_nI U222 (ne_k g0 gca (by decide)))
                                  have e227 := up_I U222
                                  obtain ⟨v228, ev228⟩ : ∃ z, z = v197 + Int32.ofInt 1 := ⟨_, rfl⟩
                                  have ev228i : v228.toInt = (z197 + 1) := i_add ev228 ev197 (by decide) (by omega) (by omega)
                                  refine lv_iinc hx hb dX12_yard_299 hl (k := 0) rfl ev228.symm (by decide) rfl (fun ls hl => ?_)
                                  have hl : lv_has ls 4 [(3, .int v228), (2, .int v43), (0, .ref h0), (1, .int p1)] := hl
                                  refine lv_goto (tgt := 273) hx hb dX12_yard_302 rfl ?_
                                  exact ih198 H222 locs222 v228 ((z197 + 1)) ls (by omega) ev228i (by omega) (by omega) hC222 hS222 hKp222 kd kd2 n0 n1 hl
                            exact L273 _ H195 locs195 0 0 ls (Nat.lt_succ_self _) (by decide) (by omega) (by omega) hC195 hS195 hKp195 kd kd2 n0 n1 hl
                          · refine q_if_ne hx hb (a := 0) (by decide) (tgt := 271) dX12_yard_266 rfl (fun c229 => absurd c229 (by omega)) (fun c229 => ?_)
                            refine lv_iconst (v := (-1)) hx hb dX12_yard_269 rfl ?_
                            have hpost : KD H0 H195 ca 0 0 ∨ (KD H0 H195 ca 0 520 ∧ YI H195 ca) := Or.inl kd
                            have c230 : ((-1) : Int32).toInt = (-1) := (by decide)
                            exact ret (-1) H195 locs195 _ _ dX12_yard_270 ⟨hKp195, hpost⟩ hC195 hS195
                        · refine lv_aload_n hx hb dX12_yard_165 rfl (lv_at hl 1 rfl) ?_
                          refine q_getI E hC191 g0 fa_RX12_120 dX12_yard_166 (fun v231 ev231 _ _ => ?_)
                          have m232 : (sI H191 h0 (X.1.2 11 14)).toInt = v231.toInt := (congrArg Int32.toInt ev231).trans rfl
                          refine q_if_eq hx hb (a := v231.toInt) rfl (tgt := 262) dX12_yard_169 rfl (fun c233 => ?_) (fun c233 => ?_)
                          · refine lv_aload_n hx hb dX12_yard_262 rfl (lv_at hl 1 rfl) ?_
                            refine q_goI (q_runV (As := []) (rest := []) E hC191 hS191 (m_X12_isWell l X Γ H191 hC191 h0 g0 ca gca uc) cw_X12_isWell cl_RX12_267 g0 ⟨rfl, rfl⟩ rfl hl.1 rfl (Nat.zero_le _) (by decide) dX12_yard_263) hS191 (fun v234 H234 locs234 hr234 hC234 hS234 => ?_)
                            obtain ⟨hp234, hr234⟩ := hr234
                            have hKp234 := hKp191.tr (hp234.mono rfl)
                            have kd : KD H0 H234 ca 0 0 := KD.kp kd hp234 gca rfl rfl
                            have kd2 : KD H0 H234 ca 0 520 := KD.kp kd2 hp234 gca rfl rfl
                            have n0 : EQ H234 ca 2080 xx := EQ.kn n0 hp234 gca rfl (by unfold dpn; omega)
                            have n1 : EQ H234 ca 2081 yy := EQ.kn n1 hp234 gca rfl (by unfold dpn; omega)
                            rcases hr234 with ⟨rfl, f234a⟩ | ⟨rfl, -⟩
                            · refine q_if_ne hx hb (a := 1) (by decide) (tgt := 271) dX12_yard_266 rfl (fun c235 => ?_) (fun c235 => absurd c235 (by omega))
                              have hxy : 2 ≤ xx ∧ 1 ≤ yy := by omega
                              refine lv_iconst (v := 0) hx hb dX12_yard_271 rfl ?_
                              refine lv_istore_n hx hb dX12_yard_272 rfl hl (by decide) rfl (fun ls hl => ?_)
                              have hl : lv_has ls 4 [(3, .int 0), (2, .int v43), (0, .ref h0), (1, .int p1)] := hl
                              have L273 : ∀ (n237 : Nat) (H237 : Heap) (locs237 : List Loc) (v236 : Int32) (z236 : Int) (ls : Array Slot), (36 - z236).toNat < n237 → v236.toInt = z236 → z236 ≤ 36 → 0 ≤ z236 → Conf X Γ H237 → va_S (AΓ Γ) H0 H237 locs237 → Kp X Γ [1, 6, 8, 9, 11, 12, 14] H0 H237 → (KD H0 H237 ca 0 0) → (KD H0 H237 ca 0 520) → (EQ H237 ca 2080 xx) → (EQ H237 ca 2081 yy) → lv_has ls 4 [(3, .int v236), (2, .int v43), (0, .ref h0), (1, .int p1)] → W p l e (rmL 5) s m args below meth c H237 locs237 0 0 Qz (F0 m 273 ls []) := by
                                intro n237
                                induction n237 with
                                | zero => intro H237 locs237 v236 z236 ls hm237 ev236 iv237_0 iv237_1 hC237 hS237 hKp237 kd kd2 n0 n1 hl; exact absurd hm237 (Nat.not_lt_zero _)
                                | succ n237 ih237 =>
                                  intro H237 locs237 v236 z236 ls hm237 ev236 iv237_0 iv237_1 hC237 hS237 hKp237 kd kd2 n0 n1 hl
                                  refine lv_iload_n hx hb dX12_yard_273 rfl (lv_at hl 0 rfl) ?_
                                  refine lv_bipush (v := 36) hx hb dX12_yard_274 rfl ?_
                                  refine q_icmp_ge hx hb (a := z236) (b := 36) ev236 (by decide) (tgt := 305) dX12_yard_276 rfl (fun c238 => ?_) (fun c238 => ?_)
                                  · refine lv_iconst (v := 0) hx hb dX12_yard_305 rfl ?_
                                    refine lv_istore_n hx hb dX12_yard_306 rfl hl (by decide) rfl (fun ls hl => ?_)
                                    have hl : lv_has ls 4 [(3, .int 0), (2, .int v43), (0, .ref h0), (1, .int p1)] := hl
                                    have L307 : ∀ (n240 : Nat) (H240 : Heap) (locs240 : List Loc) (v239 : Int32) (z239 : Int) (ls : Array Slot), (520 - z239).toNat < n240 → v239.toInt = z239 → z239 ≤ 520 → 0 ≤ z239 → CPd H240 ca 2080 0 z239 → Conf X Γ H240 → va_S (AΓ Γ) H0 H240 locs240 → Kp X Γ [1, 6, 8, 9, 11, 12, 14] H0 H240 → (KD H0 H240 ca 0 520) → (EQ H240 ca 2080 xx) → (EQ H240 ca 2081 yy) → lv_has ls 4 [(3, .int v239), (2, .int v43), (0, .ref h0), (1, .int p1)] → W p l e (rmL 5) s m args below meth c H240 locs240 0 0 Qz (F0 m 307 ls []) := by
                                      intro n240
                                      induction n240 with
                                      | zero => intro H240 locs240 v239 z239 ls hm240 ev239 iv240_0 iv240_1 iv240_2 hC240 hS240 hKp240 kd2 n0 n1 hl; exact absurd hm240 (Nat.not_lt_zero _)
                                      | succ n240 ih240 =>
                                        intro H240 locs240 v239 z239 ls hm240 ev239 iv240_0 iv240_1 iv240_2 hC240 hS240 hKp240 kd2 n0 n1 hl
                                        have cpd := iv240_2
                                        refine lv_iload_n hx hb dX12_yard_307 rfl (lv_at hl 0 rfl) ?_
                                        refine lv_sipush (v := 520) hx hb dX12_yard_308 rfl ?_
                                        refine q_icmp_ge hx hb (a := z239) (b := 520) ev239 (by decide) (tgt := 336) dX12_yard_311 rfl (fun c241 => ?_) (fun c241 => ?_)
                                        · refine lv_aload_n hx hb dX12_yard_336 rfl (lv_at hl 2 rfl) ?_
                                          refine q_getC E hC240 g0 fa_RX12_35 uc dX12_yard_337 ?_
                                          refine lv_iconst (v := 0) hx hb dX12_yard_340 rfl ?_
                                          refine q_cald E hC240 (lo := 0) (hi := 6) gca (a := 0) (show (0 : Int32).toInt = 0 from by decide) (by omega) (by omega) (cr_c0 (by omega) (by omega)) dX12_yard_341 (fun v242 ev242 lv242 uv242 => ?_)
                                          have m243 : (sI H240 ca (0 : Int).toNat).toInt = v242.toInt := congrArg Int32.toInt ev242
                                          refine lv_aload_n hx hb dX12_yard_342 rfl (lv_at hl 2 rfl) ?_
                                          refine q_getC E hC240 g0 fa_RX12_35 uc dX12_yard_343 ?_
                                          refine lv_iconst (v := 1) hx hb dX12_yard_346 rfl ?_
                                          refine q_cald E hC240 (lo := 0) (hi := 6) gca (a := 1) (show (1 : Int32).toInt = 1 from by decide) (by omega) (by omega) (cr_c0 (by omega) (by omega)) dX12_yard_347 (fun v244 ev244 lv244 uv244 => ?_)
                                          have m245 : (sI H240 ca (1 : Int).toNat).toInt = v244.toInt := congrArg Int32.toInt ev244
                                          refine lv_imul hx hb dX12_yard_348 (lv_topi (fun v246 ev246 => ?_))
                                          have hpost : KD H0 H240 ca 0 0 ∨ (KD H0 H240 ca 0 520 ∧ YI H240 ca) := Or.inr ⟨kd2, YI.mk hC240 gca cpd (by omega) n0 n1 hxy⟩
                                          have c247 : v246.toInt = v246.toInt := rfl
                                          exact ret v246 H240 locs240 _ _ dX12_yard_349 ⟨hKp240, hpost⟩ hC240 hS240
                                        · refine lv_aload_n hx hb dX12_yard_314 rfl (lv_at hl 2 rfl) ?_
                                          refine q_getC E hC240 g0 fa_RX12_35 uc dX12_yard_315 ?_
                                          refine lv_iload_n hx hb dX12_yard_318 rfl (lv_at hl 0 rfl) ?_
                                          refine lv_aload_n hx hb dX12_yard_319 rfl (lv_at hl 2 rfl) ?_
                                          refine q_getC E hC240 g0 fa_RX12_35 uc dX12_yard_320 ?_
                                          refine lv_sipush (v := 2080) hx hb dX12_yard_323 rfl ?_
                                          refine lv_iload_n hx hb dX12_yard_326 rfl (lv_at hl 0 rfl) ?_
                                          refine lv_iadd hx hb dX12_yard_327 (lv_topi (fun v248 ev248 => ?_))
                                          have ev248i : v248.toInt = (2080 + z239) := i_add ev248 (by decide) ev239 (by omega) (by omega)
                                          refine q_craw E hC240 gca (a := (2080 + z239)) ev248i (by omega) (by omega) dX12_yard_328 (fun v249 ev249 tv249 => ?_)
                                          refine q_cast E hC240 hS240 gca (a := z239) ev239 (by omega) (by omega) (cT_nb (k := z239) rfl rfl (by omega) (by omega) tv249) dX12_yard_329 (fun H250 locs250 hC250 hS250 U250 => ?_)
                                          have hKp250 := Kp.upD gca rfl rfl (fun _ => ⟨fun h => absurd h (by decide), fun h => absurd h (by decide), fun h => absurd h (by decide)⟩) U250 hKp240
                                          have kd2 : KD H0 H250 ca 0 520 := KD.up kd2 U250 (by omega) (by omega)
                                          have n0 : EQ H250 ca 2080 xx := EQ.up n0 U250 ⟨by omega, by omega⟩ (by omega)
                                          have n1 : EQ H250 ca 2081 yy := EQ.up n1 U250 ⟨by omega, by omega⟩ (by omega)
                                          have m251 : (sI H250 h0 (X.1.2 11 12)).toInt = (sI H240 h0 (X.1.2 11 12)).toInt := congrArg Int32.toInt (up_nI U250 (ne_k g0 gca (by decide)))
                                          have m252 : (sI H250 h0 (X.1.2 11 14)).toInt = (sI H240 h0 (X.1.2 11 14)).toInt := congrArg Int32.toInt (up_nI U250 (ne_k g0 gca (by decide)))
                                          have m253 := congrArg tk m252
                                          have m254 : (sI H250 h0 (X.1.2 11 16)).toInt = (sI H240 h0 (X.1.2 11 16)).toInt := congrArg Int32.toInt (up_nI U250 (ne_k g0 gca (by decide)))
                                          have cpd : CPd H250 ca 2080 0 (z239 + 1) := CPd.step cpd (a := z239) (by omega) U250 ev249 (by omega) (by omega) (by omega)
                                          have e255 := up_I U250
                                          obtain ⟨v256, ev256⟩ : ∃ z, z = v239 + Int32.ofInt 1 := ⟨_, rfl⟩
                                          have ev256i : v256.toInt = (z239 + 1) := i_add ev256 ev239 (by decide) (by omega) (by omega)
                                          refine lv_iinc hx hb dX12_yard_330 hl (k := 0) rfl ev256.symm (by decide) rfl (fun ls hl => ?_)
                                          have hl : lv_has ls 4 [(3, .int v256), (2, .int v43), (0, .ref h0), (1, .int p1)] := hl
                                          refine lv_goto (tgt := 307) hx hb dX12_yard_333 rfl ?_
                                          exact ih240 H250 locs250 v256 ((z239 + 1)) ls (by omega) ev256i (by omega) (by omega) (cpd) hC250 hS250 hKp250 kd2 n0 n1 hl
                                    exact L307 _ H237 locs237 0 0 ls (Nat.lt_succ_self _) (by decide) (by omega) (by omega) (CPd.nil (by omega)) hC237 hS237 hKp237 kd2 n0 n1 hl
                                  · refine lv_aload_n hx hb dX12_yard_279 rfl (lv_at hl 2 rfl) ?_
                                    refine q_getC E hC237 g0 fa_RX12_35 uc dX12_yard_280 ?_
                                    refine lv_sipush (v := 2214) hx hb dX12_yard_283 rfl ?_
                                    refine lv_iload_n hx hb dX12_yard_286 rfl (lv_at hl 0 rfl) ?_
                                    refine lv_iadd hx hb dX12_yard_287 (lv_topi (fun v257 ev257 => ?_))
                                    have ev257i : v257.toInt = (2214 + z236) := i_add ev257 (by decide) ev236 (by omega) (by omega)
                                    refine lv_aload_n hx hb dX12_yard_288 rfl (lv_at hl 2 rfl) ?_
                                    refine q_getC E hC237 g0 fa_RX12_35 uc dX12_yard_289 ?_
                                    refine lv_sipush (v := 2142) hx hb dX12_yard_292 rfl ?_
                                    refine lv_iload_n hx hb dX12_yard_295 rfl (lv_at hl 0 rfl) ?_
                                    refine lv_iadd hx hb dX12_yard_296 (lv_topi (fun v258 ev258 => ?_))
                                    have ev258i : v258.toInt = (2142 + z236) := i_add ev258 (by decide) ev236 (by omega) (by omega)
                                    refine q_cald E hC237 (lo := 0) (hi := 99) gca (a := (2142 + z236)) ev258i (by omega) (by omega) (cr_n26 (by omega) (by omega)) dX12_yard_297 (fun v259 ev259 lv259 uv259 => ?_)
                                    have m260 : (sI H237 ca ((2142 + z236) : Int).toNat).toInt = v259.toInt := congrArg Int32.toInt ev259
                                    refine q_cast E hC237 hS237 gca (a := (2214 + z236)) ev257i (by omega) (by omega) (cs_n134 (a := (2214 + z236)) (by omega) (by omega)) dX12_yard_298 (fun H261 locs261 hC261 hS261 U261 => ?_)
                                    have hKp261 := Kp.upD gca rfl rfl (fun _ => ⟨fun h => absurd h (by decide), fun h => absurd h (by decide), fun h => absurd h (by decide)⟩) U261 hKp237
                                    have kd : KD H0 H261 ca 0 0 := KD.up kd U261 (by omega) (by omega)
                                    have kd2 : KD H0 H261 ca 0 520 := KD.up kd2 U261 (by omega) (by omega)
                                    have n0 : EQ H261 ca 2080 xx := EQ.up n0 U261 ⟨by omega, by omega⟩ (by omega)
                                    have n1 : EQ H261 ca 2081 yy := EQ.up n1 U261 ⟨by omega, by omega⟩ (by omega)
                                    have m262 : (sI H261 h0 (X.1.2 11 12)).toInt = (sI H237 h0 (X.1.2 11 12)).toInt := congrArg Int32.toInt (up_nI U261 (ne_k g0 gca (by decide)))
                                    have m263 : (sI H261 h0 (X.1.2 11 14)).toInt = (sI H237 h0 (X.1.2 11 14)).toInt := congrArg Int32.toInt (up_nI U261 (ne_k g0 gca (by decide)))
                                    have m264 := congrArg tk m263
                                    have m265 : (sI H261 h0 (X.1.2 11 16)).toInt = (sI H237 h0 (X.1.2 11 16)).toInt := congrArg Int32.toInt (up_nI U261 (ne_k g0 gca (by decide)))
                                    have e266 := up_I U261
                                    obtain ⟨v267, ev267⟩ : ∃ z, z = v236 + Int32.ofInt 1 := ⟨_, rfl⟩
                                    have ev267i : v267.toInt = (z236 + 1) := i_add ev267 ev236 (by decide) (by omega) (by omega)
                                    refine lv_iinc hx hb dX12_yard_299 hl (k := 0) rfl ev267.symm (by decide) rfl (fun ls hl => ?_)
                                    have hl : lv_has ls 4 [(3, .int v267), (2, .int v43), (0, .ref h0), (1, .int p1)] := hl
                                    refine lv_goto (tgt := 273) hx hb dX12_yard_302 rfl ?_
                                    exact ih237 H261 locs261 v267 ((z236 + 1)) ls (by omega) ev267i (by omega) (by omega) hC261 hS261 hKp261 kd kd2 n0 n1 hl
                              exact L273 _ H234 locs234 0 0 ls (Nat.lt_succ_self _) (by decide) (by omega) (by omega) hC234 hS234 hKp234 kd kd2 n0 n1 hl
                            · refine q_if_ne hx hb (a := 0) (by decide) (tgt := 271) dX12_yard_266 rfl (fun c268 => absurd c268 (by omega)) (fun c268 => ?_)
                              refine lv_iconst (v := (-1)) hx hb dX12_yard_269 rfl ?_
                              have hpost : KD H0 H234 ca 0 0 ∨ (KD H0 H234 ca 0 520 ∧ YI H234 ca) := Or.inl kd
                              have c269 : ((-1) : Int32).toInt = (-1) := (by decide)
                              exact ret (-1) H234 locs234 _ _ dX12_yard_270 ⟨hKp234, hpost⟩ hC234 hS234
                          · refine lv_aload_n hx hb dX12_yard_172 rfl (lv_at hl 1 rfl) ?_
                            refine q_goIp (q_runV (As := []) (rest := []) E hC191 hS191 (m_X12_isSchool l X Γ H191 hC191 h0 g0 ca gca uc) cw_X12_isSchool cl_RX12_172 g0 ⟨rfl, rfl⟩ rfl hl.1 rfl (Nat.zero_le _) (by decide) dX12_yard_173) hS191 (fun v270 locs270 hr270 hS270 => ?_)
                            rcases hr270 with rfl | rfl
                            · refine q_if_eq hx hb (a := 0) (by decide) (tgt := 186) dX12_yard_176 rfl (fun c271 => ?_) (fun c271 => absurd c271 (by omega))
                              refine lv_aload_n hx hb dX12_yard_186 rfl (lv_at hl 1 rfl) ?_
                              refine q_goIp (q_runV (As := []) (rest := []) E hC191 hS270 (m_X12_isSnow l X Γ H191 hC191 h0 g0 ca gca uc) cw_X12_isSnow cl_RX12_178 g0 ⟨rfl, rfl⟩ rfl hl.1 rfl (Nat.zero_le _) (by decide) dX12_yard_187) hS270 (fun v272 locs272 hr272 hS272 => ?_)
                              rcases hr272 with rfl | rfl
                              · refine q_if_eq hx hb (a := 0) (by decide) (tgt := 201) dX12_yard_190 rfl (fun c273 => ?_) (fun c273 => absurd c273 (by omega))
                                refine lv_aload_n hx hb dX12_yard_201 rfl (lv_at hl 1 rfl) ?_
                                refine q_goIp (q_runV (As := []) (rest := []) E hC191 hS272 (m_X12_isWall l X Γ H191 hC191 h0 g0 ca gca uc) cw_X12_isWall cl_RX12_163 g0 ⟨rfl, rfl⟩ rfl hl.1 rfl (Nat.zero_le _) (by decide) dX12_yard_202) hS272 (fun v274 locs274 hr274 hS274 => ?_)
                                rcases hr274 with rfl | rfl
                                · refine q_if_eq hx hb (a := 0) (by decide) (tgt := 216) dX12_yard_205 rfl (fun c275 => ?_) (fun c275 => absurd c275 (by omega))
                                  refine lv_aload_n hx hb dX12_yard_216 rfl (lv_at hl 1 rfl) ?_
                                  refine q_goIp (q_runV (As := []) (rest := []) E hC191 hS274 (m_X12_isSun l X Γ H191 hC191 h0 g0 ca gca uc) cw_X12_isSun cl_RX12_187 g0 ⟨rfl, rfl⟩ rfl hl.1 rfl (Nat.zero_le _) (by decide) dX12_yard_217) hS274 (fun v276 locs276 hr276 hS276 => ?_)
                                  rcases hr276 with rfl | rfl
                                  · refine q_if_eq hx hb (a := 0) (by decide) (tgt := 231) dX12_yard_220 rfl (fun c277 => ?_) (fun c277 => absurd c277 (by omega))
                                    refine lv_aload_n hx hb dX12_yard_231 rfl (lv_at hl 1 rfl) ?_
                                    refine q_goIp (q_runV (As := []) (rest := []) E hC191 hS276 (m_X12_isNo l X Γ H191 hC191 h0 g0 ca gca uc) cw_X12_isNo cl_RX12_193 g0 ⟨rfl, rfl⟩ rfl hl.1 rfl (Nat.zero_le _) (by decide) dX12_yard_232) hS276 (fun v278 locs278 hr278 hS278 => ?_)
                                    rcases hr278 with rfl | rfl
                                    · refine q_if_eq hx hb (a := 0) (by decide) (tgt := 245) dX12_yard_235 rfl (fun c279 => ?_) (fun c279 => absurd c279 (by omega))
                                      refine lv_aload_n hx hb dX12_yard_245 rfl (lv_at hl 1 rfl) ?_
                                      refine q_goV (q_runV (As := []) (rest := []) E hC191 hS278 (m_X12_wrong l X Γ H191 hC191 h0 g0 ca gca uc) cw_X12_wrong cl_RX12_231 g0 ⟨rfl, rfl⟩ rfl hl.1 rfl (Nat.zero_le _) (by decide) dX12_yard_246) hS278 (fun H280 locs280 hr280 hC280 hS280 => ?_)
                                      obtain ⟨hp280, hr280⟩ := hr280
                                      have hKp280 := hKp191.tr (hp280.mono rfl)
                                      have kd : KD H0 H280 ca 0 0 := KD.kp kd hp280 gca rfl rfl
                                      have kd2 : KD H0 H280 ca 0 520 := KD.kp kd2 hp280 gca rfl rfl
                                      have n0 : EQ H280 ca 2080 xx := EQ.kn n0 hp280 gca rfl (by unfold dpn; omega)
                                      have n1 : EQ H280 ca 2081 yy := EQ.kn n1 hp280 gca rfl (by unfold dpn; omega)
                                      obtain ⟨f280_0, f280_1, f280_2, f280_3⟩ := hr280
                                      refine lv_aload_n hx hb dX12_yard_249 rfl (lv_at hl 1 rfl) ?_
                                      refine lv_aload_n hx hb dX12_yard_250 rfl (lv_at hl 1 rfl) ?_
                                      refine lv_bipush (v := 59) hx hb dX12_yard_251 rfl ?_
                                      have hz9 := tk_or (sI H280 h0 (X.1.2 11 14)).toInt
                                      refine q_goIp (q_runV (As := [.int 59]) (rest := [.ref h0]) E hC280 hS280 (m_X12_isSign l X Γ H280 hC280 h0 g0 59 (a1 := 59) (by decide) ca gca uc) cw_X12_isSign cl_RX12_255 g0 ⟨rfl, rfl⟩ rfl hl.1 rfl (show _ ≤ _ from by simp [Value.category]) (by decide) dX12_yard_253) hS280 (fun v281 locs281 hr281 hS281 => ?_)
                                      have b281 : (v281.toInt = 1 ∧ _) ∨ (v281.toInt = 0 ∧ _) := hr281.imp (fun h => ⟨by rw [h.1]; decide, h.2⟩) (fun h => ⟨by rw [h.1]; decide, h.2⟩)
                                      refine q_goV (q_runV (As := [.int v281]) (rest := []) E hC280 hS281 (m_X12_must l X Γ H280 hC280 h0 g0 v281 (a1 := v281.toInt) rfl ca gca uc (by omega) (by omega)) cw_X12_must cl_RX12_244 g0 ⟨rfl, rfl⟩ rfl hl.1 rfl (Nat.zero_le _) (by decide) dX12_yard_256) hS281 (fun H282 locs282 hr282 hC282 hS282 => ?_)
                                      obtain ⟨hp282, hr282⟩ := hr282
                                      have hKp282 := hKp280.tr (hp282.mono rfl)
                                      have kd : KD H0 H282 ca 0 0 := KD.kp kd hp282 gca rfl rfl
                                      have kd2 : KD H0 H282 ca 0 520 := KD.kp kd2 hp282 gca rfl rfl
                                      have n0 : EQ H282 ca 2080 xx := EQ.kn n0 hp282 gca rfl (by unfold dpn; omega)
                                      have n1 : EQ H282 ca 2081 yy := EQ.kn n1 hp282 gca rfl (by unfold dpn; omega)
                                      obtain ⟨f282_0, f282_1, f282_2, f282_3, f282_4⟩ := hr282
                                      refine lv_goto (tgt := 158) hx hb dX12_yard_259 rfl ?_
                                      exact ih191 H282 locs282 ls (by omega) (by omega) hC282 hS282 hKp282 kd kd2 n0 n1 hl
                                    · refine q_if_eq hx hb (a := 1) (by decide) (tgt := 245) dX12_yard_235 rfl (fun c283 => absurd c283 (by omega)) (fun c283 => ?_)
                                      refine lv_aload_n hx hb dX12_yard_238 rfl (lv_at hl 1 rfl) ?_
                                      refine q_goV (q_runV (As := []) (rest := []) E hC191 hS278 (m_X12_readArticle l X Γ H191 hC191 h0 g0 ca gca uc) cw_X12_readArticle cl_RX12_264 g0 ⟨rfl, rfl⟩ rfl hl.1 rfl (Nat.zero_le _) (by decide) dX12_yard_239) hS278 (fun H284 locs284 hr284 hC284 hS284 => ?_)
                                      obtain ⟨hp284, hr284⟩ := hr284
                                      have hKp284 := hKp191.tr (hp284.mono rfl)
                                      have kd : KD H0 H284 ca 0 0 := KD.kp kd hp284 gca rfl rfl
                                      have kd2 : KD H0 H284 ca 0 520 := KD.kp kd2 hp284 gca rfl rfl
                                      have n0 : EQ H284 ca 2080 xx := EQ.kn n0 hp284 gca rfl (by unfold dpn; omega)
                                      have n1 : EQ H284 ca 2081 yy := EQ.kn n1 hp284 gca rfl (by unfold dpn; omega)
                                      obtain ⟨f284_0, f284_1, f284_2, f284_3⟩ := hr284
                                      refine lv_goto (tgt := 249) hx hb dX12_yard_242 rfl ?_
                                      refine lv_aload_n hx hb dX12_yard_249 rfl (lv_at hl 1 rfl) ?_
                                      refine lv_aload_n hx hb dX12_yard_250 rfl (lv_at hl 1 rfl) ?_
                                      refine lv_bipush (v := 59) hx hb dX12_yard_251 rfl ?_
                                      have hz9 := tk_or (sI H284 h0 (X.1.2 11 14)).toInt
                                      refine q_goIp (q_runV (As := [.int 59]) (rest := [.ref h0]) E hC284 hS284 (m_X12_isSign l X Γ H284 hC284 h0 g0 59 (a1 := 59) (by decide) ca gca uc) cw_X12_isSign cl_RX12_255 g0 ⟨rfl, rfl⟩ rfl hl.1 rfl (show _ ≤ _ from by simp [Value.category]) (by decide) dX12_yard_253) hS284 (fun v285 locs285 hr285 hS285 => ?_)
                                      have b285 : (v285.toInt = 1 ∧ _) ∨ (v285.toInt = 0 ∧ _) := hr285.imp (fun h => ⟨by rw [h.1]; decide, h.2⟩) (fun h => ⟨by rw [h.1]; decide, h.2⟩)
                                      refine q_goV (q_runV (As := [.int v285]) (rest := []) E hC284 hS285 (m_X12_must l X Γ H284 hC284 h0 g0 v285 (a1 := v285.toInt) rfl ca gca uc (by omega) (by omega)) cw_X12_must cl_RX12_244 g0 ⟨rfl, rfl⟩ rfl hl.1 rfl (Nat.zero_le _) (by decide) dX12_yard_256) hS285 (fun H286 locs286 hr286 hC286 hS286 => ?_)
                                      obtain ⟨hp286, hr286⟩ := hr286
                                      have hKp286 := hKp284.tr (hp286.mono rfl)
                                      have kd : KD H0 H286 ca 0 0 := KD.kp kd hp286 gca rfl rfl
                                      have kd2 : KD H0 H286 ca 0 520 := KD.kp kd2 hp286 gca rfl rfl
                                      have n0 : EQ H286 ca 2080 xx := EQ.kn n0 hp286 gca rfl (by unfold dpn; omega)
                                      have n1 : EQ H286 ca 2081 yy := EQ.kn n1 hp286 gca rfl (by unfold dpn; omega)
                                      obtain ⟨f286_0, f286_1, f286_2, f286_3, f286_4⟩ := hr286
                                      refine lv_goto (tgt := 158) hx hb dX12_yard_259 rfl ?_
                                      exact ih191 H286 locs286 ls (by omega) (by omega) hC286 hS286 hKp286 kd kd2 n0 n1 hl
                                  · refine q_if_eq hx hb (a := 1) (by decide) (tgt := 231) dX12_yard_220 rfl (fun c287 => absurd c287 (by omega)) (fun c287 => ?_)
                                    refine lv_aload_n hx hb dX12_yard_223 rfl (lv_at hl 1 rfl) ?_
                                    refine lv_iconst (v := 2) hx hb dX12_yard_224 rfl ?_
                                    refine q_goV (q_runV (As := [.int 2]) (rest := []) E hC191 hS276 (m_X12_readCell l X Γ H191 hC191 h0 g0 2 (a1 := 2) (by decide) ca gca uc (by omega) (by omega)) cw_X12_readCell cl_RX12_261 g0 ⟨rfl, rfl⟩ rfl hl.1 rfl (Nat.zero_le _) (by decide) dX12_yard_225) hS276 (fun H288 locs288 hr288 hC288 hS288 => ?_)
                                    obtain ⟨hp288, hr288⟩ := hr288
                                    have hKp288 := hKp191.tr (hp288.mono rfl)
                                    have kd : KD H0 H288 ca 0 0 := KD.kp kd hp288 gca rfl rfl
                                    have kd2 : KD H0 H288 ca 0 520 := KD.kp kd2 hp288 gca rfl rfl
                                    have n0 : EQ H288 ca 2080 xx := EQ.kn n0 hp288 gca rfl (by unfold dpn; omega)
                                    have n1 : EQ H288 ca 2081 yy := EQ.kn n1 hp288 gca rfl (by unfold dpn; omega)
                                    obtain ⟨f288_0, f288_1, f288_2, f288_3⟩ := hr288
                                    refine lv_goto (tgt := 249) hx hb dX12_yard_228 rfl ?_
                                    refine lv_aload_n hx hb dX12_yard_249 rfl (lv_at hl 1 rfl) ?_
                                    refine lv_aload_n hx hb dX12_yard_250 rfl (lv_at hl 1 rfl) ?_
                                    refine lv_bipush (v := 59) hx hb dX12_yard_251 rfl ?_
                                    have hz9 := tk_or (sI H288 h0 (X.1.2 11 14)).toInt
                                    refine q_goIp (q_runV (As := [.int 59]) (rest := [.ref h0]) E hC288 hS288 (m_X12_isSign l X Γ H288 hC288 h0 g0 59 (a1 := 59) (by decide) ca gca uc) cw_X12_isSign cl_RX12_255 g0 ⟨rfl, rfl⟩ rfl hl.1 rfl (show _ ≤ _ from by simp [Value.category]) (by decide) dX12_yard_253) hS288 (fun v289 locs289 hr289 hS289 => ?_)
                                    have b289 : (v289.toInt = 1 ∧ _) ∨ (v289.toInt = 0 ∧ _) := hr289.imp (fun h => ⟨by rw [h.1]; decide, h.2⟩) (fun h => ⟨by rw [h.1]; decide, h.2⟩)
                                    refine q_goV (q_runV (As := [.int v289]) (rest := []) E hC288 hS289 (m_X12_must l X Γ H288 hC288 h0 g0 v289 (a1 := v289.toInt) rfl ca gca uc (by omega) (by omega)) cw_X12_must cl_RX12_244 g0 ⟨rfl, rfl⟩ rfl hl.1 rfl (Nat.zero_le _) (by decide) dX12_yard_256) hS289 (fun H290 locs290 hr290 hC290 hS290 => ?_)
                                    obtain ⟨hp290, hr290⟩ := hr290
                                    have hKp290 := hKp288.tr (hp290.mono rfl)
                                    have kd : KD H0 H290 ca 0 0 := KD.kp kd hp290 gca rfl rfl
                                    have kd2 : KD H0 H290 ca 0 520 := KD.kp kd2 hp290 gca rfl rfl
                                    have n0 : EQ H290 ca 2080 xx := EQ.kn n0 hp290 gca rfl (by unfold dpn; omega)
                                    have n1 : EQ H290 ca 2081 yy := EQ.kn n1 hp290 gca rfl (by unfold dpn; omega)
                                    obtain ⟨f290_0, f290_1, f290_2, f290_3, f290_4⟩ := hr290
                                    refine lv_goto (tgt := 158) hx hb dX12_yard_259 rfl ?_
                                    exact ih191 H290 locs290 ls (by omega) (by omega) hC290 hS290 hKp290 kd kd2 n0 n1 hl
                                · refine q_if_eq hx hb (a := 1) (by decide) (tgt := 216) dX12_yard_205 rfl (fun c291 => absurd c291 (by omega)) (fun c291 => ?_)
                                  refine lv_aload_n hx hb dX12_yard_208 rfl (lv_at hl 1 rfl) ?_
                                  refine lv_iconst (v := 1) hx hb dX12_yard_209 rfl ?_
                                  refine q_goV (q_runV (As := [.int 1]) (rest := []) E hC191 hS274 (m_X12_readCell l X Γ H191 hC191 h0 g0 1 (a1 := 1) (by decide) ca gca uc (by omega) (by omega)) cw_X12_readCell cl_RX12_261 g0 ⟨rfl, rfl⟩ rfl hl.1 rfl (Nat.zero_le _) (by decide) dX12_yard_210) hS274 (fun H292 locs292 hr292 hC292 hS292 => ?_)
                                  obtain ⟨hp292, hr292⟩ := hr292
                                  have hKp292 := hKp191.tr (hp292.mono rfl)
                                  have kd : KD H0 H292 ca 0 0 := KD.kp kd hp292 gca rfl rfl
                                  have kd2 : KD H0 H292 ca 0 520 := KD.kp kd2 hp292 gca rfl rfl
                                  have n0 : EQ H292 ca 2080 xx := EQ.kn n0 hp292 gca rfl (by unfold dpn; omega)
                                  have n1 : EQ H292 ca 2081 yy := EQ.kn n1 hp292 gca rfl (by unfold dpn; omega)
                                  obtain ⟨f292_0, f292_1, f292_2, f292_3⟩ := hr292
                                  refine lv_goto (tgt := 249) hx hb dX12_yard_213 rfl ?_
                                  refine lv_aload_n hx hb dX12_yard_249 rfl (lv_at hl 1 rfl) ?_
                                  refine lv_aload_n hx hb dX12_yard_250 rfl (lv_at hl 1 rfl) ?_
                                  refine lv_bipush (v := 59) hx hb dX12_yard_251 rfl ?_
                                  have hz9 := tk_or (sI H292 h0 (X.1.2 11 14)).toInt
                                  refine q_goIp (q_runV (As := [.int 59]) (rest := [.ref h0]) E hC292 hS292 (m_X12_isSign l X Γ H292 hC292 h0 g0 59 (a1 := 59) (by decide) ca gca uc) cw_X12_isSign cl_RX12_255 g0 ⟨rfl, rfl⟩ rfl hl.1 rfl (show _ ≤ _ from by simp [Value.category]) (by decide) dX12_yard_253) hS292 (fun v293 locs293 hr293 hS293 => ?_)
                                  have b293 : (v293.toInt = 1 ∧ _) ∨ (v293.toInt = 0 ∧ _) := hr293.imp (fun h => ⟨by rw [h.1]; decide, h.2⟩) (fun h => ⟨by rw [h.1]; decide, h.2⟩)
                                  refine q_goV (q_runV (As := [.int v293]) (rest := []) E hC292 hS293 (m_X12_must l X Γ H292 hC292 h0 g0 v293 (a1 := v293.toInt) rfl ca gca uc (by omega) (by omega)) cw_X12_must cl_RX12_244 g0 ⟨rfl, rfl⟩ rfl hl.1 rfl (Nat.zero_le _) (by decide) dX12_yard_256) hS293 (fun H294 locs294 hr294 hC294 hS294 => ?_)
                                  obtain ⟨hp294, hr294⟩ := hr294
                                  have hKp294 := hKp292.tr (hp294.mono rfl)
                                  have kd : KD H0 H294 ca 0 0 := KD.kp kd hp294 gca rfl rfl
                                  have kd2 : KD H0 H294 ca 0 520 := KD.kp kd2 hp294 gca rfl rfl
                                  have n0 : EQ H294 ca 2080 xx := EQ.kn n0 hp294 gca rfl (by unfold dpn; omega)
                                  have n1 : EQ H294 ca 2081 yy := EQ.kn n1 hp294 gca rfl (by unfold dpn; omega)
                                  obtain ⟨f294_0, f294_1, f294_2, f294_3, f294_4⟩ := hr294
                                  refine lv_goto (tgt := 158) hx hb dX12_yard_259 rfl ?_
                                  exact ih191 H294 locs294 ls (by omega) (by omega) hC294 hS294 hKp294 kd kd2 n0 n1 hl
                              · refine q_if_eq hx hb (a := 1) (by decide) (tgt := 201) dX12_yard_190 rfl (fun c295 => absurd c295 (by omega)) (fun c295 => ?_)
                                refine lv_aload_n hx hb dX12_yard_193 rfl (lv_at hl 1 rfl) ?_
                                refine lv_iconst (v := 0) hx hb dX12_yard_194 rfl ?_
                                refine q_goV (q_runV (As := [.int 0]) (rest := []) E hC191 hS272 (m_X12_readCell l X Γ H191 hC191 h0 g0 0 (a1 := 0) (by decide) ca gca uc (by omega) (by omega)) cw_X12_readCell cl_RX12_261 g0 ⟨rfl, rfl⟩ rfl hl.1 rfl (Nat.zero_le _) (by decide) dX12_yard_195) hS272 (fun H296 locs296 hr296 hC296 hS296 => ?_)
                                obtain ⟨hp296, hr296⟩ := hr296
                                have hKp296 := hKp191.tr (hp296.mono rfl)
                                have kd : KD H0 H296 ca 0 0 := KD.kp kd hp296 gca rfl rfl
                                have kd2 : KD H0 H296 ca 0 520 := KD.kp kd2 hp296 gca rfl rfl
                                have n0 : EQ H296 ca 2080 xx := EQ.kn n0 hp296 gca rfl (by unfold dpn; omega)
                                have n1 : EQ H296 ca 2081 yy := EQ.kn n1 hp296 gca rfl (by unfold dpn; omega)
                                obtain ⟨f296_0, f296_1, f296_2, f296_3⟩ := hr296
                                refine lv_goto (tgt := 249) hx hb dX12_yard_198 rfl ?_
                                refine lv_aload_n hx hb dX12_yard_249 rfl (lv_at hl 1 rfl) ?_
                                refine lv_aload_n hx hb dX12_yard_250 rfl (lv_at hl 1 rfl) ?_
                                refine lv_bipush (v := 59) hx hb dX12_yard_251 rfl ?_
                                have hz9 := tk_or (sI H296 h0 (X.1.2 11 14)).toInt
                                refine q_goIp (q_runV (As := [.int 59]) (rest := [.ref h0]) E hC296 hS296 (m_X12_isSign l X Γ H296 hC296 h0 g0 59 (a1 := 59) (by decide) ca gca uc) cw_X12_isSign cl_RX12_255 g0 ⟨rfl, rfl⟩ rfl hl.1 rfl (show _ ≤ _ from by simp [Value.category]) (by decide) dX12_yard_253) hS296 (fun v297 locs297 hr297 hS297 => ?_)
                                have b297 : (v297.toInt = 1 ∧ _) ∨ (v297.toInt = 0 ∧ _) := hr297.imp (fun h => ⟨by rw [h.1]; decide, h.2⟩) (fun h => ⟨by rw [h.1]; decide, h.2⟩)
                                refine q_goV (q_runV (As := [.int v297]) (rest := []) E hC296 hS297 (m_X12_must l X Γ H296 hC296 h0 g0 v297 (a1 := v297.toInt) rfl ca gca uc (by omega) (by omega)) cw_X12_must cl_RX12_244 g0 ⟨rfl, rfl⟩ rfl hl.1 rfl (Nat.zero_le _) (by decide) dX12_yard_256) hS297 (fun H298 locs298 hr298 hC298 hS298 => ?_)
                                obtain ⟨hp298, hr298⟩ := hr298
                                have hKp298 := hKp296.tr (hp298.mono rfl)
                                have kd : KD H0 H298 ca 0 0 := KD.kp kd hp298 gca rfl rfl
                                have kd2 : KD H0 H298 ca 0 520 := KD.kp kd2 hp298 gca rfl rfl
                                have n0 : EQ H298 ca 2080 xx := EQ.kn n0 hp298 gca rfl (by unfold dpn; omega)
                                have n1 : EQ H298 ca 2081 yy := EQ.kn n1 hp298 gca rfl (by unfold dpn; omega)
                                obtain ⟨f298_0, f298_1, f298_2, f298_3, f298_4⟩ := hr298
                                refine lv_goto (tgt := 158) hx hb dX12_yard_259 rfl ?_
                                exact ih191 H298 locs298 ls (by omega) (by omega) hC298 hS298 hKp298 kd kd2 n0 n1 hl
                            · refine q_if_eq hx hb (a := 1) (by decide) (tgt := 186) dX12_yard_176 rfl (fun c299 => absurd c299 (by omega)) (fun c299 => ?_)
                              refine lv_aload_n hx hb dX12_yard_179 rfl (lv_at hl 1 rfl) ?_
                              refine q_goV (q_runV (As := []) (rest := []) E hC191 hS270 (m_X12_readSchool l X Γ H191 hC191 h0 g0 ca gca uc) cw_X12_readSchool cl_RX12_258 g0 ⟨rfl, rfl⟩ rfl hl.1 rfl (Nat.zero_le _) (by decide) dX12_yard_180) hS270 (fun H300 locs300 hr300 hC300 hS300 => ?_)
                              obtain ⟨hp300, hr300⟩ := hr300
                              have hKp300 := hKp191.tr (hp300.mono rfl)
                              have kd : KD H0 H300 ca 0 0 := KD.kp kd hp300 gca rfl rfl
                              have kd2 : KD H0 H300 ca 0 520 := KD.kp kd2 hp300 gca rfl rfl
                              have n0 : EQ H300 ca 2080 xx := EQ.kn n0 hp300 gca rfl (by unfold dpn; omega)
                              have n1 : EQ H300 ca 2081 yy := EQ.kn n1 hp300 gca rfl (by unfold dpn; omega)
                              obtain ⟨f300_0, f300_1, f300_2, f300_3⟩ := hr300
                              refine lv_goto (tgt := 249) hx hb dX12_yard_183 rfl ?_
                              refine lv_aload_n hx hb dX12_yard_249 rfl (lv_at hl 1 rfl) ?_
                              refine lv_aload_n hx hb dX12_yard_250 rfl (lv_at hl 1 rfl) ?_
                              refine lv_bipush (v := 59) hx hb dX12_yard_251 rfl ?_
                              have hz9 := tk_or (sI H300 h0 (X.1.2 11 14)).toInt
                              refine q_goIp (q_runV (As := [.int 59]) (rest := [.ref h0]) E hC300 hS300 (m_X12_isSign l X Γ H300 hC300 h0 g0 59 (a1 := 59) (by decide) ca gca uc) cw_X12_isSign cl_RX12_255 g0 ⟨rfl, rfl⟩ rfl hl.1 rfl (show _ ≤ _ from by simp [Value.category]) (by decide) dX12_yard_253) hS300 (fun v301 locs301 hr301 hS301 => ?_)
                              have b301 : (v301.toInt = 1 ∧ _) ∨ (v301.toInt = 0 ∧ _) := hr301.imp (fun h => ⟨by rw [h.1]; decide, h.2⟩) (fun h => ⟨by rw [h.1]; decide, h.2⟩)
                              refine q_goV (q_runV (As := [.int v301]) (rest := []) E hC300 hS301 (m_X12_must l X Γ H300 hC300 h0 g0 v301 (a1 := v301.toInt) rfl ca gca uc (by omega) (by omega)) cw_X12_must cl_RX12_244 g0 ⟨rfl, rfl⟩ rfl hl.1 rfl (Nat.zero_le _) (by decide) dX12_yard_256) hS301 (fun H302 locs302 hr302 hC302 hS302 => ?_)
                              obtain ⟨hp302, hr302⟩ := hr302
                              have hKp302 := hKp300.tr (hp302.mono rfl)
                              have kd : KD H0 H302 ca 0 0 := KD.kp kd hp302 gca rfl rfl
                              have kd2 : KD H0 H302 ca 0 520 := KD.kp kd2 hp302 gca rfl rfl
                              have n0 : EQ H302 ca 2080 xx := EQ.kn n0 hp302 gca rfl (by unfold dpn; omega)
                              have n1 : EQ H302 ca 2081 yy := EQ.kn n1 hp302 gca rfl (by unfold dpn; omega)
                              obtain ⟨f302_0, f302_1, f302_2, f302_3, f302_4⟩ := hr302
                              refine lv_goto (tgt := 158) hx hb dX12_yard_259 rfl ?_
                              exact ih191 H302 locs302 ls (by omega) (by omega) hC302 hS302 hKp302 kd kd2 n0 n1 hl
                    exact L158 903 H190 locs190 ls (by omega) (by omega) hC190 hS190 hKp190 kd kd2 n0 n1 hl
                  · refine lv_aload_n hx hb dX12_yard_119 rfl (lv_at hl 1 rfl) ?_
                    refine lv_iconst (v := 4) hx hb dX12_yard_120 rfl ?_
                    refine lv_iload_n hx hb dX12_yard_121 rfl (lv_at hl 0 rfl) ?_
                    refine q_goV (q_runV (As := [.int 4, .int v43]) (rest := []) E hC45 hS45 (m_X12_fail l X Γ H45 hC45 h0 g0 4 (a1 := 4) (by decide) v43 (a2 := v43.toInt) rfl ca gca uc (by omega) (by omega)) cw_X12_fail cl_RX12_224 g0 ⟨rfl, rfl⟩ rfl hl.1 rfl (Nat.zero_le _) (by decide) dX12_yard_122) hS45 (fun H303 locs303 hr303 hC303 hS303 => ?_)
                    obtain ⟨hp303, hr303⟩ := hr303
                    have hKp303 := hKp45.tr (hp303.mono rfl)
                    have kd : KD H0 H303 ca 0 0 := KD.kp kd hp303 gca rfl rfl
                    have kd2 : KD H0 H303 ca 0 520 := KD.kp kd2 hp303 gca rfl rfl
                    have n0 : EQ H303 ca 2080 xx := EQ.kn n0 hp303 gca rfl (by unfold dpn; omega)
                    obtain ⟨f303_0, f303_1, f303_2, f303_3⟩ := hr303
                    refine lv_aload_n hx hb dX12_yard_125 rfl (lv_at hl 1 rfl) ?_
                    refine lv_aload_n hx hb dX12_yard_126 rfl (lv_at hl 1 rfl) ?_
                    refine q_goIp (q_runV (As := []) (rest := [.ref h0]) E hC303 hS303 (m_X12_isHigh l X Γ H303 hC303 h0 g0 ca gca uc) cw_X12_isHigh cl_RX12_169 g0 ⟨rfl, rfl⟩ rfl hl.1 rfl (show _ ≤ _ from by simp [Value.category]) (by decide) dX12_yard_127) hS303 (fun v304 locs304 hr304 hS304 => ?_)
                    have b304 : v304.toInt = 0 ∨ v304.toInt = 1 := hr304.imp (fun h => by rw [h]; decide) (fun h => by rw [h]; decide)
                    refine q_goV (q_runV (As := [.int v304]) (rest := []) E hC303 hS304 (m_X12_must l X Γ H303 hC303 h0 g0 v304 (a1 := v304.toInt) rfl ca gca uc (by omega) (by omega)) cw_X12_must cl_RX12_244 g0 ⟨rfl, rfl⟩ rfl hl.1 rfl (Nat.zero_le _) (by decide) dX12_yard_130) hS304 (fun H305 locs305 hr305 hC305 hS305 => ?_)
                    obtain ⟨hp305, hr305⟩ := hr305
                    have hKp305 := hKp303.tr (hp305.mono rfl)
                    have kd : KD H0 H305 ca 0 0 := KD.kp kd hp305 gca rfl rfl
                    have kd2 : KD H0 H305 ca 0 520 := KD.kp kd2 hp305 gca rfl rfl
                    have n0 : EQ H305 ca 2080 xx := EQ.kn n0 hp305 gca rfl (by unfold dpn; omega)
                    obtain ⟨f305_0, f305_1, f305_2, f305_3, f305_4⟩ := hr305
                    refine lv_aload_n hx hb dX12_yard_133 rfl (lv_at hl 1 rfl) ?_
                    refine q_getC E hC305 g0 fa_RX12_35 uc dX12_yard_134 ?_
                    refine lv_sipush (v := 2081) hx hb dX12_yard_137 rfl ?_
                    refine lv_aload_n hx hb dX12_yard_140 rfl (lv_at hl 1 rfl) ?_
                    refine lv_iconst (v := 1) hx hb dX12_yard_141 rfl ?_
                    refine lv_bipush (v := 6) hx hb dX12_yard_142 rfl ?_
                    refine q_goI (q_runV (As := [.int 1, .int 6]) (rest := [.int 2081, .ref ca]) E hC305 hS305 (m_X12_count l X Γ H305 hC305 h0 g0 1 (a1 := 1) (by decide) 6 (a2 := 6) (by decide) ca gca uc (by omega) (by omega) (by omega) (by omega)) cw_X12_count cl_RX12_248 g0 ⟨rfl, rfl⟩ rfl hl.1 rfl (show _ ≤ _ from by simp [Value.category]) (by decide) dX12_yard_144) hS305 (fun v306 H306 locs306 hr306 hC306 hS306 => ?_)
                    obtain ⟨hp306, hr306⟩ := hr306
                    have hKp306 := hKp305.tr (hp306.mono rfl)
                    have kd : KD H0 H306 ca 0 0 := KD.kp kd hp306 gca rfl rfl
                    have kd2 : KD H0 H306 ca 0 520 := KD.kp kd2 hp306 gca rfl rfl
                    have n0 : EQ H306 ca 2080 xx := EQ.kn n0 hp306 gca rfl (by unfold dpn; omega)
                    obtain ⟨f306_0, f306_1, f306_2, f306_3, f306_4, f306_5, f306_6, f306_7⟩ := hr306
                    refine q_cast E hC306 hS306 gca (a := 2081) (show (2081 : Int32).toInt = 2081 from by decide) (by omega) (by omega) (cs_n0 (a := 2081) (b := v306.toInt) (by omega) (by omega) rfl (by omega) (by omega)) dX12_yard_147 (fun H307 locs307 hC307 hS307 U307 => ?_)
                    have hKp307 := Kp.upD gca rfl rfl (fun _ => ⟨fun h => absurd h (by decide), fun h => absurd h (by decide), fun h => absurd h (by decide)⟩) U307 hKp306
                    have kd : KD H0 H307 ca 0 0 := KD.up kd U307 (by omega) (by omega)
                    have kd2 : KD H0 H307 ca 0 520 := KD.up kd2 U307 (by omega) (by omega)
                    have n0 : EQ H307 ca 2080 xx := EQ.up n0 U307 ⟨by omega, by omega⟩ (by omega)
                    have m308 : (sI H307 h0 (X.1.2 11 12)).toInt = (sI H306 h0 (X.1.2 11 12)).toInt := congrArg Int32.toInt (up_nI U307 (ne_k g0 gca (by decide)))
                    have m309 : (sI H307 h0 (X.1.2 11 14)).toInt = (sI H306 h0 (X.1.2 11 14)).toInt := congrArg Int32.toInt (up_nI U307 (ne_k g0 gca (by decide)))
                    have m310 := congrArg tk m309
                    have m311 : (sI H307 h0 (X.1.2 11 16)).toInt = (sI H306 h0 (X.1.2 11 16)).toInt := congrArg Int32.toInt (up_nI U307 (ne_k g0 gca (by decide)))
                    obtain ⟨yy, hyy⟩ : ∃ z, v306.toInt = z := ⟨_, rfl⟩
                    have n1 : EQ H307 ca 2081 yy := (congrArg Int32.toInt (up_I U307)).trans (rfl.trans hyy)
                    have e312 := up_I U307
                    refine lv_aload_n hx hb dX12_yard_148 rfl (lv_at hl 1 rfl) ?_
                    refine lv_aload_n hx hb dX12_yard_149 rfl (lv_at hl 1 rfl) ?_
                    refine lv_bipush (v := 59) hx hb dX12_yard_150 rfl ?_
                    refine q_goIp (q_runV (As := [.int 59]) (rest := [.ref h0]) E hC307 hS307 (m_X12_isSign l X Γ H307 hC307 h0 g0 59 (a1 := 59) (by decide) ca gca uc) cw_X12_isSign cl_RX12_255 g0 ⟨rfl, rfl⟩ rfl hl.1 rfl (show _ ≤ _ from by simp [Value.category]) (by decide) dX12_yard_152) hS307 (fun v313 locs313 hr313 hS313 => ?_)
                    have b313 : (v313.toInt = 1 ∧ _) ∨ (v313.toInt = 0 ∧ _) := hr313.imp (fun h => ⟨by rw [h.1]; decide, h.2⟩) (fun h => ⟨by rw [h.1]; decide, h.2⟩)
                    have hb0 := f_bd hC307 g0 (ci := 11) (k := 16) rfl rfl
                    refine q_goV (q_runV (As := [.int v313]) (rest := []) E hC307 hS313 (m_X12_must l X Γ H307 hC307 h0 g0 v313 (a1 := v313.toInt) rfl ca gca uc (by omega) (by omega)) cw_X12_must cl_RX12_244 g0 ⟨rfl, rfl⟩ rfl hl.1 rfl (Nat.zero_le _) (by decide) dX12_yard_155) hS313 (fun H314 locs314 hr314 hC314 hS314 => ?_)
                    obtain ⟨hp314, hr314⟩ := hr314
                    have hKp314 := hKp307.tr (hp314.mono rfl)
                    have kd : KD H0 H314 ca 0 0 := KD.kp kd hp314 gca rfl rfl
                    have kd2 : KD H0 H314 ca 0 520 := KD.kp kd2 hp314 gca rfl rfl
                    have n0 : EQ H314 ca 2080 xx := EQ.kn n0 hp314 gca rfl (by unfold dpn; omega)
                    have n1 : EQ H314 ca 2081 yy := EQ.kn n1 hp314 gca rfl (by unfold dpn; omega)
                    obtain ⟨f314_0, f314_1, f314_2, f314_3, f314_4⟩ := hr314
                    have L158 : ∀ (n315 : Nat) (H315 : Heap) (locs315 : List Loc) (ls : Array Slot), 0 < n315 ∧ ((sI H315 h0 (X.1.2 11 12)).toInt ≠ 0 ∨ 902 - (sI H315 h0 (X.1.2 11 16)).toInt < n315) → ((sI H315 h0 (X.1.2 11 12)).toInt = 0 → 2 ≤ xx ∧ 1 ≤ yy) → Conf X Γ H315 → va_S (AΓ Γ) H0 H315 locs315 → Kp X Γ [1, 6, 8, 9, 11, 12, 14] H0 H315 → (KD H0 H315 ca 0 0) → (KD H0 H315 ca 0 520) → (EQ H315 ca 2080 xx) → (EQ H315 ca 2081 yy) → lv_has ls 4 [(2, .int v43), (0, .ref h0), (1, .int p1)] → W p l e (rmL 5) s m args below meth c H315 locs315 0 0 Qz (F0 m 158 ls []) := by
                      intro n315
                      induction n315 with
                      | zero => intro H315 locs315 ls hm315 iv315_0 hC315 hS315 hKp315 kd kd2 n0 n1 hl; exact absurd hm315 (by omega)
                      | succ n315 ih315 =>
                        intro H315 locs315 ls hm315 iv315_0 hC315 hS315 hKp315 kd kd2 n0 n1 hl
                        have hb1 := f_bd hC315 g0 (ci := 11) (k := 16) rfl rfl
                        have hb2 := f_bd hC315 g0 (ci := 11) (k := 12) rfl rfl
                        refine lv_aload_n hx hb dX12_yard_158 rfl (lv_at hl 1 rfl) ?_
                        refine q_getI E hC315 g0 fa_RX12_218 dX12_yard_159 (fun v316 ev316 lv316 uv316 => ?_)
                        have m317 : (sI H315 h0 (X.1.2 11 12)).toInt = v316.toInt := (congrArg Int32.toInt ev316).trans rfl
                        refine q_if_ne hx hb (a := v316.toInt) rfl (tgt := 262) dX12_yard_162 rfl (fun c318 => ?_) (fun c318 => ?_)
                        · refine lv_aload_n hx hb dX12_yard_262 rfl (lv_at hl 1 rfl) ?_
                          refine q_goI (q_runV (As := []) (rest := []) E hC315 hS315 (m_X12_isWell l X Γ H315 hC315 h0 g0 ca gca uc) cw_X12_isWell cl_RX12_267 g0 ⟨rfl, rfl⟩ rfl hl.1 rfl (Nat.zero_le _) (by decide) dX12_yard_263) hS315 (fun v319 H319 locs319 hr319 hC319 hS319 => ?_)
                          obtain ⟨hp319, hr319⟩ := hr319
                          have hKp319 := hKp315.tr (hp319.mono rfl)
                          have kd : KD H0 H319 ca 0 0 := KD.kp kd hp319 gca rfl rfl
                          have kd2 : KD H0 H319 ca 0 520 := KD.kp kd2 hp319 gca rfl rfl
                          have n0 : EQ H319 ca 2080 xx := EQ.kn n0 hp319 gca rfl (by unfold dpn; omega)
                          have n1 : EQ H319 ca 2081 yy := EQ.kn n1 hp319 gca rfl (by unfold dpn; omega)
                          rcases hr319 with ⟨rfl, f319a⟩ | ⟨rfl, -⟩
                          · refine q_if_ne hx hb (a := 1) (by decide) (tgt := 271) dX12_yard_266 rfl (fun c320 => ?_) (fun c320 => absurd c320 (by omega))
                            have hxy : 2 ≤ xx ∧ 1 ≤ yy := by omega
                            refine lv_iconst (v := 0) hx hb dX12_yard_271 rfl ?_
                            refine lv_istore_n hx hb dX12_yard_272 rfl hl (by decide) rfl (fun ls hl => ?_)
                            have hl : lv_has ls 4 [(3, .int 0), (2, .int v43), (0, .ref h0), (1, .int p1)] := hl
                            have L273 : ∀ (n322 : Nat) (H322 : Heap) (locs322 : List Loc) (v321 : Int32) (z321 : Int) (ls : Array Slot), (36 - z321).toNat < n322 → v321.toInt = z321 → z321 ≤ 36 → 0 ≤ z321 → Conf X Γ H322 → va_S (AΓ Γ) H0 H322 locs322 → Kp X Γ [1, 6, 8, 9, 11, 12, 14] H0 H322 → (KD H0 H322 ca 0 0) → (KD H0 H322 ca 0 520) → (EQ H322 ca 2080 xx) → (EQ H322 ca 2081 yy) → lv_has ls 4 [(3, .int v321), (2, .int v43), (0, .ref h0), (1, .int p1)] → W p l e (rmL 5) s m args below meth c H322 locs322 0 0 Qz (F0 m 273 ls []) := by
                              intro n322
                              induction n322 with
                              | zero => intro H322 locs322 v321 z321 ls hm322 ev321 iv322_0 iv322_1 hC322 hS322 hKp322 kd kd2 n0 n1 hl; exact absurd hm322 (Nat.not_lt_zero _)
                              | succ n322 ih322 =>
                                intro H322 locs322 v321 z321 ls hm322 ev321 iv322_0 iv322_1 hC322 hS322 hKp322 kd kd2 n0 n1 hl
                                refine lv_iload_n hx hb dX12_yard_273 rfl (lv_at hl 0 rfl) ?_
                                refine lv_bipush (v := 36) hx hb dX12_yard_274 rfl ?_
                                refine q_icmp_ge hx hb (a := z321) (b := 36) ev321 (by decide) (tgt := 305) dX12_yard_276 rfl (fun c323 => ?_) (fun c323 => ?_)
                                · refine lv_iconst (v := 0) hx hb dX12_yard_305 rfl ?_
                                  refine lv_istore_n hx hb dX12_yard_306 rfl hl (by decide) rfl (fun ls hl => ?_)
                                  have hl : lv_has ls 4 [(3, .int 0), (2, .int v43), (0, .ref h0), (1, .int p1)] := hl
                                  have L307 : ∀ (n325 : Nat) (H325 : Heap) (locs325 : List Loc) (v324 : Int32) (z324 : Int) (ls : Array Slot), (520 - z324).toNat < n325 → v324.toInt = z324 → z324 ≤ 520 → 0 ≤ z324 → CPd H325 ca 2080 0 z324 → Conf X Γ H325 → va_S (AΓ Γ) H0 H325 locs325 → Kp X Γ [1, 6, 8, 9, 11, 12, 14] H0 H325 → (KD H0 H325 ca 0 520) → (EQ H325 ca 2080 xx) → (EQ H325 ca 2081 yy) → lv_has ls 4 [(3, .int v324), (2, .int v43), (0, .ref h0), (1, .int p1)] → W p l e (rmL 5) s m args below meth c H325 locs325 0 0 Qz (F0 m 307 ls []) := by
                                    intro n325
                                    induction n325 with
                                    | zero => intro H325 locs325 v324 z324 ls hm325 ev324 iv325_0 iv325_1 iv325_2 hC325 hS325 hKp325 kd2 n0 n1 hl; exact absurd hm325 (Nat.not_lt_zero _)
                                    | succ n325 ih325 =>
                                      intro H325 locs325 v324 z324 ls hm325 ev324 iv325_0 iv325_1 iv325_2 hC325 hS325 hKp325 kd2 n0 n1 hl
                                      have cpd := iv325_2
                                      refine lv_iload_n hx hb dX12_yard_307 rfl (lv_at hl 0 rfl) ?_
                                      refine lv_sipush (v := 520) hx hb dX12_yard_308 rfl ?_
                                      refine q_icmp_ge hx hb (a := z324) (b := 520) ev324 (by decide) (tgt := 336) dX12_yard_311 rfl (fun c326 => ?_) (fun c326 => ?_)
                                      · refine lv_aload_n hx hb dX12_yard_336 rfl (lv_at hl 2 rfl) ?_
                                        refine q_getC E hC325 g0 fa_RX12_35 uc dX12_yard_337 ?_
                                        refine lv_iconst (v := 0) hx hb dX12_yard_340 rfl ?_
                                        refine q_cald E hC325 (lo := 0) (hi := 6) gca (a := 0) (show (0 : Int32).toInt = 0 from by decide) (by omega) (by omega) (cr_c0 (by omega) (by omega)) dX12_yard_341 (fun v327 ev327 lv327 uv327 => ?_)
                                        have m328 : (sI H325 ca (0 : Int).toNat).toInt = v327.toInt := congrArg Int32.toInt ev327
                                        refine lv_aload_n hx hb dX12_yard_342 rfl (lv_at hl 2 rfl) ?_
                                        refine q_getC E hC325 g0 fa_RX12_35 uc dX12_yard_343 ?_
                                        refine lv_iconst (v := 1) hx hb dX12_yard_346 rfl ?_
                                        refine q_cald E hC325 (lo := 0) (hi := 6) gca (a := 1) (show (1 : Int32).toInt = 1 from by decide) (by omega) (by omega) (cr_c0 (by omega) (by omega)) dX12_yard_347 (fun v329 ev329 lv329 uv329 => ?_)
                                        have m330 : (sI H325 ca (1 : Int).toNat).toInt = v329.toInt := congrArg Int32.toInt ev329
                                        refine lv_imul hx hb dX12_yard_348 (lv_topi (fun v331 ev331 => ?_))
                                        have hpost : KD H0 H325 ca 0 0 ∨ (KD H0 H325 ca 0 520 ∧ YI H325 ca) := Or.inr ⟨kd2, YI.mk hC325 gca cpd (by omega) n0 n1 hxy⟩
                                        have c332 : v331.toInt = v331.toInt := rfl
                                        exact ret v331 H325 locs325 _ _ dX12_yard_349 ⟨hKp325, hpost⟩ hC325 hS325
                                      · refine lv_aload_n hx hb dX12_yard_314 rfl (lv_at hl 2 rfl) ?_
                                        refine q_getC E hC325 g0 fa_RX12_35 uc dX12_yard_315 ?_
                                        refine lv_iload_n hx hb dX12_yard_318 rfl (lv_at hl 0 rfl) ?_
                                        refine lv_aload_n hx hb dX12_yard_319 rfl (lv_at hl 2 rfl) ?_
                                        refine q_getC E hC325 g0 fa_RX12_35 uc dX12_yard_320 ?_
                                        refine lv_sipush (v := 2080) hx hb dX12_yard_323 rfl ?_
                                        refine lv_iload_n hx hb dX12_yard_326 rfl (lv_at hl 0 rfl) ?_
                                        refine lv_iadd hx hb dX12_yard_327 (lv_topi (fun v333 ev333 => ?_))
                                        have ev333i : v333.toInt = (2080 + z324) := i_add ev333 (by decide) ev324 (by omega) (by omega)
                                        refine q_craw E hC325 gca (a := (2080 + z324)) ev333i (by omega) (by omega) dX12_yard_328 (fun v334 ev334 tv334 => ?_)
                                        refine q_cast E hC325 hS325 gca (a := z324) ev324 (by omega) (by omega) (cT_nb (k := z324) rfl rfl (by omega) (by omega) tv334) dX12_yard_329 (fun H335 locs335 hC335 hS335 U335 => ?_)
                                        have hKp335 := Kp.upD gca rfl rfl (fun _ => ⟨fun h => absurd h (by decide), fun h => absurd h (by decide), fun h => absurd h (by decide)⟩) U335 hKp325
                                        have kd2 : KD H0 H335 ca 0 520 := KD.up kd2 U335 (by omega) (by omega)
                                        have n0 : EQ H335 ca 2080 xx := EQ.up n0 U335 ⟨by omega, by omega⟩ (by omega)
                                        have n1 : EQ H335 ca 2081 yy := EQ.up n1 U335 ⟨by omega, by omega⟩ (by omega)
                                        have m336 : (sI H335 h0 (X.1.2 11 12)).toInt = (sI H325 h0 (X.1.2 11 12)).toInt := congrArg Int32.toInt (up_nI U335 (ne_k g0 gca (by decide)))
                                        have m337 : (sI H335 h0 (X.1.2 11 14)).toInt = (sI H325 h0 (X.1.2 11 14)).toInt := congrArg Int32.toInt (up_nI U335 (ne_k g0 gca (by decide)))
                                        have m338 := congrArg tk m337
                                        have m339 : (sI H335 h0 (X.1.2 11 16)).toInt = (sI H325 h0 (X.1.2 11 16)).toInt := congrArg Int32.toInt (up_nI U335 (ne_k g0 gca (by decide)))
                                        have cpd : CPd H335 ca 2080 0 (z324 + 1) := CPd.step cpd (a := z324) (by omega) U335 ev334 (by omega) (by omega) (by omega)
                                        have e340 := up_I U335
                                        obtain ⟨v341, ev341⟩ : ∃ z, z = v324 + Int32.ofInt 1 := ⟨_, rfl⟩
                                        have ev341i : v341.toInt = (z324 + 1) := i_add ev341 ev324 (by decide) (by omega) (by omega)
                                        refine lv_iinc hx hb dX12_yard_330 hl (k := 0) rfl ev341.symm (by decide) rfl (fun ls hl => ?_)
                                        have hl : lv_has ls 4 [(3, .int v341), (2, .int v43), (0, .ref h0), (1, .int p1)] := hl
                                        refine lv_goto (tgt := 307) hx hb dX12_yard_333 rfl ?_
                                        exact ih325 H335 locs335 v341 ((z324 + 1)) ls (by omega) ev341i (by omega) (by omega) (cpd) hC335 hS335 hKp335 kd2 n0 n1 hl
                                  exact L307 _ H322 locs322 0 0 ls (Nat.lt_succ_self _) (by decide) (by omega) (by omega) (CPd.nil (by omega)) hC322 hS322 hKp322 kd2 n0 n1 hl
                                · refine lv_aload_n hx hb dX12_yard_279 rfl (lv_at hl 2 rfl) ?_
                                  refine q_getC E hC322 g0 fa_RX12_35 uc dX12_yard_280 ?_
                                  refine lv_sipush (v := 2214) hx hb dX12_yard_283 rfl ?_
                                  refine lv_iload_n hx hb dX12_yard_286 rfl (lv_at hl 0 rfl) ?_
                                  refine lv_iadd hx hb dX12_yard_287 (lv_topi (fun v342 ev342 => ?_))
                                  have ev342i : v342.toInt = (2214 + z321) := i_add ev342 (by decide) ev321 (by omega) (by omega)
                                  refine lv_aload_n hx hb dX12_yard_288 rfl (lv_at hl 2 rfl) ?_
                                  refine q_getC E hC322 g0 fa_RX12_35 uc dX12_yard_289 ?_
                                  refine lv_sipush (v := 2142) hx hb dX12_yard_292 rfl ?_
                                  refine lv_iload_n hx hb dX12_yard_295 rfl (lv_at hl 0 rfl) ?_
                                  refine lv_iadd hx hb dX12_yard_296 (lv_topi (fun v343 ev343 => ?_))
                                  have ev343i : v343.toInt = (2142 + z321) := i_add ev343 (by decide) ev321 (by omega) (by omega)
                                  refine q_cald E hC322 (lo := 0) (hi := 99) gca (a := (2142 + z321)) ev343i (by omega) (by omega) (cr_n26 (by omega) (by omega)) dX12_yard_297 (fun v344 ev344 lv344 uv344 => ?_)
                                  have m345 : (sI H322 ca ((2142 + z321) : Int).toNat).toInt = v344.toInt := congrArg Int32.toInt ev344
                                  refine q_cast E hC322 hS322 gca (a := (2214 + z321)) ev342i (by omega) (by omega) (cs_n134 (a := (2214 + z321)) (by omega) (by omega)) dX12_yard_298 (fun H346 locs346 hC346 hS346 U346 => ?_)
                                  have hKp346 := Kp.upD gca rfl rfl (fun _ => ⟨fun h => absurd h (by decide), fun h => absurd h (by decide), fun h => absurd h (by decide)⟩) U346 hKp322
                                  have kd : KD H0 H346 ca 0 0 := KD.up kd U346 (by omega) (by omega)
                                  have kd2 : KD H0 H346 ca 0 520 := KD.up kd2 U346 (by omega) (by omega)
                                  have n0 : EQ H346 ca 2080 xx := EQ.up n0 U346 ⟨by omega, by omega⟩ (by omega)
                                  have n1 : EQ H346 ca 2081 yy := EQ.up n1 U346 ⟨by omega, by omega⟩ (by omega)
                                  have m347 : (sI H346 h0 (X.1.2 11 12)).toInt = (sI H322 h0 (X.1.2 11 12)).toInt := congrArg Int32.toInt (up_nI U346 (ne_k g0 gca (by decide)))
                                  have m348 : (sI H346 h0 (X.1.2 11 14)).toInt = (sI H322 h0 (X.1.2 11 14)).toInt := congrArg Int32.toInt (up_nI U346 (ne_k g0 gca (by decide)))
                                  have m349 := congrArg tk m348
                                  have m350 : (sI H346 h0 (X.1.2 11 16)).toInt = (sI H322 h0 (X.1.2 11 16)).toInt := congrArg Int32.toInt (up_nI U346 (ne_k g0 gca (by decide)))
                                  have e351 := up_I U346
                                  obtain ⟨v352, ev352⟩ : ∃ z, z = v321 + Int32.ofInt 1 := ⟨_, rfl⟩
                                  have ev352i : v352.toInt = (z321 + 1) := i_add ev352 ev321 (by decide) (by omega) (by omega)
                                  refine lv_iinc hx hb dX12_yard_299 hl (k := 0) rfl ev352.symm (by decide) rfl (fun ls hl => ?_)
                                  have hl : lv_has ls 4 [(3, .int v352), (2, .int v43), (0, .ref h0), (1, .int p1)] := hl
                                  refine lv_goto (tgt := 273) hx hb dX12_yard_302 rfl ?_
                                  exact ih322 H346 locs346 v352 ((z321 + 1)) ls (by omega) ev352i (by omega) (by omega) hC346 hS346 hKp346 kd kd2 n0 n1 hl
                            exact L273 _ H319 locs319 0 0 ls (Nat.lt_succ_self _) (by decide) (by omega) (by omega) hC319 hS319 hKp319 kd kd2 n0 n1 hl
                          · refine q_if_ne hx hb (a := 0) (by decide) (tgt := 271) dX12_yard_266 rfl (fun c353 => absurd c353 (by omega)) (fun c353 => ?_)
                            refine lv_iconst (v := (-1)) hx hb dX12_yard_269 rfl ?_
                            have hpost : KD H0 H319 ca 0 0 ∨ (KD H0 H319 ca 0 520 ∧ YI H319 ca) := Or.inl kd
                            have c354 : ((-1) : Int32).toInt = (-1) := (by decide)
                            exact ret (-1) H319 locs319 _ _ dX12_yard_270 ⟨hKp319, hpost⟩ hC319 hS319
                        · refine lv_aload_n hx hb dX12_yard_165 rfl (lv_at hl 1 rfl) ?_
                          refine q_getI E hC315 g0 fa_RX12_120 dX12_yard_166 (fun v355 ev355 _ _ => ?_)
                          have m356 : (sI H315 h0 (X.1.2 11 14)).toInt = v355.toInt := (congrArg Int32.toInt ev355).trans rfl
                          refine q_if_eq hx hb (a := v355.toInt) rfl (tgt := 262) dX12_yard_169 rfl (fun c357 => ?_) (fun c357 => ?_)
                          · refine lv_aload_n hx hb dX12_yard_262 rfl (lv_at hl 1 rfl) ?_
                            refine q_goI (q_runV (As := []) (rest := []) E hC315 hS315 (m_X12_isWell l X Γ H315 hC315 h0 g0 ca gca uc) cw_X12_isWell cl_RX12_267 g0 ⟨rfl, rfl⟩ rfl hl.1 rfl (Nat.zero_le _) (by decide) dX12_yard_263) hS315 (fun v358 H358 locs358 hr358 hC358 hS358 => ?_)
                            obtain ⟨hp358, hr358⟩ := hr358
                            have hKp358 := hKp315.tr (hp358.mono rfl)
                            have kd : KD H0 H358 ca 0 0 := KD.kp kd hp358 gca rfl rfl
                            have kd2 : KD H0 H358 ca 0 520 := KD.kp kd2 hp358 gca rfl rfl
                            have n0 : EQ H358 ca 2080 xx := EQ.kn n0 hp358 gca rfl (by unfold dpn; omega)
                            have n1 : EQ H358 ca 2081 yy := EQ.kn n1 hp358 gca rfl (by unfold dpn; omega)
                            rcases hr358 with ⟨rfl, f358a⟩ | ⟨rfl, -⟩
                            · refine q_if_ne hx hb (a := 1) (by decide) (tgt := 271) dX12_yard_266 rfl (fun c359 => ?_) (fun c359 => absurd c359 (by omega))
                              have hxy : 2 ≤ xx ∧ 1 ≤ yy := by omega
                              refine lv_iconst (v := 0) hx hb dX12_yard_271 rfl ?_
                              refine lv_istore_n hx hb dX12_yard_272 rfl hl (by decide) rfl (fun ls hl => ?_)
                              have hl : lv_has ls 4 [(3, .int 0), (2, .int v43), (0, .ref h0), (1, .int p1)] := hl
                              have L273 : ∀ (n361 : Nat) (H361 : Heap) (locs361 : List Loc) (v360 : Int32) (z360 : Int) (ls : Array Slot), (36 - z360).toNat < n361 → v360.toInt = z360 → z360 ≤ 36 → 0 ≤ z360 → Conf X Γ H361 → va_S (AΓ Γ) H0 H361 locs361 → Kp X Γ [1, 6, 8, 9, 11, 12, 14] H0 H361 → (KD H0 H361 ca 0 0) → (KD H0 H361 ca 0 520) → (EQ H361 ca 2080 xx) → (EQ H361 ca 2081 yy) → lv_has ls 4 [(3, .int v360), (2, .int v43), (0, .ref h0), (1, .int p1)] → W p l e (rmL 5) s m args below meth c H361 locs361 0 0 Qz (F0 m 273 ls []) := by
                                intro n361
                                induction n361 with
                                | zero => intro H361 locs361 v360 z360 ls hm361 ev360 iv361_0 iv361_1 hC361 hS361 hKp361 kd kd2 n0 n1 hl; exact absurd hm361 (Nat.not_lt_zero _)
                                | succ n361 ih361 =>
                                  intro H361 locs361 v360 z360 ls hm361 ev360 iv361_0 iv361_1 hC361 hS361 hKp361 kd kd2 n0 n1 hl
                                  refine lv_iload_n hx hb dX12_yard_273 rfl (lv_at hl 0 rfl) ?_
                                  refine lv_bipush (v := 36) hx hb dX12_yard_274 rfl ?_
                                  refine q_icmp_ge hx hb (a := z360) (b := 36) ev360 (by decide) (tgt := 305) dX12_yard_276 rfl (fun c362 => ?_) (fun c362 => ?_)
                                  · refine lv_iconst (v := 0) hx hb dX12_yard_305 rfl ?_
                                    refine lv_istore_n hx hb dX12_yard_306 rfl hl (by decide) rfl (fun ls hl => ?_)
                                    have hl : lv_has ls 4 [(3, .int 0), (2, .int v43), (0, .ref h0), (1, .int p1)] := hl
                                    have L307 : ∀ (n364 : Nat) (H364 : Heap) (locs364 : List Loc) (v363 : Int32) (z363 : Int) (ls : Array Slot), (520 - z363).toNat < n364 → v363.toInt = z363 → z363 ≤ 520 → 0 ≤ z363 → CPd H364 ca 2080 0 z363 → Conf X Γ H364 → va_S (AΓ Γ) H0 H364 locs364 → Kp X Γ [1, 6, 8, 9, 11, 12, 14] H0 H364 → (KD H0 H364 ca 0 520) → (EQ H364 ca 2080 xx) → (EQ H364 ca 2081 yy) → lv_has ls 4 [(3, .int v363), (2, .int v43), (0, .ref h0), (1, .int p1)] → W p l e (rmL 5) s m args below meth c H364 locs364 0 0 Qz (F0 m 307 ls []) := by
                                      intro n364
                                      induction n364 with
                                      | zero => intro H364 locs364 v363 z363 ls hm364 ev363 iv364_0 iv364_1 iv364_2 hC364 hS364 hKp364 kd2 n0 n1 hl; exact absurd hm364 (Nat.not_lt_zero _)
                                      | succ n364 ih364 =>
                                        intro H364 locs364 v363 z363 ls hm364 ev363 iv364_0 iv364_1 iv364_2 hC364 hS364 hKp364 kd2 n0 n1 hl
                                        have cpd := iv364_2
                                        refine lv_iload_n hx hb dX12_yard_307 rfl (lv_at hl 0 rfl) ?_
                                        refine lv_sipush (v := 520) hx hb dX12_yard_308 rfl ?_
                                        refine q_icmp_ge hx hb (a := z363) (b := 520) ev363 (by decide) (tgt := 336) dX12_yard_311 rfl (fun c365 => ?_) (fun c365 => ?_)
                                        · refine lv_aload_n hx hb dX12_yard_336 rfl (lv_at hl 2 rfl) ?_
                                          refine q_getC E hC364 g0 fa_RX12_35 uc dX12_yard_337 ?_
                                          refine lv_iconst (v := 0) hx hb dX12_yard_340 rfl ?_
                                          refine q_cald E hC364 (lo := 0) (hi := 6) gca (a := 0) (show (0 : Int32).toInt = 0 from by decide) (by omega) (by omega) (cr_c0 (by omega) (by omega)) dX12_yard_341 (fun v366 ev366 lv366 uv366 => ?_)
                                          have m367 : (sI H364 ca (0 : Int).toNat).toInt = v366.toInt := congrArg Int32.toInt ev366
                                          refine lv_aload_n hx hb dX12_yard_342 rfl (lv_at hl 2 rfl) ?_
                                          refine q_getC E hC364 g0 fa_RX12_35 uc dX12_yard_343 ?_
                                          refine lv_iconst (v := 1) hx hb dX12_yard_346 rfl ?_
                                          refine q_cald E hC364 (lo := 0) (hi := 6) gca (a := 1) (show (1 : Int32).toInt = 1 from by decide) (by omega) (by omega) (cr_c0 (by omega) (by omega)) dX12_yard_347 (fun v368 ev368 lv368 uv368 => ?_)
                                          have m369 : (sI H364 ca (1 : Int).toNat).toInt = v368.toInt := congrArg Int32.toInt ev368
                                          refine lv_imul hx hb dX12_yard_348 (lv_topi (fun v370 ev370 => ?_))
                                          have hpost : KD H0 H364 ca 0 0 ∨ (KD H0 H364 ca 0 520 ∧ YI H364 ca) := Or.inr ⟨kd2, YI.mk hC364 gca cpd (by omega) n0 n1 hxy⟩
                                          have c371 : v370.toInt = v370.toInt := rfl
                                          exact ret v370 H364 locs364 _ _ dX12_yard_349 ⟨hKp364, hpost⟩ hC364 hS364
                                        · refine lv_aload_n hx hb dX12_yard_314 rfl (lv_at hl 2 rfl) ?_
                                          refine q_getC E hC364 g0 fa_RX12_35 uc dX12_yard_315 ?_
                                          refine lv_iload_n hx hb dX12_yard_318 rfl (lv_at hl 0 rfl) ?_
                                          refine lv_aload_n hx hb dX12_yard_319 rfl (lv_at hl 2 rfl) ?_
                                          refine q_getC E hC364 g0 fa_RX12_35 uc dX12_yard_320 ?_
                                          refine lv_sipush (v := 2080) hx hb dX12_yard_323 rfl ?_
                                          refine lv_iload_n hx hb dX12_yard_326 rfl (lv_at hl 0 rfl) ?_
                                          refine lv_iadd hx hb dX12_yard_327 (lv_topi (fun v372 ev372 => ?_))
                                          have ev372i : v372.toInt = (2080 + z363) := i_add ev372 (by decide) ev363 (by omega) (by omega)
                                          refine q_craw E hC364 gca (a := (2080 + z363)) ev372i (by omega) (by omega) dX12_yard_328 (fun v373 ev373 tv373 => ?_)
                                          refine q_cast E hC364 hS364 gca (a := z363) ev363 (by omega) (by omega) (cT_nb (k := z363) rfl rfl (by omega) (by omega) tv373) dX12_yard_329 (fun H374 locs374 hC374 hS374 U374 => ?_)
                                          have hKp374 := Kp.upD gca rfl rfl (fun _ => ⟨fun h => absurd h (by decide), fun h => absurd h (by decide), fun h => absurd h (by decide)⟩) U374 hKp364
                                          have kd2 : KD H0 H374 ca 0 520 := KD.up kd2 U374 (by omega) (by omega)
                                          have n0 : EQ H374 ca 2080 xx := EQ.up n0 U374 ⟨by omega, by omega⟩ (by omega)
                                          have n1 : EQ H374 ca 2081 yy := EQ.up n1 U374 ⟨by omega, by omega⟩ (by omega)
                                          have m375 : (sI H374 h0 (X.1.2 11 12)).toInt = (sI H364 h0 (X.1.2 11 12)).toInt := congrArg Int32.toInt (up_nI U374 (ne_k g0 gca (by decide)))
                                          have m376 : (sI H374 h0 (X.1.2 11 14)).toInt = (sI H364 h0 (X.1.2 11 14)).toInt := congrArg Int32.toInt (up_nI U374 (ne_k g0 gca (by decide)))
                                          have m377 := congrArg tk m376
                                          have m378 : (sI H374 h0 (X.1.2 11 16)).toInt = (sI H364 h0 (X.1.2 11 16)).toInt := congrArg Int32.toInt (up_nI U374 (ne_k g0 gca (by decide)))
                                          have cpd : CPd H374 ca 2080 0 (z363 + 1) := CPd.step cpd (a := z363) (by omega) U374 ev373 (by omega) (by omega) (by omega)
                                          have e379 := up_I U374
                                          obtain ⟨v380, ev380⟩ : ∃ z, z = v363 + Int32.ofInt 1 := ⟨_, rfl⟩
                                          have ev380i : v380.toInt = (z363 + 1) := i_add ev380 ev363 (by decide) (by omega) (by omega)
                                          refine lv_iinc hx hb dX12_yard_330 hl (k := 0) rfl ev380.symm (by decide) rfl (fun ls hl => ?_)
                                          have hl : lv_has ls 4 [(3, .int v380), (2, .int v43), (0, .ref h0), (1, .int p1)] := hl
                                          refine lv_goto (tgt := 307) hx hb dX12_yard_333 rfl ?_
                                          exact ih364 H374 locs374 v380 ((z363 + 1)) ls (by omega) ev380i (by omega) (by omega) (cpd) hC374 hS374 hKp374 kd2 n0 n1 hl
                                    exact L307 _ H361 locs361 0 0 ls (Nat.lt_succ_self _) (by decide) (by omega) (by omega) (CPd.nil (by omega)) hC361 hS361 hKp361 kd2 n0 n1 hl
                                  · refine lv_aload_n hx hb dX12_yard_279 rfl (lv_at hl 2 rfl) ?_
                                    refine q_getC E hC361 g0 fa_RX12_35 uc dX12_yard_280 ?_
                                    refine lv_sipush (v := 2214) hx hb dX12_yard_283 rfl ?_
                                    refine lv_iload_n hx hb dX12_yard_286 rfl (lv_at hl 0 rfl) ?_
                                    refine lv_iadd hx hb dX12_yard_287 (lv_topi (fun v381 ev381 => ?_))
                                    have ev381i : v381.toInt = (2214 + z360) := i_add ev381 (by decide) ev360 (by omega) (by omega)
                                    refine lv_aload_n hx hb dX12_yard_288 rfl (lv_at hl 2 rfl) ?_
                                    refine q_getC E hC361 g0 fa_RX12_35 uc dX12_yard_289 ?_
                                    refine lv_sipush (v := 2142) hx hb dX12_yard_292 rfl ?_
                                    refine lv_iload_n hx hb dX12_yard_295 rfl (lv_at hl 0 rfl) ?_
                                    refine lv_iadd hx hb dX12_yard_296 (lv_topi (fun v382 ev382 => ?_))
                                    have ev382i : v382.toInt = (2142 + z360) := i_add ev382 (by decide) ev360 (by omega) (by omega)
                                    refine q_cald E hC361 (lo := 0) (hi := 99) gca (a := (2142 + z360)) ev382i (by omega) (by omega) (cr_n26 (by omega) (by omega)) dX12_yard_297 (fun v383 ev383 lv383 uv383 => ?_)
                                    have m384 : (sI H361 ca ((2142 + z360) : Int).toNat).toInt = v383.toInt := congrArg Int32.toInt ev383
                                    refine q_cast E hC361 hS361 gca (a := (2214 + z360)) ev381i (by omega) (by omega) (cs_n134 (a := (2214 + z360)) (by omega) (by omega)) dX12_yard_298 (fun H385 locs385 hC385 hS385 U385 => ?_)
                                    have hKp385 := Kp.upD gca rfl rfl (fun _ => ⟨fun h => absurd h (by decide), fun h => absurd h (by decide), fun h => absurd h (by decide)⟩) U385 hKp361
                                    have kd : KD H0 H385 ca 0 0 := KD.up kd U385 (by omega) (by omega)
                                    have kd2 : KD H0 H385 ca 0 520 := KD.up kd2 U385 (by omega) (by omega)
                                    have n0 : EQ H385 ca 2080 xx := EQ.up n0 U385 ⟨by omega, by omega⟩ (by omega)
                                    have n1 : EQ H385 ca 2081 yy := EQ.up n1 U385 ⟨by omega, by omega⟩ (by omega)
                                    have m386 : (sI H385 h0 (X.1.2 11 12)).toInt = (sI H361 h0 (X.1.2 11 12)).toInt := congrArg Int32.toInt (up_nI U385 (ne_k g0 gca (by decide)))
                                    have m387 : (sI H385 h0 (X.1.2 11 14)).toInt = (sI H361 h0 (X.1.2 11 14)).toInt := congrArg Int32.toInt (up_nI U385 (ne_k g0 gca (by decide)))
                                    have m388 := congrArg tk m387
                                    have m389 : (sI H385 h0 (X.1.2 11 16)).toInt = (sI H361 h0 (X.1.2 11 16)).toInt := congrArg Int32.toInt (up_nI U385 (ne_k g0 gca (by decide)))
                                    have e390 := up_I U385
                                    obtain ⟨v391, ev391⟩ : ∃ z, z = v360 + Int32.ofInt 1 := ⟨_, rfl⟩
                                    have ev391i : v391.toInt = (z360 + 1) := i_add ev391 ev360 (by decide) (by omega) (by omega)
                                    refine lv_iinc hx hb dX12_yard_299 hl (k := 0) rfl ev391.symm (by decide) rfl (fun ls hl => ?_)
                                    have hl : lv_has ls 4 [(3, .int v391), (2, .int v43), (0, .ref h0), (1, .int p1)] := hl
                                    refine lv_goto (tgt := 273) hx hb dX12_yard_302 rfl ?_
                                    exact ih361 H385 locs385 v391 ((z360 + 1)) ls (by omega) ev391i (by omega) (by omega) hC385 hS385 hKp385 kd kd2 n0 n1 hl
                              exact L273 _ H358 locs358 0 0 ls (Nat.lt_succ_self _) (by decide) (by omega) (by omega) hC358 hS358 hKp358 kd kd2 n0 n1 hl
                            · refine q_if_ne hx hb (a := 0) (by decide) (tgt := 271) dX12_yard_266 rfl (fun c392 => absurd c392 (by omega)) (fun c392 => ?_)
                              refine lv_iconst (v := (-1)) hx hb dX12_yard_269 rfl ?_
                              have hpost : KD H0 H358 ca 0 0 ∨ (KD H0 H358 ca 0 520 ∧ YI H358 ca) := Or.inl kd
                              have c393 : ((-1) : Int32).toInt = (-1) := (by decide)
                              exact ret (-1) H358 locs358 _ _ dX12_yard_270 ⟨hKp358, hpost⟩ hC358 hS358
                          · refine lv_aload_n hx hb dX12_yard_172 rfl (lv_at hl 1 rfl) ?_
                            refine q_goIp (q_runV (As := []) (rest := []) E hC315 hS315 (m_X12_isSchool l X Γ H315 hC315 h0 g0 ca gca uc) cw_X12_isSchool cl_RX12_172 g0 ⟨rfl, rfl⟩ rfl hl.1 rfl (Nat.zero_le _) (by decide) dX12_yard_173) hS315 (fun v394 locs394 hr394 hS394 => ?_)
                            rcases hr394 with rfl | rfl
                            · refine q_if_eq hx hb (a := 0) (by decide) (tgt := 186) dX12_yard_176 rfl (fun c395 => ?_) (fun c395 => absurd c395 (by omega))
                              refine lv_aload_n hx hb dX12_yard_186 rfl (lv_at hl 1 rfl) ?_
                              refine q_goIp (q_runV (As := []) (rest := []) E hC315 hS394 (m_X12_isSnow l X Γ H315 hC315 h0 g0 ca gca uc) cw_X12_isSnow cl_RX12_178 g0 ⟨rfl, rfl⟩ rfl hl.1 rfl (Nat.zero_le _) (by decide) dX12_yard_187) hS394 (fun v396 locs396 hr396 hS396 => ?_)
                              rcases hr396 with rfl | rfl
                              · refine q_if_eq hx hb (a := 0) (by decide) (tgt := 201) dX12_yard_190 rfl (fun c397 => ?_) (fun c397 => absurd c397 (by omega))
                                refine lv_aload_n hx hb dX12_yard_201 rfl (lv_at hl 1 rfl) ?_
                                refine q_goIp (q_runV (As := []) (rest := []) E hC315 hS396 (m_X12_isWall l X Γ H315 hC315 h0 g0 ca gca uc) cw_X12_isWall cl_RX12_163 g0 ⟨rfl, rfl⟩ rfl hl.1 rfl (Nat.zero_le _) (by decide) dX12_yard_202) hS396 (fun v398 locs398 hr398 hS398 => ?_)
                                rcases hr398 with rfl | rfl
                                · refine q_if_eq hx hb (a := 0) (by decide) (tgt := 216) dX12_yard_205 rfl (fun c399 => ?_) (fun c399 => absurd c399 (by omega))
                                  refine lv_aload_n hx hb dX12_yard_216 rfl (lv_at hl 1 rfl) ?_
                                  refine q_goIp (q_runV (As := []) (rest := []) E hC315 hS398 (m_X12_isSun l X Γ H315 hC315 h0 g0 ca gca uc) cw_X12_isSun cl_RX12_187 g0 ⟨rfl, rfl⟩ rfl hl.1 rfl (Nat.zero_le _) (by decide) dX12_yard_217) hS398 (fun v400 locs400 hr400 hS400 => ?_)
                                  rcases hr400 with rfl | rfl
                                  · refine q_if_eq hx hb (a := 0) (by decide) (tgt := 231) dX12_yard_220 rfl (fun c401 => ?_) (fun c401 => absurd c401 (by omega))
                                    refine lv_aload_n hx hb dX12_yard_231 rfl (lv_at hl 1 rfl) ?_
                                    refine q_goIp (q_runV (As := []) (rest := []) E hC315 hS400 (m_X12_isNo l X Γ H315 hC315 h0 g0 ca gca uc) cw_X12_isNo cl_RX12_193 g0 ⟨rfl, rfl⟩ rfl hl.1 rfl (Nat.zero_le _) (by decide) dX12_yard_232) hS400 (fun v402 locs402 hr402 hS402 => ?_)
                                    rcases hr402 with rfl | rfl
                                    · refine q_if_eq hx hb (a := 0) (by decide) (tgt := 245) dX12_yard_235 rfl (fun c403 => ?_) (fun c403 => absurd c403 (by omega))
                                      refine lv_aload_n hx hb dX12_yard_245 rfl (lv_at hl 1 rfl) ?_
                                      refine q_goV (q_runV (As := []) (rest := []) E hC315 hS402 (m_X12_wrong l X Γ H315 hC315 h0 g0 ca gca uc) cw_X12_wrong cl_RX12_231 g0 ⟨rfl, rfl⟩ rfl hl.1 rfl (Nat.zero_le _) (by decide) dX12_yard_246) hS402 (fun H404 locs404 hr404 hC404 hS404 => ?_)
                                      obtain ⟨hp404, hr404⟩ := hr404
                                      have hKp404 := hKp315.tr (hp404.mono rfl)
                                      have kd : KD H0 H404 ca 0 0 := KD.kp kd hp404 gca rfl rfl
                                      have kd2 : KD H0 H404 ca 0 520 := KD.kp kd2 hp404 gca rfl rfl
                                      have n0 : EQ H404 ca 2080 xx := EQ.kn n0 hp404 gca rfl (by unfold dpn; omega)
                                      have n1 : EQ H404 ca 2081 yy := EQ.kn n1 hp404 gca rfl (by unfold dpn; omega)
                                      obtain ⟨f404_0, f404_1, f404_2, f404_3⟩ := hr404
                                      refine lv_aload_n hx hb dX12_yard_249 rfl (lv_at hl 1 rfl) ?_
                                      refine lv_aload_n hx hb dX12_yard_250 rfl (lv_at hl 1 rfl) ?_
                                      refine lv_bipush (v := 59) hx hb dX12_yard_251 rfl ?_
                                      have hz9 := tk_or (sI H404 h0 (X.1.2 11 14)).toInt
                                      refine q_goIp (q_runV (As := [.int 59]) (rest := [.ref h0]) E hC404 hS404 (m_X12_isSign l X Γ H404 hC404 h0 g0 59 (a1 := 59) (by decide) ca gca uc) cw_X12_isSign cl_RX12_255 g0 ⟨rfl, rfl⟩ rfl hl.1 rfl (show _ ≤ _ from by simp [Value.category]) (by decide) dX12_yard_253) hS404 (fun v405 locs405 hr405 hS405 => ?_)
                                      have b405 : (v405.toInt = 1 ∧ _) ∨ (v405.toInt = 0 ∧ _) := hr405.imp (fun h => ⟨by rw [h.1]; decide, h.2⟩) (fun h => ⟨by rw [h.1]; decide, h.2⟩)
                                      refine q_goV (q_runV (As := [.int v405]) (rest := []) E hC404 hS405 (m_X12_must l X Γ H404 hC404 h0 g0 v405 (a1 := v405.toInt) rfl ca gca uc (by omega) (by omega)) cw_X12_must cl_RX12_244 g0 ⟨rfl, rfl⟩ rfl hl.1 rfl (Nat.zero_le _) (by decide) dX12_yard_256) hS405 (fun H406 locs406 hr406 hC406 hS406 => ?_)
                                      obtain ⟨hp406, hr406⟩ := hr406
                                      have hKp406 := hKp404.tr (hp406.mono rfl)
                                      have kd : KD H0 H406 ca 0 0 := KD.kp kd hp406 gca rfl rfl
                                      have kd2 : KD H0 H406 ca 0 520 := KD.kp kd2 hp406 gca rfl rfl
                                      have n0 : EQ H406 ca 2080 xx := EQ.kn n0 hp406 gca rfl (by unfold dpn; omega)
                                      have n1 : EQ H406 ca 2081 yy := EQ.kn n1 hp406 gca rfl (by unfold dpn; omega)
                                      obtain ⟨f406_0, f406_1, f406_2, f406_3, f406_4⟩ := hr406
                                      refine lv_goto (tgt := 158) hx hb dX12_yard_259 rfl ?_
                                      exact ih315 H406 locs406 ls (by omega) (by omega) hC406 hS406 hKp406 kd kd2 n0 n1 hl
                                    · refine q_if_eq hx hb (a := 1) (by decide) (tgt := 245) dX12_yard_235 rfl (fun c407 => absurd c407 (by omega)) (fun c407 => ?_)
                                      refine lv_aload_n hx hb dX12_yard_238 rfl (lv_at hl 1 rfl) ?_
                                      refine q_goV (q_runV (As := []) (rest := []) E hC315 hS402 (m_X12_readArticle l X Γ H315 hC315 h0 g0 ca gca uc) cw_X12_readArticle cl_RX12_264 g0 ⟨rfl, rfl⟩ rfl hl.1 rfl (Nat.zero_le _) (by decide) dX12_yard_239) hS402 (fun H408 locs408 hr408 hC408 hS408 => ?_)
                                      obtain ⟨hp408, hr408⟩ := hr408
                                      have hKp408 := hKp315.tr (hp408.mono rfl)
                                      have kd : KD H0 H408 ca 0 0 := KD.kp kd hp408 gca rfl rfl
                                      have kd2 : KD H0 H408 ca 0 520 := KD.kp kd2 hp408 gca rfl rfl
                                      have n0 : EQ H408 ca 2080 xx := EQ.kn n0 hp408 gca rfl (by unfold dpn; omega)
                                      have n1 : EQ H408 ca 2081 yy := EQ.kn n1 hp408 gca rfl (by unfold dpn; omega)
                                      obtain ⟨f408_0, f408_1, f408_2, f408_3⟩ := hr408
                                      refine lv_goto (tgt := 249) hx hb dX12_yard_242 rfl ?_
                                      refine lv_aload_n hx hb dX12_yard_249 rfl (lv_at hl 1 rfl) ?_
                                      refine lv_aload_n hx hb dX12_yard_250 rfl (lv_at hl 1 rfl) ?_
                                      refine lv_bipush (v := 59) hx hb dX12_yard_251 rfl ?_
                                      have hz9 := tk_or (sI H408 h0 (X.1.2 11 14)).toInt
                                      refine q_goIp (q_runV (As := [.int 59]) (rest := [.ref h0]) E hC408 hS408 (m_X12_isSign l X Γ H408 hC408 h0 g0 59 (a1 := 59) (by decide) ca gca uc) cw_X12_isSign cl_RX12_255 g0 ⟨rfl, rfl⟩ rfl hl.1 rfl (show _ ≤ _ from by simp [Value.category]) (by decide) dX12_yard_253) hS408 (fun v409 locs409 hr409 hS409 => ?_)
                                      have b409 : (v409.toInt = 1 ∧ _) ∨ (v409.toInt = 0 ∧ _) := hr409.imp (fun h => ⟨by rw [h.1]; decide, h.2⟩) (fun h => ⟨by rw [h.1]; decide, h.2⟩)
                                      refine q_goV (q_runV (As := [.int v409]) (rest := []) E hC408 hS409 (m_X12_must l X Γ H408 hC408 h0 g0 v409 (a1 := v409.toInt) rfl ca gca uc (by omega) (by omega)) cw_X12_must cl_RX12_244 g0 ⟨rfl, rfl⟩ rfl hl.1 rfl (Nat.zero_le _) (by decide) dX12_yard_256) hS409 (fun H410 locs410 hr410 hC410 hS410 => ?_)
                                      obtain ⟨hp410, hr410⟩ := hr410
                                      have hKp410 := hKp408.tr (hp410.mono rfl)
                                      have kd : KD H0 H410 ca 0 0 := KD.kp kd hp410 gca rfl rfl
                                      have kd2 : KD H0 H410 ca 0 520 := KD.kp kd2 hp410 gca rfl rfl
                                      have n0 : EQ H410 ca 2080 xx := EQ.kn n0 hp410 gca rfl (by unfold dpn; omega)
                                      have n1 : EQ H410 ca 2081 yy := EQ.kn n1 hp410 gca rfl (by unfold dpn; omega)
                                      obtain ⟨f410_0, f410_1, f410_2, f410_3, f410_4⟩ := hr410
                                      refine lv_goto (tgt := 158) hx hb dX12_yard_259 rfl ?_
                                      exact ih315 H410 locs410 ls (by omega) (by omega) hC410 hS410 hKp410 kd kd2 n0 n1 hl
                                  · refine q_if_eq hx hb (a := 1) (by decide) (tgt := 231) dX12_yard_220 rfl (fun c411 => absurd c411 (by omega)) (fun c411 => ?_)
                                    refine lv_aload_n hx hb dX12_yard_223 rfl (lv_at hl 1 rfl) ?_
                                    refine lv_iconst (v := 2) hx hb dX12_yard_224 rfl ?_
                                    refine q_goV (q_runV (As := [.int 2]) (rest := []) E hC315 hS400 (m_X12_readCell l X Γ H315 hC315 h0 g0 2 (a1 := 2) (by decide) ca gca uc (by omega) (by omega)) cw_X12_readCell cl_RX12_261 g0 ⟨rfl, rfl⟩ rfl hl.1 rfl (Nat.zero_le _) (by decide) dX12_yard_225) hS400 (fun H412 locs412 hr412 hC412 hS412 => ?_)
                                    obtain ⟨hp412, hr412⟩ := hr412
                                    have hKp412 := hKp315.tr (hp412.mono rfl)
                                    have kd : KD H0 H412 ca 0 0 := KD.kp kd hp412 gca rfl rfl
                                    have kd2 : KD H0 H412 ca 0 520 := KD.kp kd2 hp412 gca rfl rfl
                                    have n0 : EQ H412 ca 2080 xx := EQ.kn n0 hp412 gca rfl (by unfold dpn; omega)
                                    have n1 : EQ H412 ca 2081 yy := EQ.kn n1 hp412 gca rfl (by unfold dpn; omega)
                                    obtain ⟨f412_0, f412_1, f412_2, f412_3⟩ := hr412
                                    refine lv_goto (tgt := 249) hx hb dX12_yard_228 rfl ?_
                                    refine lv_aload_n hx hb dX12_yard_249 rfl (lv_at hl 1 rfl) ?_
                                    refine lv_aload_n hx hb dX12_yard_250 rfl (lv_at hl 1 rfl) ?_
                                    refine lv_bipush (v := 59) hx hb dX12_yard_251 rfl ?_
                                    have hz9 := tk_or (sI H412 h0 (X.1.2 11 14)).toInt
                                    refine q_goIp (q_runV (As := [.int 59]) (rest := [.ref h0]) E hC412 hS412 (m_X12_isSign l X Γ H412 hC412 h0 g0 59 (a1 := 59) (by decide) ca gca uc) cw_X12_isSign cl_RX12_255 g0 ⟨rfl, rfl⟩ rfl hl.1 rfl (show _ ≤ _ from by simp [Value.category]) (by decide) dX12_yard_253) hS412 (fun v413 locs413 hr413 hS413 => ?_)
                                    have b413 : (v413.toInt = 1 ∧ _) ∨ (v413.toInt = 0 ∧ _) := hr413.imp (fun h => ⟨by rw [h.1]; decide, h.2⟩) (fun h => ⟨by rw [h.1]; decide, h.2⟩)
                                    refine q_goV (q_runV (As := [.int v413]) (rest := []) E hC412 hS413 (m_X12_must l X Γ H412 hC412 h0 g0 v413 (a1 := v413.toInt) rfl ca gca uc (by omega) (by omega)) cw_X12_must cl_RX12_244 g0 ⟨rfl, rfl⟩ rfl hl.1 rfl (Nat.zero_le _) (by decide) dX12_yard_256) hS413 (fun H414 locs414 hr414 hC414 hS414 => ?_)
                                    obtain ⟨hp414, hr414⟩ := hr414
                                    have hKp414 := hKp412.tr (hp414.mono rfl)
                                    have kd : KD H0 H414 ca 0 0 := KD.kp kd hp414 gca rfl rfl
                                    have kd2 : KD H0 H414 ca 0 520 := KD.kp kd2 hp414 gca rfl rfl
                                    have n0 : EQ H414 ca 2080 xx := EQ.kn n0 hp414 gca rfl (by unfold dpn; omega)
                                    have n1 : EQ H414 ca 2081 yy := EQ.kn n1 hp414 gca rfl (by unfold dpn; omega)
                                    obtain ⟨f414_0, f414_1, f414_2, f414_3, f414_4⟩ := hr414
                                    refine lv_goto (tgt := 158) hx hb dX12_yard_259 rfl ?_
                                    exact ih315 H414 locs414 ls (by omega) (by omega) hC414 hS414 hKp414 kd kd2 n0 n1 hl
                                · refine q_if_eq hx hb (a := 1) (by decide) (tgt := 216) dX12_yard_205 rfl (fun c415 => absurd c415 (by omega)) (fun c415 => ?_)
                                  refine lv_aload_n hx hb dX12_yard_208 rfl (lv_at hl 1 rfl) ?_
                                  refine lv_iconst (v := 1) hx hb dX12_yard_209 rfl ?_
                                  refine q_goV (q_runV (As := [.int 1]) (rest := []) E hC315 hS398 (m_X12_readCell l X Γ H315 hC315 h0 g0 1 (a1 := 1) (by decide) ca gca uc (by omega) (by omega)) cw_X12_readCell cl_RX12_261 g0 ⟨rfl, rfl⟩ rfl hl.1 rfl (Nat.zero_le _) (by decide) dX12_yard_210) hS398 (fun H416 locs416 hr416 hC416 hS416 => ?_)
                                  obtain ⟨hp416, hr416⟩ := hr416
                                  have hKp416 := hKp315.tr (hp416.mono rfl)
                                  have kd : KD H0 H416 ca 0 0 := KD.kp kd hp416 gca rfl rfl
                                  have kd2 : KD H0 H416 ca 0 520 := KD.kp kd2 hp416 gca rfl rfl
                                  have n0 : EQ H416 ca 2080 xx := EQ.kn n0 hp416 gca rfl (by unfold dpn; omega)
                                  have n1 : EQ H416 ca 2081 yy := EQ.kn n1 hp416 gca rfl (by unfold dpn; omega)
                                  obtain ⟨f416_0, f416_1, f416_2, f416_3⟩ := hr416
                                  refine lv_goto (tgt := 249) hx hb dX12_yard_213 rfl ?_
                                  refine lv_aload_n hx hb dX12_yard_249 rfl (lv_at hl 1 rfl) ?_
                                  refine lv_aload_n hx hb dX12_yard_250 rfl (lv_at hl 1 rfl) ?_
                                  refine lv_bipush (v := 59) hx hb dX12_yard_251 rfl ?_
                                  have hz9 := tk_or (sI H416 h0 (X.1.2 11 14)).toInt
                                  refine q_goIp (q_runV (As := [.int 59]) (rest := [.ref h0]) E hC416 hS416 (m_X12_isSign l X Γ H416 hC416 h0 g0 59 (a1 := 59) (by decide) ca gca uc) cw_X12_isSign cl_RX12_255 g0 ⟨rfl, rfl⟩ rfl hl.1 rfl (show _ ≤ _ from by simp [Value.category]) (by decide) dX12_yard_253) hS416 (fun v417 locs417 hr417 hS417 => ?_)
                                  have b417 : (v417.toInt = 1 ∧ _) ∨ (v417.toInt = 0 ∧ _) := hr417.imp (fun h => ⟨by rw [h.1]; decide, h.2⟩) (fun h => ⟨by rw [h.1]; decide, h.2⟩)
                                  refine q_goV (q_runV (As := [.int v417]) (rest := []) E hC416 hS417 (m_X12_must l X Γ H416 hC416 h0 g0 v417 (a1 := v417.toInt) rfl ca gca uc (by omega) (by omega)) cw_X12_must cl_RX12_244 g0 ⟨rfl, rfl⟩ rfl hl.1 rfl (Nat.zero_le _) (by decide) dX12_yard_256) hS417 (fun H418 locs418 hr418 hC418 hS418 => ?_)
                                  obtain ⟨hp418, hr418⟩ := hr418
                                  have hKp418 := hKp416.tr (hp418.mono rfl)
                                  have kd : KD H0 H418 ca 0 0 := KD.kp kd hp418 gca rfl rfl
                                  have kd2 : KD H0 H418 ca 0 520 := KD.kp kd2 hp418 gca rfl rfl
                                  have n0 : EQ H418 ca 2080 xx := EQ.kn n0 hp418 gca rfl (by unfold dpn; omega)
                                  have n1 : EQ H418 ca 2081 yy := EQ.kn n1 hp418 gca rfl (by unfold dpn; omega)
                                  obtain ⟨f418_0, f418_1, f418_2, f418_3, f418_4⟩ := hr418
                                  refine lv_goto (tgt := 158) hx hb dX12_yard_259 rfl ?_
                                  exact ih315 H418 locs418 ls (by omega) (by omega) hC418 hS418 hKp418 kd kd2 n0 n1 hl
                              · refine q_if_eq hx hb (a := 1) (by decide) (tgt := 201) dX12_yard_190 rfl (fun c419 => absurd c419 (by omega)) (fun c419 => ?_)
                                refine lv_aload_n hx hb dX12_yard_193 rfl (lv_at hl 1 rfl) ?_
                                refine lv_iconst (v := 0) hx hb dX12_yard_194 rfl ?_
                                refine q_goV (q_runV (As := [.int 0]) (rest := []) E hC315 hS396 (m_X12_readCell l X Γ H315 hC315 h0 g0 0 (a1 := 0) (by decide) ca gca uc (by omega) (by omega)) cw_X12_readCell cl_RX12_261 g0 ⟨rfl, rfl⟩ rfl hl.1 rfl (Nat.zero_le _) (by decide) dX12_yard_195) hS396 (fun H420 locs420 hr420 hC420 hS420 => ?_)
                                obtain ⟨hp420, hr420⟩ := hr420
                                have hKp420 := hKp315.tr (hp420.mono rfl)
                                have kd : KD H0 H420 ca 0 0 := KD.kp kd hp420 gca rfl rfl
                                have kd2 : KD H0 H420 ca 0 520 := KD.kp kd2 hp420 gca rfl rfl
                                have n0 : EQ H420 ca 2080 xx := EQ.kn n0 hp420 gca rfl (by unfold dpn; omega)
                                have n1 : EQ H420 ca 2081 yy := EQ.kn n1 hp420 gca rfl (by unfold dpn; omega)
                                obtain ⟨f420_0, f420_1, f420_2, f420_3⟩ := hr420
                                refine lv_goto (tgt := 249) hx hb dX12_yard_198 rfl ?_
                                refine lv_aload_n hx hb dX12_yard_249 rfl (lv_at hl 1 rfl) ?_
                                refine lv_aload_n hx hb dX12_yard_250 rfl (lv_at hl 1 rfl) ?_
                                refine lv_bipush (v := 59) hx hb dX12_yard_251 rfl ?_
                                have hz9 := tk_or (sI H420 h0 (X.1.2 11 14)).toInt
                                refine q_goIp (q_runV (As := [.int 59]) (rest := [.ref h0]) E hC420 hS420 (m_X12_isSign l X Γ H420 hC420 h0 g0 59 (a1 := 59) (by decide) ca gca uc) cw_X12_isSign cl_RX12_255 g0 ⟨rfl, rfl⟩ rfl hl.1 rfl (show _ ≤ _ from by simp [Value.category]) (by decide) dX12_yard_253) hS420 (fun v421 locs421 hr421 hS421 => ?_)
                                have b421 : (v421.toInt = 1 ∧ _) ∨ (v421.toInt = 0 ∧ _) := hr421.imp (fun h => ⟨by rw [h.1]; decide, h.2⟩) (fun h => ⟨by rw [h.1]; decide, h.2⟩)
                                refine q_goV (q_runV (As := [.int v421]) (rest := []) E hC420 hS421 (m_X12_must l X Γ H420 hC420 h0 g0 v421 (a1 := v421.toInt) rfl ca gca uc (by omega) (by omega)) cw_X12_must cl_RX12_244 g0 ⟨rfl, rfl⟩ rfl hl.1 rfl (Nat.zero_le _) (by decide) dX12_yard_256) hS421 (fun H422 locs422 hr422 hC422 hS422 => ?_)
                                obtain ⟨hp422, hr422⟩ := hr422
                                have hKp422 := hKp420.tr (hp422.mono rfl)
                                have kd : KD H0 H422 ca 0 0 := KD.kp kd hp422 gca rfl rfl
                                have kd2 : KD H0 H422 ca 0 520 := KD.kp kd2 hp422 gca rfl rfl
                                have n0 : EQ H422 ca 2080 xx := EQ.kn n0 hp422 gca rfl (by unfold dpn; omega)
                                have n1 : EQ H422 ca 2081 yy := EQ.kn n1 hp422 gca rfl (by unfold dpn; omega)
                                obtain ⟨f422_0, f422_1, f422_2, f422_3, f422_4⟩ := hr422
                                refine lv_goto (tgt := 158) hx hb dX12_yard_259 rfl ?_
                                exact ih315 H422 locs422 ls (by omega) (by omega) hC422 hS422 hKp422 kd kd2 n0 n1 hl
                            · refine q_if_eq hx hb (a := 1) (by decide) (tgt := 186) dX12_yard_176 rfl (fun c423 => absurd c423 (by omega)) (fun c423 => ?_)
                              refine lv_aload_n hx hb dX12_yard_179 rfl (lv_at hl 1 rfl) ?_
                              refine q_goV (q_runV (As := []) (rest := []) E hC315 hS394 (m_X12_readSchool l X Γ H315 hC315 h0 g0 ca gca uc) cw_X12_readSchool cl_RX12_258 g0 ⟨rfl, rfl⟩ rfl hl.1 rfl (Nat.zero_le _) (by decide) dX12_yard_180) hS394 (fun H424 locs424 hr424 hC424 hS424 => ?_)
                              obtain ⟨hp424, hr424⟩ := hr424
                              have hKp424 := hKp315.tr (hp424.mono rfl)
                              have kd : KD H0 H424 ca 0 0 := KD.kp kd hp424 gca rfl rfl
                              have kd2 : KD H0 H424 ca 0 520 := KD.kp kd2 hp424 gca rfl rfl
                              have n0 : EQ H424 ca 2080 xx := EQ.kn n0 hp424 gca rfl (by unfold dpn; omega)
                              have n1 : EQ H424 ca 2081 yy := EQ.kn n1 hp424 gca rfl (by unfold dpn; omega)
                              obtain ⟨f424_0, f424_1, f424_2, f424_3⟩ := hr424
                              refine lv_goto (tgt := 249) hx hb dX12_yard_183 rfl ?_
                              refine lv_aload_n hx hb dX12_yard_249 rfl (lv_at hl 1 rfl) ?_
                              refine lv_aload_n hx hb dX12_yard_250 rfl (lv_at hl 1 rfl) ?_
                              refine lv_bipush (v := 59) hx hb dX12_yard_251 rfl ?_
                              have hz9 := tk_or (sI H424 h0 (X.1.2 11 14)).toInt
                              refine q_goIp (q_runV (As := [.int 59]) (rest := [.ref h0]) E hC424 hS424 (m_X12_isSign l X Γ H424 hC424 h0 g0 59 (a1 := 59) (by decide) ca gca uc) cw_X12_isSign cl_RX12_255 g0 ⟨rfl, rfl⟩ rfl hl.1 rfl (show _ ≤ _ from by simp [Value.category]) (by decide) dX12_yard_253) hS424 (fun v425 locs425 hr425 hS425 => ?_)
                              have b425 : (v425.toInt = 1 ∧ _) ∨ (v425.toInt = 0 ∧ _) := hr425.imp (fun h => ⟨by rw [h.1]; decide, h.2⟩) (fun h => ⟨by rw [h.1]; decide, h.2⟩)
                              refine q_goV (q_runV (As := [.int v425]) (rest := []) E hC424 hS425 (m_X12_must l X Γ H424 hC424 h0 g0 v425 (a1 := v425.toInt) rfl ca gca uc (by omega) (by omega)) cw_X12_must cl_RX12_244 g0 ⟨rfl, rfl⟩ rfl hl.1 rfl (Nat.zero_le _) (by decide) dX12_yard_256) hS425 (fun H426 locs426 hr426 hC426 hS426 => ?_)
                              obtain ⟨hp426, hr426⟩ := hr426
                              have hKp426 := hKp424.tr (hp426.mono rfl)
                              have kd : KD H0 H426 ca 0 0 := KD.kp kd hp426 gca rfl rfl
                              have kd2 : KD H0 H426 ca 0 520 := KD.kp kd2 hp426 gca rfl rfl
                              have n0 : EQ H426 ca 2080 xx := EQ.kn n0 hp426 gca rfl (by unfold dpn; omega)
                              have n1 : EQ H426 ca 2081 yy := EQ.kn n1 hp426 gca rfl (by unfold dpn; omega)
                              obtain ⟨f426_0, f426_1, f426_2, f426_3, f426_4⟩ := hr426
                              refine lv_goto (tgt := 158) hx hb dX12_yard_259 rfl ?_
                              exact ih315 H426 locs426 ls (by omega) (by omega) hC426 hS426 hKp426 kd kd2 n0 n1 hl
                    exact L158 903 H314 locs314 ls (by omega) (by omega) hC314 hS314 hKp314 kd kd2 n0 n1 hl
              · refine lv_aload_n hx hb dX12_yard_57 rfl (lv_at hl 1 rfl) ?_
                refine q_getR E hC39 g0 fa_RX12_41 dX12_yard_58 (fun q427 eq427 gq427 => ?_)
                refine lv_iload_n hx hb dX12_yard_61 rfl (lv_at hl 0 rfl) ?_
                refine lv_iconst (v := 0) hx hb dX12_yard_62 rfl ?_
                refine q_iast E hC39 hS39 gq427 (by decide) rfl rfl (i_in (a := z38) ev38 (by omega) (by omega)) tv_F dX12_yard_63 (fun H428 locs428 hC428 hS428 U428 => ?_)
                have hKp428 := Kp.upA gq427 rfl (by decide) rfl U428 hKp39
                have kd : KD H0 H428 ca 0 0 := KD.ne kd U428 (nek gq427 gca (by decide))
                have kd2 : KD H0 H428 ca 0 520 := KD.ne kd2 U428 (nek gq427 gca (by decide))
                have m429 : (sI H428 h0 (X.1.2 11 12)).toInt = (sI H39 h0 (X.1.2 11 12)).toInt := congrArg Int32.toInt (up_nI U428 (ne_k g0 gq427 (by decide)))
                have m430 : (sI H428 h0 (X.1.2 11 14)).toInt = (sI H39 h0 (X.1.2 11 14)).toInt := congrArg Int32.toInt (up_nI U428 (ne_k g0 gq427 (by decide)))
                have m431 := congrArg tk m430
                have m432 : (sI H428 h0 (X.1.2 11 16)).toInt = (sI H39 h0 (X.1.2 11 16)).toInt := congrArg Int32.toInt (up_nI U428 (ne_k g0 gq427 (by decide)))
                obtain ⟨v433, ev433⟩ : ∃ z, z = v38 + Int32.ofInt 1 := ⟨_, rfl⟩
                have ev433i : v433.toInt = (z38 + 1) := i_add ev433 ev38 (by decide) (by omega) (by omega)
                refine lv_iinc hx hb dX12_yard_64 hl (k := 0) rfl ev433.symm (by decide) rfl (fun ls hl => ?_)
                have hl : lv_has ls 4 [(2, .int v433), (0, .ref h0), (1, .int p1)] := hl
                refine lv_goto (tgt := 51) hx hb dX12_yard_67 rfl ?_
                exact ih39 H428 locs428 v433 ((z38 + 1)) ls (by omega) ev433i (by omega) (by omega) hC428 hS428 hKp428 kd kd2 hl
          exact L51 _ H36 locs36 0 0 ls (Nat.lt_succ_self _) (by decide) (by omega) (by omega) hC36 hS36 hKp36 kd kd2 hl
        · refine lv_aload_n hx hb dX12_yard_32 rfl (lv_at hl 1 rfl) ?_
          refine q_getC E hC36 g0 fa_RX12_35 uc dX12_yard_33 ?_
          refine lv_sipush (v := 2080) hx hb dX12_yard_36 rfl ?_
          refine lv_iload_n hx hb dX12_yard_39 rfl (lv_at hl 0 rfl) ?_
          refine lv_iadd hx hb dX12_yard_40 (lv_topi (fun v434 ev434 => ?_))
          have ev434i : v434.toInt = (2080 + z35) := i_add ev434 (by decide) ev35 (by omega) (by omega)
          refine lv_iconst (v := 0) hx hb dX12_yard_41 rfl ?_
          refine q_cast E hC36 hS36 gca (a := (2080 + z35)) ev434i (by omega) (by omega) (cT_nz (by omega) (by omega)) dX12_yard_42 (fun H435 locs435 hC435 hS435 U435 => ?_)
          have hKp435 := Kp.upD gca rfl rfl (fun _ => ⟨fun h => absurd h (by decide), fun h => absurd h (by decide), fun h => absurd h (by decide)⟩) U435 hKp36
          have kd : KD H0 H435 ca 0 0 := KD.up kd U435 (by omega) (by omega)
          have kd2 : KD H0 H435 ca 0 520 := KD.up kd2 U435 (by omega) (by omega)
          have m436 : (sI H435 h0 (X.1.2 11 12)).toInt = (sI H36 h0 (X.1.2 11 12)).toInt := congrArg Int32.toInt (up_nI U435 (ne_k g0 gca (by decide)))
          have m437 : (sI H435 h0 (X.1.2 11 14)).toInt = (sI H36 h0 (X.1.2 11 14)).toInt := congrArg Int32.toInt (up_nI U435 (ne_k g0 gca (by decide)))
          have m438 := congrArg tk m437
          have m439 : (sI H435 h0 (X.1.2 11 16)).toInt = (sI H36 h0 (X.1.2 11 16)).toInt := congrArg Int32.toInt (up_nI U435 (ne_k g0 gca (by decide)))
          have e440 := up_I U435
          obtain ⟨v441, ev441⟩ : ∃ z, z = v35 + Int32.ofInt 1 := ⟨_, rfl⟩
          have ev441i : v441.toInt = (z35 + 1) := i_add ev441 ev35 (by decide) (by omega) (by omega)
          refine lv_iinc hx hb dX12_yard_43 hl (k := 0) rfl ev441.symm (by decide) rfl (fun ls hl => ?_)
          have hl : lv_has ls 4 [(2, .int v441), (0, .ref h0), (1, .int p1)] := hl
          refine lv_goto (tgt := 25) hx hb dX12_yard_46 rfl ?_
          exact ih36 H435 locs435 v441 ((z35 + 1)) ls (by omega) ev441i (by omega) (by omega) hC435 hS435 hKp435 kd kd2 hl
    exact L25 _ H33 locs33 0 0 ls (Nat.lt_succ_self _) (by decide) (by omega) (by omega) hC33 hS33 hKp33 kd kd2 hl
  · refine q_if_ne hx hb (a := 0) (by decide) (tgt := 23) dX12_yard_18 rfl (fun c442 => absurd c442 (by omega)) (fun c442 => ?_)
    refine lv_iconst (v := (-1)) hx hb dX12_yard_21 rfl ?_
    have hpost : KD H0 H33 ca 0 0 ∨ (KD H0 H33 ca 0 520 ∧ YI H33 ca) := Or.inl kd
    have c443 : ((-1) : Int32).toInt = (-1) := (by decide)
    exact ret (-1) H33 locs33 _ _ dX12_yard_22 ⟨hKp33, hpost⟩ hC33 hS33
