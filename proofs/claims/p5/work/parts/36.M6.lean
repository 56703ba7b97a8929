set_option maxRecDepth 100000 in
set_option maxHeartbeats 4000000 in
theorem m_X12_isWell (l : Launch) (X : xW) (Γ : Nat → Option Nat) (H0 : Heap) (hC0 : Conf X Γ H0) (h0 : Nat) (g0 : Γ h0 = some 11) (ca : Nat) (gca : Γ ca = some 64) (uc : ∀ a, Γ a = some 64 → a = ca) : Ctr l X Γ yX12_isWell cX12_isWell 1 (some .boolean) 1 [.ref h0] H0 (QI X Γ (fun v H1 => Kp X Γ [1, 6, 7, 8, 9, 10, 11, 12, 14, 15, 16, 17] H0 H1 ∧ ((v = 1 ∧ ((sI H0 h0 (X.1.2 11 12)).toInt = 0)) ∨ (v = 0 ∧ (True))))) := by
  refine q_enterZ (own := "SnowFortsModel") (by decide) rfl (Nat.le_of_ble_eq_true rfl) ?_
  intro p e s m args below meth c ls Qz E hl ret hS0
  have hx := E.1; have hb := E.2.1
  have hKp0 : Kp X Γ [1, 6, 7, 8, 9, 10, 11, 12, 14, 15, 16, 17] H0 H0 := Kp.rf
  have hl : lv_has ls 1 [(0, .ref h0)] := hl
  refine lv_aload_n hx hb dX12_isWell_0 rfl (lv_at hl 0 rfl) ?_
  refine lv_aload_n hx hb dX12_isWell_1 rfl (lv_at hl 0 rfl) ?_
  refine q_getI E hC0 g0 fa_RX12_218 dX12_isWell_2 (fun v21 ev21 lv21 uv21 => ?_)
  have m22 : (sI H0 h0 (X.1.2 11 12)).toInt = v21.toInt := (congrArg Int32.toInt ev21).trans rfl
  refine q_put E hC0 hS0 g0 fp_RX12_28 tv_F rfl rfl dX12_isWell_5 (fun H23 locs23 hC23 hS23 U23 => ?_)
  have hKp23 := Kp.upO E g0 fp_RX12_28 rfl U23 hKp0
  have e24 := up_I U23
  have m25 : (sI H23 h0 (X.1.2 11 12)).toInt = (sI H0 h0 (X.1.2 11 12)).toInt := congrArg Int32.toInt (up_nI U23 (ne_f E 11 12 10 rfl (by decide) (by decide) (by decide)))
  refine lv_aload_n hx hb dX12_isWell_8 rfl (lv_at hl 0 rfl) ?_
  refine lv_aload_n hx hb dX12_isWell_9 rfl (lv_at hl 0 rfl) ?_
  have e27 := (up_nI U23 (ne_f E 11 12 10 rfl (by decide) (by decide) (by decide))).trans ev21
  refine q_getI E hC23 g0 fa_RX12_218 dX12_isWell_10 (fun v26 ev26 lv26 uv26 => ?_)
  have qv26 := e27.symm.trans ev26; subst qv26
  have m28 : (sI H23 h0 (X.1.2 11 12)).toInt = v21.toInt := (congrArg Int32.toInt ev26).trans rfl
  refine q_if_ne hx hb (a := v21.toInt) rfl (tgt := 20) dX12_isWell_13 rfl (fun c29 => ?_) (fun c29 => ?_)
  · refine lv_aload_n hx hb dX12_isWell_20 rfl (lv_at hl 0 rfl) ?_
    refine q_getI E hC23 g0 fa_RX12_221 dX12_isWell_21 (fun v30 ev30 _ _ => ?_)
    refine q_put E hC23 hS23 g0 fp_RX12_32 tv_F rfl rfl dX12_isWell_24 (fun H31 locs31 hC31 hS31 U31 => ?_)
    have hKp31 := Kp.upO E g0 fp_RX12_32 rfl U31 hKp23
    have e32 := up_I U31
    have m33 : (sI H31 h0 (X.1.2 11 12)).toInt = (sI H23 h0 (X.1.2 11 12)).toInt := congrArg Int32.toInt (up_nI U31 (ne_f E 11 12 11 rfl (by decide) (by decide) (by decide)))
    refine lv_aload_n hx hb dX12_isWell_27 rfl (lv_at hl 0 rfl) ?_
    have e35 := (up_nI U31 (ne_f E 11 12 11 rfl (by decide) (by decide) (by decide))).trans e27
    refine q_getI E hC31 g0 fa_RX12_218 dX12_isWell_28 (fun v34 ev34 lv34 uv34 => ?_)
    have qv34 := e35.symm.trans ev34; subst qv34
    have m36 : (sI H31 h0 (X.1.2 11 12)).toInt = v21.toInt := (congrArg Int32.toInt ev34).trans rfl
    refine q_if_eq hx hb (a := v21.toInt) rfl (tgt := 43) dX12_isWell_31 rfl (fun c37 => absurd c37 (by omega)) (fun c37 => ?_)
    refine lv_aload_n hx hb dX12_isWell_34 rfl (lv_at hl 0 rfl) ?_
    refine lv_bipush (v := 10) hx hb dX12_isWell_35 rfl ?_
    refine q_goI (q_runV (As := [.int 10]) (rest := []) E hC31 hS31 (m_X12_no l X Γ H31 hC31 h0 g0 10 (a1 := 10) (by decide) ca gca uc) cw_X12_no cl_RX12_84 g0 ⟨rfl, rfl⟩ rfl hl.1 rfl (Nat.zero_le _) (by decide) dX12_isWell_37) hS31 (fun v38 H38 locs38 hr38 hC38 hS38 => ?_)
    obtain ⟨hp38, hr38⟩ := hr38
    have hKp38 := hKp31.tr (hp38.mono rfl)
    rcases hr38 with ⟨rfl, f38a⟩ | ⟨rfl, -⟩
    · exact absurd f38a (by decide)
    · refine q_if_eq hx hb (a := 0) (by decide) (tgt := 47) dX12_isWell_40 rfl (fun c39 => ?_) (fun c39 => absurd c39 (by omega))
      refine lv_iconst (v := 0) hx hb dX12_isWell_47 rfl ?_
      exact ret 0 H38 locs38 _ _ dX12_isWell_48 (Or.inl rfl) ⟨hKp38, Or.inr ⟨rfl, trivial⟩⟩ hC38 hS38
  · refine lv_iconst (v := (-1)) hx hb dX12_isWell_16 rfl ?_
    refine lv_goto (tgt := 24) hx hb dX12_isWell_17 rfl ?_
    refine q_put E hC23 hS23 g0 fp_RX12_32 tv_F rfl rfl dX12_isWell_24 (fun H40 locs40 hC40 hS40 U40 => ?_)
    have hKp40 := Kp.upO E g0 fp_RX12_32 rfl U40 hKp23
    have e41 := up_I U40
    have m42 : (sI H40 h0 (X.1.2 11 12)).toInt = (sI H23 h0 (X.1.2 11 12)).toInt := congrArg Int32.toInt (up_nI U40 (ne_f E 11 12 11 rfl (by decide) (by decide) (by decide)))
    refine lv_aload_n hx hb dX12_isWell_27 rfl (lv_at hl 0 rfl) ?_
    have e44 := (up_nI U40 (ne_f E 11 12 11 rfl (by decide) (by decide) (by decide))).trans e27
    refine q_getI E hC40 g0 fa_RX12_218 dX12_isWell_28 (fun v43 ev43 lv43 uv43 => ?_)
    have qv43 := e44.symm.trans ev43; subst qv43
    have m45 : (sI H40 h0 (X.1.2 11 12)).toInt = v21.toInt := (congrArg Int32.toInt ev43).trans rfl
    refine q_if_eq hx hb (a := v21.toInt) rfl (tgt := 43) dX12_isWell_31 rfl (fun c46 => ?_) (fun c46 => absurd c46 (by omega))
    refine lv_iconst (v := 1) hx hb dX12_isWell_43 rfl ?_
    refine lv_goto (tgt := 48) hx hb dX12_isWell_44 rfl ?_
    exact ret 1 H40 locs40 _ _ dX12_isWell_48 (Or.inr rfl) ⟨hKp40, Or.inl ⟨rfl, by omega⟩⟩ hC40 hS40
set_option maxRecDepth 100000 in
set_option maxHeartbeats 4000000 in
theorem m_X12_yard (l : Launch) (X : xW) (Γ : Nat → Option Nat) (H0 : Heap) (hC0 : Conf X Γ H0) (h0 : Nat) (g0 : Γ h0 = some 11) (p1 : Int32) {a1 : Int} (e1 : p1.toInt = a1) (ca : Nat) (gca : Γ ca = some 64) (uc : ∀ a, Γ a = some 64 → a = ca) : Ctr l X Γ yX12_yard cX12_yard 4 (some .int) 5 [.ref h0, .int p1] H0 (QI X Γ (fun v H1 => Kp X Γ [1, 6, 8, 9, 11, 12, 14] H0 H1 ∧ (True))) := by
  refine q_enterI (own := "SnowFortsModel") (by decide) rfl (Nat.le_of_ble_eq_true rfl) ?_
  intro p e s m args below meth c ls Qz E hl ret hS0
  have hx := E.1; have hb := E.2.1
  have hKp0 : Kp X Γ [1, 6, 8, 9, 11, 12, 14] H0 H0 := Kp.rf
  have hl : lv_has ls 4 [(0, .ref h0), (1, .int p1)] := hl
  refine lv_aload_n hx hb dX12_yard_0 rfl (lv_at hl 0 rfl) ?_
  refine lv_iconst (v := 0) hx hb dX12_yard_1 rfl ?_
  refine q_put E hC0 hS0 g0 fp_RX12_69 tv_F rfl rfl dX12_yard_2 (fun H21 locs21 hC21 hS21 U21 => ?_)
  have hKp21 := Kp.upO E g0 fp_RX12_69 rfl U21 hKp0
  have e22 := up_I U21
  have m23 : (sI H21 h0 (X.1.2 11 12)).toInt = (sI H0 h0 (X.1.2 11 12)).toInt := congrArg Int32.toInt (up_nI U21 (ne_f E 11 12 1 rfl (by decide) (by decide) (by decide)))
  have m24 : (sI H21 h0 (X.1.2 11 14)).toInt = (sI H0 h0 (X.1.2 11 14)).toInt := congrArg Int32.toInt (up_nI U21 (ne_f E 11 14 1 rfl (by decide) (by decide) (by decide)))
  have m25 := congrArg tk m24
  have m26 : (sI H21 h0 (X.1.2 11 16)).toInt = (sI H0 h0 (X.1.2 11 16)).toInt := congrArg Int32.toInt (up_nI U21 (ne_f E 11 16 1 rfl (by decide) (by decide) (by decide)))
  refine lv_aload_n hx hb dX12_yard_5 rfl (lv_at hl 0 rfl) ?_
  refine lv_iconst (v := 0) hx hb dX12_yard_6 rfl ?_
  refine q_put E hC21 hS21 g0 fp_RX12_72 tv_F rfl rfl dX12_yard_7 (fun H27 locs27 hC27 hS27 U27 => ?_)
  have hKp27 := Kp.upO E g0 fp_RX12_72 rfl U27 hKp21
  have e28 := up_I U27
  have m29 : (sI H27 h0 (X.1.2 11 12)).toInt = (sI H21 h0 (X.1.2 11 12)).toInt := congrArg Int32.toInt (up_nI U27 (ne_f E 11 12 0 rfl (by decide) (by decide) (by decide)))
  have m30 : (sI H27 h0 (X.1.2 11 14)).toInt = (sI H21 h0 (X.1.2 11 14)).toInt := congrArg Int32.toInt (up_nI U27 (ne_f E 11 14 0 rfl (by decide) (by decide) (by decide)))
  have m31 := congrArg tk m30
  have m32 : (sI H27 h0 (X.1.2 11 16)).toInt = (sI H21 h0 (X.1.2 11 16)).toInt := congrArg Int32.toInt (up_nI U27 (ne_f E 11 16 0 rfl (by decide) (by decide) (by decide)))
  refine lv_aload_n hx hb dX12_yard_10 rfl (lv_at hl 0 rfl) ?_
  refine lv_iload_n hx hb dX12_yard_11 rfl (lv_at hl 1 rfl) ?_
  refine lv_sipush (v := 900) hx hb dX12_yard_12 rfl ?_
  refine q_goI (q_runV (As := [.int p1, .int 900]) (rest := []) E hC27 hS27 (m_X12_opens l X Γ H27 hC27 h0 g0 p1 (a1 := a1) e1 900 (a2 := 900) (by decide) ca gca uc) cw_X12_opens cl_RX12_251 g0 ⟨rfl, rfl⟩ rfl hl.1 rfl (Nat.zero_le _) (by decide) dX12_yard_15) hS27 (fun v33 H33 locs33 hr33 hC33 hS33 => ?_)
  obtain ⟨hp33, hr33⟩ := hr33
  have hKp33 := hKp27.tr (hp33.mono rfl)
  rcases hr33 with ⟨rfl, f33a⟩ | ⟨rfl, -⟩
  · refine q_if_ne hx hb (a := 1) (by decide) (tgt := 23) dX12_yard_18 rfl (fun c34 => ?_) (fun c34 => absurd c34 (by omega))
    refine lv_iconst (v := 0) hx hb dX12_yard_23 rfl ?_
    refine lv_istore_n hx hb dX12_yard_24 rfl hl (by decide) rfl (fun ls hl => ?_)
    have hl : lv_has ls 4 [(2, .int 0), (0, .ref h0), (1, .int p1)] := hl
    have L25 : ∀ (n36 : Nat) (H36 : Heap) (locs36 : List Loc) (v35 : Int32) (z35 : Int) (ls : Array Slot), (520 - z35).toNat < n36 → v35.toInt = z35 → z35 ≤ 520 → 0 ≤ z35 → Conf X Γ H36 → va_S (AΓ Γ) H0 H36 locs36 → Kp X Γ [1, 6, 8, 9, 11, 12, 14] H0 H36 → lv_has ls 4 [(2, .int v35), (0, .ref h0), (1, .int p1)] → W p l e (rmL 5) s m args below meth c H36 locs36 0 0 Qz (F0 m 25 ls []) := by
      intro n36
      induction n36 with
      | zero => intro H36 locs36 v35 z35 ls hm36 ev35 iv36_0 iv36_1 hC36 hS36 hKp36 hl; exact absurd hm36 (Nat.not_lt_zero _)
      | succ n36 ih36 =>
        intro H36 locs36 v35 z35 ls hm36 ev35 iv36_0 iv36_1 hC36 hS36 hKp36 hl
        refine lv_iload_n hx hb dX12_yard_25 rfl (lv_at hl 0 rfl) ?_
        refine lv_sipush (v := 520) hx hb dX12_yard_26 rfl ?_
        refine q_icmp_ge hx hb (a := z35) (b := 520) ev35 (by decide) (tgt := 49) dX12_yard_29 rfl (fun c37 => ?_) (fun c37 => ?_)
        · refine lv_iconst (v := 0) hx hb dX12_yard_49 rfl ?_
          refine lv_istore_n hx hb dX12_yard_50 rfl hl (by decide) rfl (fun ls hl => ?_)
          have hl : lv_has ls 4 [(2, .int 0), (0, .ref h0), (1, .int p1)] := hl
          have L51 : ∀ (n39 : Nat) (H39 : Heap) (locs39 : List Loc) (v38 : Int32) (z38 : Int) (ls : Array Slot), (108 - z38).toNat < n39 → v38.toInt = z38 → z38 ≤ 108 → 0 ≤ z38 → Conf X Γ H39 → va_S (AΓ Γ) H0 H39 locs39 → Kp X Γ [1, 6, 8, 9, 11, 12, 14] H0 H39 → lv_has ls 4 [(2, .int v38), (0, .ref h0), (1, .int p1)] → W p l e (rmL 5) s m args below meth c H39 locs39 0 0 Qz (F0 m 51 ls []) := by
            intro n39
            induction n39 with
            | zero => intro H39 locs39 v38 z38 ls hm39 ev38 iv39_0 iv39_1 hC39 hS39 hKp39 hl; exact absurd hm39 (Nat.not_lt_zero _)
            | succ n39 ih39 =>
              intro H39 locs39 v38 z38 ls hm39 ev38 iv39_0 iv39_1 hC39 hS39 hKp39 hl
              refine lv_iload_n hx hb dX12_yard_51 rfl (lv_at hl 0 rfl) ?_
              refine lv_bipush (v := 108) hx hb dX12_yard_52 rfl ?_
              refine q_icmp_ge hx hb (a := z38) (b := 108) ev38 (by decide) (tgt := 70) dX12_yard_54 rfl (fun c40 => ?_) (fun c40 => ?_)
              · refine lv_aload_n hx hb dX12_yard_70 rfl (lv_at hl 1 rfl) ?_
                refine lv_aload_n hx hb dX12_yard_71 rfl (lv_at hl 1 rfl) ?_
                refine q_goIp (q_runV (As := []) (rest := [.ref h0]) E hC39 hS39 (m_X12_isWide l X Γ H39 hC39 h0 g0 ca gca uc) cw_X12_isWide cl_RX12_166 g0 ⟨rfl, rfl⟩ rfl hl.1 rfl (show _ ≤ _ from by simp [Value.category]) (by decide) dX12_yard_72) hS39 (fun v41 locs41 hr41 hS41 => ?_)
                have b41 : v41.toInt = 0 ∨ v41.toInt = 1 := hr41.imp (fun h => by rw [h]; decide) (fun h => by rw [h]; decide)
                refine q_goV (q_runV (As := [.int v41]) (rest := []) E hC39 hS41 (m_X12_must l X Γ H39 hC39 h0 g0 v41 (a1 := v41.toInt) rfl ca gca uc (by omega) (by omega)) cw_X12_must cl_RX12_244 g0 ⟨rfl, rfl⟩ rfl hl.1 rfl (Nat.zero_le _) (by decide) dX12_yard_75) hS41 (fun H42 locs42 hr42 hC42 hS42 => ?_)
                obtain ⟨hp42, hr42⟩ := hr42
                have hKp42 := hKp39.tr (hp42.mono rfl)
                obtain ⟨f42_0, f42_1, f42_2, f42_3, f42_4⟩ := hr42
                refine lv_aload_n hx hb dX12_yard_78 rfl (lv_at hl 1 rfl) ?_
                refine q_getI E hC42 g0 fa_RX12_114 dX12_yard_79 (fun v43 ev43 lv43 uv43 => ?_)
                refine lv_istore_n hx hb dX12_yard_82 rfl hl (by decide) rfl (fun ls hl => ?_)
                have hl : lv_has ls 4 [(2, .int v43), (0, .ref h0), (1, .int p1)] := hl
                refine lv_aload_n hx hb dX12_yard_83 rfl (lv_at hl 1 rfl) ?_
                refine q_getC E hC42 g0 fa_RX12_35 uc dX12_yard_84 ?_
                refine lv_sipush (v := 2080) hx hb dX12_yard_87 rfl ?_
                refine lv_aload_n hx hb dX12_yard_90 rfl (lv_at hl 1 rfl) ?_
                refine lv_iconst (v := 2) hx hb dX12_yard_91 rfl ?_
                refine lv_bipush (v := 6) hx hb dX12_yard_92 rfl ?_
                refine q_goI (q_runV (As := [.int 2, .int 6]) (rest := [.int 2080, .ref ca]) E hC42 hS42 (m_X12_count l X Γ H42 hC42 h0 g0 2 (a1 := 2) (by decide) 6 (a2 := 6) (by decide) ca gca uc (by omega) (by omega) (by omega) (by omega)) cw_X12_count cl_RX12_248 g0 ⟨rfl, rfl⟩ rfl hl.1 rfl (show _ ≤ _ from by simp [Value.category]) (by decide) dX12_yard_94) hS42 (fun v44 H44 locs44 hr44 hC44 hS44 => ?_)
                obtain ⟨hp44, hr44⟩ := hr44
                have hKp44 := hKp42.tr (hp44.mono rfl)
                obtain ⟨f44_0, f44_1, f44_2, f44_3, f44_4, f44_5, f44_6, f44_7⟩ := hr44
                refine q_cast E hC44 hS44 gca (a := 2080) (show (2080 : Int32).toInt = 2080 from by decide) (by omega) (by omega) (cs_n0 (a := 2080) (b := v44.toInt) (by omega) (by omega) rfl (by omega) (by omega)) dX12_yard_97 (fun H45 locs45 hC45 hS45 U45 => ?_)
                have hKp45 := Kp.upD gca rfl rfl (fun _ => ⟨fun h => absurd h (by decide), fun h => absurd h (by decide), fun h => absurd h (by decide)⟩) U45 hKp44
                have m46 : (sI H45 h0 (X.1.2 11 12)).toInt = (sI H44 h0 (X.1.2 11 12)).toInt := congrArg Int32.toInt (up_nI U45 (ne_k g0 gca (by decide)))
                have m47 : (sI H45 h0 (X.1.2 11 14)).toInt = (sI H44 h0 (X.1.2 11 14)).toInt := congrArg Int32.toInt (up_nI U45 (ne_k g0 gca (by decide)))
                have m48 := congrArg tk m47
                have m49 : (sI H45 h0 (X.1.2 11 16)).toInt = (sI H44 h0 (X.1.2 11 16)).toInt := congrArg Int32.toInt (up_nI U45 (ne_k g0 gca (by decide)))
                have e50 := up_I U45
                refine lv_aload_n hx hb dX12_yard_98 rfl (lv_at hl 1 rfl) ?_
                refine q_getI E hC45 g0 fa_RX12_218 dX12_yard_99 (fun v51 ev51 lv51 uv51 => ?_)
                have m52 : (sI H45 h0 (X.1.2 11 12)).toInt = v51.toInt := (congrArg Int32.toInt ev51).trans rfl
                refine q_if_ne hx hb (a := v51.toInt) rfl (tgt := 125) dX12_yard_102 rfl (fun c53 => ?_) (fun c53 => ?_)
                · refine lv_aload_n hx hb dX12_yard_125 rfl (lv_at hl 1 rfl) ?_
                  refine lv_aload_n hx hb dX12_yard_126 rfl (lv_at hl 1 rfl) ?_
                  refine q_goIp (q_runV (As := []) (rest := [.ref h0]) E hC45 hS45 (m_X12_isHigh l X Γ H45 hC45 h0 g0 ca gca uc) cw_X12_isHigh cl_RX12_169 g0 ⟨rfl, rfl⟩ rfl hl.1 rfl (show _ ≤ _ from by simp [Value.category]) (by decide) dX12_yard_127) hS45 (fun v54 locs54 hr54 hS54 => ?_)
                  have b54 : v54.toInt = 0 ∨ v54.toInt = 1 := hr54.imp (fun h => by rw [h]; decide) (fun h => by rw [h]; decide)
                  refine q_goV (q_runV (As := [.int v54]) (rest := []) E hC45 hS54 (m_X12_must l X Γ H45 hC45 h0 g0 v54 (a1 := v54.toInt) rfl ca gca uc (by omega) (by omega)) cw_X12_must cl_RX12_244 g0 ⟨rfl, rfl⟩ rfl hl.1 rfl (Nat.zero_le _) (by decide) dX12_yard_130) hS54 (fun H55 locs55 hr55 hC55 hS55 => ?_)
                  obtain ⟨hp55, hr55⟩ := hr55
                  have hKp55 := hKp45.tr (hp55.mono rfl)
                  obtain ⟨f55_0, f55_1, f55_2, f55_3, f55_4⟩ := hr55
                  refine lv_aload_n hx hb dX12_yard_133 rfl (lv_at hl 1 rfl) ?_
                  refine q_getC E hC55 g0 fa_RX12_35 uc dX12_yard_134 ?_
                  refine lv_sipush (v := 2081) hx hb dX12_yard_137 rfl ?_
                  refine lv_aload_n hx hb dX12_yard_140 rfl (lv_at hl 1 rfl) ?_
                  refine lv_iconst (v := 1) hx hb dX12_yard_141 rfl ?_
                  refine lv_bipush (v := 6) hx hb dX12_yard_142 rfl ?_
                  refine q_goI (q_runV (As := [.int 1, .int 6]) (rest := [.int 2081, .ref ca]) E hC55 hS55 (m_X12_count l X Γ H55 hC55 h0 g0 1 (a1 := 1) (by decide) 6 (a2 := 6) (by decide) ca gca uc (by omega) (by omega) (by omega) (by omega)) cw_X12_count cl_RX12_248 g0 ⟨rfl, rfl⟩ rfl hl.1 rfl (show _ ≤ _ from by simp [Value.category]) (by decide) dX12_yard_144) hS55 (fun v56 H56 locs56 hr56 hC56 hS56 => ?_)
                  obtain ⟨hp56, hr56⟩ := hr56
                  have hKp56 := hKp55.tr (hp56.mono rfl)
                  obtain ⟨f56_0, f56_1, f56_2, f56_3, f56_4, f56_5, f56_6, f56_7⟩ := hr56
                  refine q_cast E hC56 hS56 gca (a := 2081) (show (2081 : Int32).toInt = 2081 from by decide) (by omega) (by omega) (cs_n0 (a := 2081) (b := v56.toInt) (by omega) (by omega) rfl (by omega) (by omega)) dX12_yard_147 (fun H57 locs57 hC57 hS57 U57 => ?_)
                  have hKp57 := Kp.upD gca rfl rfl (fun _ => ⟨fun h => absurd h (by decide), fun h => absurd h (by decide), fun h => absurd h (by decide)⟩) U57 hKp56
                  have m58 : (sI H57 h0 (X.1.2 11 12)).toInt = (sI H56 h0 (X.1.2 11 12)).toInt := congrArg Int32.toInt (up_nI U57 (ne_k g0 gca (by decide)))
                  have m59 : (sI H57 h0 (X.1.2 11 14)).toInt = (sI H56 h0 (X.1.2 11 14)).toInt := congrArg Int32.toInt (up_nI U57 (ne_k g0 gca (by decide)))
                  have m60 := congrArg tk m59
                  have m61 : (sI H57 h0 (X.1.2 11 16)).toInt = (sI H56 h0 (X.1.2 11 16)).toInt := congrArg Int32.toInt (up_nI U57 (ne_k g0 gca (by decide)))
                  have e62 := up_I U57
                  refine lv_aload_n hx hb dX12_yard_148 rfl (lv_at hl 1 rfl) ?_
                  refine lv_aload_n hx hb dX12_yard_149 rfl (lv_at hl 1 rfl) ?_
                  refine lv_bipush (v := 59) hx hb dX12_yard_150 rfl ?_
                  refine q_goIp (q_runV (As := [.int 59]) (rest := [.ref h0]) E hC57 hS57 (m_X12_isSign l X Γ H57 hC57 h0 g0 59 (a1 := 59) (by decide) ca gca uc) cw_X12_isSign cl_RX12_255 g0 ⟨rfl, rfl⟩ rfl hl.1 rfl (show _ ≤ _ from by simp [Value.category]) (by decide) dX12_yard_152) hS57 (fun v63 locs63 hr63 hS63 => ?_)
                  have b63 : (v63.toInt = 1 ∧ _) ∨ (v63.toInt = 0 ∧ _) := hr63.imp (fun h => ⟨by rw [h.1]; decide, h.2⟩) (fun h => ⟨by rw [h.1]; decide, h.2⟩)
                  have hb0 := f_bd hC57 g0 (ci := 11) (k := 16) rfl rfl
                  refine q_goV (q_runV (As := [.int v63]) (rest := []) E hC57 hS63 (m_X12_must l X Γ H57 hC57 h0 g0 v63 (a1 := v63.toInt) rfl ca gca uc (by omega) (by omega)) cw_X12_must cl_RX12_244 g0 ⟨rfl, rfl⟩ rfl hl.1 rfl (Nat.zero_le _) (by decide) dX12_yard_155) hS63 (fun H64 locs64 hr64 hC64 hS64 => ?_)
                  obtain ⟨hp64, hr64⟩ := hr64
                  have hKp64 := hKp57.tr (hp64.mono rfl)
                  obtain ⟨f64_0, f64_1, f64_2, f64_3, f64_4⟩ := hr64
                  have L158 : ∀ (n65 : Nat) (H65 : Heap) (locs65 : List Loc) (ls : Array Slot), 0 < n65 ∧ ((sI H65 h0 (X.1.2 11 12)).toInt ≠ 0 ∨ 902 - (sI H65 h0 (X.1.2 11 16)).toInt < n65) → Conf X Γ H65 → va_S (AΓ Γ) H0 H65 locs65 → Kp X Γ [1, 6, 8, 9, 11, 12, 14] H0 H65 → lv_has ls 4 [(2, .int v43), (0, .ref h0), (1, .int p1)] → W p l e (rmL 5) s m args below meth c H65 locs65 0 0 Qz (F0 m 158 ls []) := by
                    intro n65
                    induction n65 with
                    | zero => intro H65 locs65 ls hm65 hC65 hS65 hKp65 hl; exact absurd hm65 (by omega)
                    | succ n65 ih65 =>
                      intro H65 locs65 ls hm65 hC65 hS65 hKp65 hl
                      have hb1 := f_bd hC65 g0 (ci := 11) (k := 16) rfl rfl
                      have hb2 := f_bd hC65 g0 (ci := 11) (k := 12) rfl rfl
                      refine lv_aload_n hx hb dX12_yard_158 rfl (lv_at hl 1 rfl) ?_
                      refine q_getI E hC65 g0 fa_RX12_218 dX12_yard_159 (fun v66 ev66 lv66 uv66 => ?_)
                      have m67 : (sI H65 h0 (X.1.2 11 12)).toInt = v66.toInt := (congrArg Int32.toInt ev66).trans rfl
                      refine q_if_ne hx hb (a := v66.toInt) rfl (tgt := 262) dX12_yard_162 rfl (fun c68 => ?_) (fun c68 => ?_)
                      · refine lv_aload_n hx hb dX12_yard_262 rfl (lv_at hl 1 rfl) ?_
                        refine q_goI (q_runV (As := []) (rest := []) E hC65 hS65 (m_X12_isWell l X Γ H65 hC65 h0 g0 ca gca uc) cw_X12_isWell cl_RX12_267 g0 ⟨rfl, rfl⟩ rfl hl.1 rfl (Nat.zero_le _) (by decide) dX12_yard_263) hS65 (fun v69 H69 locs69 hr69 hC69 hS69 => ?_)
                        obtain ⟨hp69, hr69⟩ := hr69
                        have hKp69 := hKp65.tr (hp69.mono rfl)
                        rcases hr69 with ⟨rfl, f69a⟩ | ⟨rfl, -⟩
                        · refine q_if_ne hx hb (a := 1) (by decide) (tgt := 271) dX12_yard_266 rfl (fun c70 => ?_) (fun c70 => absurd c70 (by omega))
                          refine lv_iconst (v := 0) hx hb dX12_yard_271 rfl ?_
                          refine lv_istore_n hx hb dX12_yard_272 rfl hl (by decide) rfl (fun ls hl => ?_)
                          have hl : lv_has ls 4 [(3, .int 0), (2, .int v43), (0, .ref h0), (1, .int p1)] := hl
                          have L273 : ∀ (n72 : Nat) (H72 : Heap) (locs72 : List Loc) (v71 : Int32) (z71 : Int) (ls : Array Slot), (36 - z71).toNat < n72 → v71.toInt = z71 → z71 ≤ 36 → 0 ≤ z71 → Conf X Γ H72 → va_S (AΓ Γ) H0 H72 locs72 → Kp X Γ [1, 6, 8, 9, 11, 12, 14] H0 H72 → lv_has ls 4 [(3, .int v71), (2, .int v43), (0, .ref h0), (1, .int p1)] → W p l e (rmL 5) s m args below meth c H72 locs72 0 0 Qz (F0 m 273 ls []) := by
                            intro n72
                            induction n72 with
                            | zero => intro H72 locs72 v71 z71 ls hm72 ev71 iv72_0 iv72_1 hC72 hS72 hKp72 hl; exact absurd hm72 (Nat.not_lt_zero _)
                            | succ n72 ih72 =>
                              intro H72 locs72 v71 z71 ls hm72 ev71 iv72_0 iv72_1 hC72 hS72 hKp72 hl
                              refine lv_iload_n hx hb dX12_yard_273 rfl (lv_at hl 0 rfl) ?_
                              refine lv_bipush (v := 36) hx hb dX12_yard_274 rfl ?_
                              refine q_icmp_ge hx hb (a := z71) (b := 36) ev71 (by decide) (tgt := 305) dX12_yard_276 rfl (fun c73 => ?_) (fun c73 => ?_)
                              · refine lv_iconst (v := 0) hx hb dX12_yard_305 rfl ?_
                                refine lv_istore_n hx hb dX12_yard_306 rfl hl (by decide) rfl (fun ls hl => ?_)
                                have hl : lv_has ls 4 [(3, .int 0), (2, .int v43), (0, .ref h0), (1, .int p1)] := hl
                                have L307 : ∀ (n75 : Nat) (H75 : Heap) (locs75 : List Loc) (v74 : Int32) (z74 : Int) (ls : Array Slot), (520 - z74).toNat < n75 → v74.toInt = z74 → z74 ≤ 520 → 0 ≤ z74 → Conf X Γ H75 → va_S (AΓ Γ) H0 H75 locs75 → Kp X Γ [1, 6, 8, 9, 11, 12, 14] H0 H75 → lv_has ls 4 [(3, .int v74), (2, .int v43), (0, .ref h0), (1, .int p1)] → W p l e (rmL 5) s m args below meth c H75 locs75 0 0 Qz (F0 m 307 ls []) := by
                                  intro n75
                                  induction n75 with
                                  | zero => intro H75 locs75 v74 z74 ls hm75 ev74 iv75_0 iv75_1 hC75 hS75 hKp75 hl; exact absurd hm75 (Nat.not_lt_zero _)
                                  | succ n75 ih75 =>
                                    intro H75 locs75 v74 z74 ls hm75 ev74 iv75_0 iv75_1 hC75 hS75 hKp75 hl
                                    refine lv_iload_n hx hb dX12_yard_307 rfl (lv_at hl 0 rfl) ?_
                                    refine lv_sipush (v := 520) hx hb dX12_yard_308 rfl ?_
                                    refine q_icmp_ge hx hb (a := z74) (b := 520) ev74 (by decide) (tgt := 336) dX12_yard_311 rfl (fun c76 => ?_) (fun c76 => ?_)
                                    · refine lv_aload_n hx hb dX12_yard_336 rfl (lv_at hl 2 rfl) ?_
                                      refine q_getC E hC75 g0 fa_RX12_35 uc dX12_yard_337 ?_
                                      refine lv_iconst (v := 0) hx hb dX12_yard_340 rfl ?_
                                      refine q_cald E hC75 (lo := 0) (hi := 6) gca (a := 0) (show (0 : Int32).toInt = 0 from by decide) (by omega) (by omega) (cr_c0 (by omega) (by omega)) dX12_yard_341 (fun v77 ev77 lv77 uv77 => ?_)
                                      refine lv_aload_n hx hb dX12_yard_342 rfl (lv_at hl 2 rfl) ?_
                                      refine q_getC E hC75 g0 fa_RX12_35 uc dX12_yard_343 ?_
                                      refine lv_iconst (v := 1) hx hb dX12_yard_346 rfl ?_
                                      refine q_cald E hC75 (lo := 0) (hi := 6) gca (a := 1) (show (1 : Int32).toInt = 1 from by decide) (by omega) (by omega) (cr_c0 (by omega) (by omega)) dX12_yard_347 (fun v78 ev78 lv78 uv78 => ?_)
                                      refine lv_imul hx hb dX12_yard_348 (lv_topi (fun v79 ev79 => ?_))
                                      exact ret v79 H75 locs75 _ _ dX12_yard_349 ⟨hKp75, trivial⟩ hC75 hS75
                                    · refine lv_aload_n hx hb dX12_yard_314 rfl (lv_at hl 2 rfl) ?_
                                      refine q_getC E hC75 g0 fa_RX12_35 uc dX12_yard_315 ?_
                                      refine lv_iload_n hx hb dX12_yard_318 rfl (lv_at hl 0 rfl) ?_
                                      refine lv_aload_n hx hb dX12_yard_319 rfl (lv_at hl 2 rfl) ?_
                                      refine q_getC E hC75 g0 fa_RX12_35 uc dX12_yard_320 ?_
                                      refine lv_sipush (v := 2080) hx hb dX12_yard_323 rfl ?_
                                      refine lv_iload_n hx hb dX12_yard_326 rfl (lv_at hl 0 rfl) ?_
                                      refine lv_iadd hx hb dX12_yard_327 (lv_topi (fun v80 ev80 => ?_))
                                      have ev80i : v80.toInt = (2080 + z74) := i_add ev80 (by decide) ev74 (by omega) (by omega)
                                      refine q_craw E hC75 gca (a := (2080 + z74)) ev80i (by omega) (by omega) dX12_yard_328 (fun v81 ev81 tv81 => ?_)
                                      refine q_cast E hC75 hS75 gca (a := z74) ev74 (by omega) (by omega) (cT_nb (k := z74) rfl rfl (by omega) (by omega) tv81) dX12_yard_329 (fun H82 locs82 hC82 hS82 U82 => ?_)
                                      have hKp82 := Kp.upD gca rfl rfl (fun _ => ⟨fun h => absurd h (by decide), fun h => absurd h (by decide), fun h => absurd h (by decide)⟩) U82 hKp75
                                      have m83 : (sI H82 h0 (X.1.2 11 12)).toInt = (sI H75 h0 (X.1.2 11 12)).toInt := congrArg Int32.toInt (up_nI U82 (ne_k g0 gca (by decide)))
                                      have m84 : (sI H82 h0 (X.1.2 11 14)).toInt = (sI H75 h0 (X.1.2 11 14)).toInt := congrArg Int32.toInt (up_nI U82 (ne_k g0 gca (by decide)))
                                      have m85 := congrArg tk m84
                                      have m86 : (sI H82 h0 (X.1.2 11 16)).toInt = (sI H75 h0 (X.1.2 11 16)).toInt := congrArg Int32.toInt (up_nI U82 (ne_k g0 gca (by decide)))
                                      have e87 := up_I U82
                                      obtain ⟨v88, ev88⟩ : ∃ z, z = v74 + Int32.ofInt 1 := ⟨_, rfl⟩
                                      have ev88i : v88.toInt = (z74 + 1) := i_add ev88 ev74 (by decide) (by omega) (by omega)
                                      refine lv_iinc hx hb dX12_yard_330 hl (k := 0) rfl ev88.symm (by decide) rfl (fun ls hl => ?_)
                                      have hl : lv_has ls 4 [(3, .int v88), (2, .int v43), (0, .ref h0), (1, .int p1)] := hl
                                      refine lv_goto (tgt := 307) hx hb dX12_yard_333 rfl ?_
                                      exact ih75 H82 locs82 v88 ((z74 + 1)) ls (by omega) ev88i (by omega) (by omega) hC82 hS82 hKp82 hl
                                exact L307 _ H72 locs72 0 0 ls (Nat.lt_succ_self _) (by decide) (by omega) (by omega) hC72 hS72 hKp72 hl
                              · refine lv_aload_n hx hb dX12_yard_279 rfl (lv_at hl 2 rfl) ?_
                                refine q_getC E hC72 g0 fa_RX12_35 uc dX12_yard_280 ?_
                                refine lv_sipush (v := 2214) hx hb dX12_yard_283 rfl ?_
                                refine lv_iload_n hx hb dX12_yard_286 rfl (lv_at hl 0 rfl) ?_
                                refine lv_iadd hx hb dX12_yard_287 (lv_topi (fun v89 ev89 => ?_))
                                have ev89i : v89.toInt = (2214 + z71) := i_add ev89 (by decide) ev71 (by omega) (by omega)
                                refine lv_aload_n hx hb dX12_yard_288 rfl (lv_at hl 2 rfl) ?_
                                refine q_getC E hC72 g0 fa_RX12_35 uc dX12_yard_289 ?_
                                refine lv_sipush (v := 2142) hx hb dX12_yard_292 rfl ?_
                                refine lv_iload_n hx hb dX12_yard_295 rfl (lv_at hl 0 rfl) ?_
                                refine lv_iadd hx hb dX12_yard_296 (lv_topi (fun v90 ev90 => ?_))
                                have ev90i : v90.toInt = (2142 + z71) := i_add ev90 (by decide) ev71 (by omega) (by omega)
                                refine q_cald E hC72 (lo := 0) (hi := 99) gca (a := (2142 + z71)) ev90i (by omega) (by omega) (cr_n26 (by omega) (by omega)) dX12_yard_297 (fun v91 ev91 lv91 uv91 => ?_)
                                refine q_cast E hC72 hS72 gca (a := (2214 + z71)) ev89i (by omega) (by omega) (cs_n134 (a := (2214 + z71)) (by omega) (by omega)) dX12_yard_298 (fun H92 locs92 hC92 hS92 U92 => ?_)
                                have hKp92 := Kp.upD gca rfl rfl (fun _ => ⟨fun h => absurd h (by decide), fun h => absurd h (by decide), fun h => absurd h (by decide)⟩) U92 hKp72
                                have m93 : (sI H92 h0 (X.1.2 11 12)).toInt = (sI H72 h0 (X.1.2 11 12)).toInt := congrArg Int32.toInt (up_nI U92 (ne_k g0 gca (by decide)))
                                have m94 : (sI H92 h0 (X.1.2 11 14)).toInt = (sI H72 h0 (X.1.2 11 14)).toInt := congrArg Int32.toInt (up_nI U92 (ne_k g0 gca (by decide)))
                                have m95 := congrArg tk m94
                                have m96 : (sI H92 h0 (X.1.2 11 16)).toInt = (sI H72 h0 (X.1.2 11 16)).toInt := congrArg Int32.toInt (up_nI U92 (ne_k g0 gca (by decide)))
                                have e97 := up_I U92
                                obtain ⟨v98, ev98⟩ : ∃ z, z = v71 + Int32.ofInt 1 := ⟨_, rfl⟩
                                have ev98i : v98.toInt = (z71 + 1) := i_add ev98 ev71 (by decide) (by omega) (by omega)
                                refine lv_iinc hx hb dX12_yard_299 hl (k := 0) rfl ev98.symm (by decide) rfl (fun ls hl => ?_)
                                have hl : lv_has ls 4 [(3, .int v98), (2, .int v43), (0, .ref h0), (1, .int p1)] := hl
                                refine lv_goto (tgt := 273) hx hb dX12_yard_302 rfl ?_
                                exact ih72 H92 locs92 v98 ((z71 + 1)) ls (by omega) ev98i (by omega) (by omega) hC92 hS92 hKp92 hl
                          exact L273 _ H69 locs69 0 0 ls (Nat.lt_succ_self _) (by decide) (by omega) (by omega) hC69 hS69 hKp69 hl
                        · refine q_if_ne hx hb (a := 0) (by decide) (tgt := 271) dX12_yard_266 rfl (fun c99 => absurd c99 (by omega)) (fun c99 => ?_)
                          refine lv_iconst (v := (-1)) hx hb dX12_yard_269 rfl ?_
                          exact ret (-1) H69 locs69 _ _ dX12_yard_270 ⟨hKp69, trivial⟩ hC69 hS69
                      · refine lv_aload_n hx hb dX12_yard_165 rfl (lv_at hl 1 rfl) ?_
                        refine q_getI E hC65 g0 fa_RX12_120 dX12_yard_166 (fun v100 ev100 _ _ => ?_)
                        have m101 : (sI H65 h0 (X.1.2 11 14)).toInt = v100.toInt := (congrArg Int32.toInt ev100).trans rfl
                        refine q_if_eq hx hb (a := v100.toInt) rfl (tgt := 262) dX12_yard_169 rfl (fun c102 => ?_) (fun c102 => ?_)
                        · refine lv_aload_n hx hb dX12_yard_262 rfl (lv_at hl 1 rfl) ?_
                          refine q_goI (q_runV (As := []) (rest := []) E hC65 hS65 (m_X12_isWell l X Γ H65 hC65 h0 g0 ca gca uc) cw_X12_isWell cl_RX12_267 g0 ⟨rfl, rfl⟩ rfl hl.1 rfl (Nat.zero_le _) (by decide) dX12_yard_263) hS65 (fun v103 H103 locs103 hr103 hC103 hS103 => ?_)
                          obtain ⟨hp103, hr103⟩ := hr103
                          have hKp103 := hKp65.tr (hp103.mono rfl)
                          rcases hr103 with ⟨rfl, f103a⟩ | ⟨rfl, -⟩
                          · refine q_if_ne hx hb (a := 1) (by decide) (tgt := 271) dX12_yard_266 rfl (fun c104 => ?_) (fun c104 => absurd c104 (by omega))
                            refine lv_iconst (v := 0) hx hb dX12_yard_271 rfl ?_
                            refine lv_istore_n hx hb dX12_yard_272 rfl hl (by decide) rfl (fun ls hl => ?_)
                            have hl : lv_has ls 4 [(3, .int 0), (2, .int v43), (0, .ref h0), (1, .int p1)] := hl
                            have L273 : ∀ (n106 : Nat) (H106 : Heap) (locs106 : List Loc) (v105 : Int32) (z105 : Int) (ls : Array Slot), (36 - z105).toNat < n106 → v105.toInt = z105 → z105 ≤ 36 → 0 ≤ z105 → Conf X Γ H106 → va_S (AΓ Γ) H0 H106 locs106 → Kp X Γ [1, 6, 8, 9, 11, 12, 14] H0 H106 → lv_has ls 4 [(3, .int v105), (2, .int v43), (0, .ref h0), (1, .int p1)] → W p l e (rmL 5) s m args below meth c H106 locs106 0 0 Qz (F0 m 273 ls []) := by
                              intro n106
                              induction n106 with
                              | zero => intro H106 locs106 v105 z105 ls hm106 ev105 iv106_0 iv106_1 hC106 hS106 hKp106 hl; exact absurd hm106 (Nat.not_lt_zero _)
                              | succ n106 ih106 =>
                                intro H106 locs106 v105 z105 ls hm106 ev105 iv106_0 iv106_1 hC106 hS106 hKp106 hl
                                refine lv_iload_n hx hb dX12_yard_273 rfl (lv_at hl 0 rfl) ?_
                                refine lv_bipush (v := 36) hx hb dX12_yard_274 rfl ?_
                                refine q_icmp_ge hx hb (a := z105) (b := 36) ev105 (by decide) (tgt := 305) dX12_yard_276 rfl (fun c107 => ?_) (fun c107 => ?_)
                                · refine lv_iconst (v := 0) hx hb dX12_yard_305 rfl ?_
                                  refine lv_istore_n hx hb dX12_yard_306 rfl hl (by decide) rfl (fun ls hl => ?_)
                                  have hl : lv_has ls 4 [(3, .int 0), (2, .int v43), (0, .ref h0), (1, .int p1)] := hl
                                  have L307 : ∀ (n109 : Nat) (H109 : Heap) (locs109 : List Loc) (v108 : Int32) (z108 : Int) (ls : Array Slot), (520 - z108).toNat < n109 → v108.toInt = z108 → z108 ≤ 520 → 0 ≤ z108 → Conf X Γ H109 → va_S (AΓ Γ) H0 H109 locs109 → Kp X Γ [1, 6, 8, 9, 11, 12, 14] H0 H109 → lv_has ls 4 [(3, .int v108), (2, .int v43), (0, .ref h0), (1, .int p1)] → W p l e (rmL 5) s m args below meth c H109 locs109 0 0 Qz (F0 m 307 ls []) := by
                                    intro n109
                                    induction n109 with
                                    | zero => intro H109 locs109 v108 z108 ls hm109 ev108 iv109_0 iv109_1 hC109 hS109 hKp109 hl; exact absurd hm109 (Nat.not_lt_zero _)
                                    | succ n109 ih109 =>
                                      intro H109 locs109 v108 z108 ls hm109 ev108 iv109_0 iv109_1 hC109 hS109 hKp109 hl
                                      refine lv_iload_n hx hb dX12_yard_307 rfl (lv_at hl 0 rfl) ?_
                                      refine lv_sipush (v := 520) hx hb dX12_yard_308 rfl ?_
                                      refine q_icmp_ge hx hb (a := z108) (b := 520) ev108 (by decide) (tgt := 336) dX12_yard_311 rfl (fun c110 => ?_) (fun c110 => ?_)
                                      · refine lv_aload_n hx hb dX12_yard_336 rfl (lv_at hl 2 rfl) ?_
                                        refine q_getC E hC109 g0 fa_RX12_35 uc dX12_yard_337 ?_
                                        refine lv_iconst (v := 0) hx hb dX12_yard_340 rfl ?_
                                        refine q_cald E hC109 (lo := 0) (hi := 6) gca (a := 0) (show (0 : Int32).toInt = 0 from by decide) (by omega) (by omega) (cr_c0 (by omega) (by omega)) dX12_yard_341 (fun v111 ev111 lv111 uv111 => ?_)
                                        refine lv_aload_n hx hb dX12_yard_342 rfl (lv_at hl 2 rfl) ?_
                                        refine q_getC E hC109 g0 fa_RX12_35 uc dX12_yard_343 ?_
                                        refine lv_iconst (v := 1) hx hb dX12_yard_346 rfl ?_
                                        refine q_cald E hC109 (lo := 0) (hi := 6) gca (a := 1) (show (1 : Int32).toInt = 1 from by decide) (by omega) (by omega) (cr_c0 (by omega) (by omega)) dX12_yard_347 (fun v112 ev112 lv112 uv112 => ?_)
                                        refine lv_imul hx hb dX12_yard_348 (lv_topi (fun v113 ev113 => ?_))
                                        exact ret v113 H109 locs109 _ _ dX12_yard_349 ⟨hKp109, trivial⟩ hC109 hS109
                                      · refine lv_aload_n hx hb dX12_yard_314 rfl (lv_at hl 2 rfl) ?_
                                        refine q_getC E hC109 g0 fa_RX12_35 uc dX12_yard_315 ?_
                                        refine lv_iload_n hx hb dX12_yard_318 rfl (lv_at hl 0 rfl) ?_
                                        refine lv_aload_n hx hb dX12_yard_319 rfl (lv_at hl 2 rfl) ?_
                                        refine q_getC E hC109 g0 fa_RX12_35 uc dX12_yard_320 ?_
                                        refine lv_sipush (v := 2080) hx hb dX12_yard_323 rfl ?_
                                        refine lv_iload_n hx hb dX12_yard_326 rfl (lv_at hl 0 rfl) ?_
                                        refine lv_iadd hx hb dX12_yard_327 (lv_topi (fun v114 ev114 => ?_))
                                        have ev114i : v114.toInt = (2080 + z108) := i_add ev114 (by decide) ev108 (by omega) (by omega)
                                        refine q_craw E hC109 gca (a := (2080 + z108)) ev114i (by omega) (by omega) dX12_yard_328 (fun v115 ev115 tv115 => ?_)
                                        refine q_cast E hC109 hS109 gca (a := z108) ev108 (by omega) (by omega) (cT_nb (k := z108) rfl rfl (by omega) (by omega) tv115) dX12_yard_329 (fun H116 locs116 hC116 hS116 U116 => ?_)
                                        have hKp116 := Kp.upD gca rfl rfl (fun _ => ⟨fun h => absurd h (by decide), fun h => absurd h (by decide), fun h => absurd h (by decide)⟩) U116 hKp109
                                        have m117 : (sI H116 h0 (X.1.2 11 12)).toInt = (sI H109 h0 (X.1.2 11 12)).toInt := congrArg Int32.toInt (up_nI U116 (ne_k g0 gca (by decide)))
                                        have m118 : (sI H116 h0 (X.1.2 11 14)).toInt = (sI H109 h0 (X.1.2 11 14)).toInt := congrArg Int32.toInt (up_nI U116 (ne_k g0 gca (by decide)))
                                        have m119 := congrArg tk m118
                                        have m120 : (sI H116 h0 (X.1.2 11 16)).toInt = (sI H109 h0 (X.1.2 11 16)).toInt := congrArg Int32.toInt (up_nI U116 (ne_k g0 gca (by decide)))
                                        have e121 := up_I U116
                                        obtain ⟨v122, ev122⟩ : ∃ z, z = v108 + Int32.ofInt 1 := ⟨_, rfl⟩
                                        have ev122i : v122.toInt = (z108 + 1) := i_add ev122 ev108 (by decide) (by omega) (by omega)
                                        refine lv_iinc hx hb dX12_yard_330 hl (k := 0) rfl ev122.symm (by decide) rfl (fun ls hl => ?_)
                                        have hl : lv_has ls 4 [(3, .int v122), (2, .int v43), (0, .ref h0), (1, .int p1)] := hl
                                        refine lv_goto (tgt := 307) hx hb dX12_yard_333 rfl ?_
                                        exact ih109 H116 locs116 v122 ((z108 + 1)) ls (by omega) ev122i (by omega) (by omega) hC116 hS116 hKp116 hl
                                  exact L307 _ H106 locs106 0 0 ls (Nat.lt_succ_self _) (by decide) (by omega) (by omega) hC106 hS106 hKp106 hl
                                · refine lv_aload_n hx hb dX12_yard_279 rfl (lv_at hl 2 rfl) ?_
                                  refine q_getC E hC106 g0 fa_RX12_35 uc dX12_yard_280 ?_
                                  refine lv_sipush (v := 2214) hx hb dX12_yard_283 rfl ?_
                                  refine lv_iload_n hx hb dX12_yard_286 rfl (lv_at hl 0 rfl) ?_
                                  refine lv_iadd hx hb dX12_yard_287 (lv_topi (fun v123 ev123 => ?_))
                                  have ev123i : v123.toInt = (2214 + z105) := i_add ev123 (by decide) ev105 (by omega) (by omega)
                                  refine lv_aload_n hx hb dX12_yard_288 rfl (lv_at hl 2 rfl) ?_
                                  refine q_getC E hC106 g0 fa_RX12_35 uc dX12_yard_289 ?_
                                  refine lv_sipush (v := 2142) hx hb dX12_yard_292 rfl ?_
                                  refine lv_iload_n hx hb dX12_yard_295 rfl (lv_at hl 0 rfl) ?_
                                  refine lv_iadd hx hb dX12_yard_296 (lv_topi (fun v124 ev124 => ?_))
                                  have ev124i : v124.toInt = (2142 + z105) := i_add ev124 (by decide) ev105 (by omega) (by omega)
                                  refine q_cald E hC106 (lo := 0) (hi := 99) gca (a := (2142 + z105)) ev124i (by omega) (by omega) (cr_n26 (by omega) (by omega)) dX12_yard_297 (fun v125 ev125 lv125 uv125 => ?_)
                                  refine q_cast E hC106 hS106 gca (a := (2214 + z105)) ev123i (by omega) (by omega) (cs_n134 (a := (2214 + z105)) (by omega) (by omega)) dX12_yard_298 (fun H126 locs126 hC126 hS126 U126 => ?_)
                                  have hKp126 := Kp.upD gca rfl rfl (fun _ => ⟨fun h => absurd h (by decide), fun h => absurd h (by decide), fun h => absurd h (by decide)⟩) U126 hKp106
                                  have m127 : (sI H126 h0 (X.1.2 11 12)).toInt = (sI H106 h0 (X.1.2 11 12)).toInt := congrArg Int32.toInt (up_nI U126 (ne_k g0 gca (by decide)))
                                  have m128 : (sI H126 h0 (X.1.2 11 14)).toInt = (sI H106 h0 (X.1.2 11 14)).toInt := congrArg Int32.toInt (up_nI U126 (ne_k g0 gca (by decide)))
                                  have m129 := congrArg tk m128
                                  have m130 : (sI H126 h0 (X.1.2 11 16)).toInt = (sI H106 h0 (X.1.2 11 16)).toInt := congrArg Int32.toInt (up_nI U126 (ne_k g0 gca (by decide)))
                                  have e131 := up_I U126
                                  obtain ⟨v132, ev132⟩ : ∃ z, z = v105 + Int32.ofInt 1 := ⟨_, rfl⟩
                                  have ev132i : v132.toInt = (z105 + 1) := i_add ev132 ev105 (by decide) (by omega) (by omega)
                                  refine lv_iinc hx hb dX12_yard_299 hl (k := 0) rfl ev132.symm (by decide) rfl (fun ls hl => ?_)
                                  have hl : lv_has ls 4 [(3, .int v132), (2, .int v43), (0, .ref h0), (1, .int p1)] := hl
                                  refine lv_goto (tgt := 273) hx hb dX12_yard_302 rfl ?_
                                  exact ih106 H126 locs126 v132 ((z105 + 1)) ls (by omega) ev132i (by omega) (by omega) hC126 hS126 hKp126 hl
                            exact L273 _ H103 locs103 0 0 ls (Nat.lt_succ_self _) (by decide) (by omega) (by omega) hC103 hS103 hKp103 hl
                          · refine q_if_ne hx hb (a := 0) (by decide) (tgt := 271) dX12_yard_266 rfl (fun c133 => absurd c133 (by omega)) (fun c133 => ?_)
                            refine lv_iconst (v := (-1)) hx hb dX12_yard_269 rfl ?_
                            exact ret (-1) H103 locs103 _ _ dX12_yard_270 ⟨hKp103, trivial⟩ hC103 hS103
                        · refine lv_aload_n hx hb dX12_yard_172 rfl (lv_at hl 1 rfl) ?_
                          refine q_goIp (q_runV (As := []) (rest := []) E hC65 hS65 (m_X12_isSchool l X Γ H65 hC65 h0 g0 ca gca uc) cw_X12_isSchool cl_RX12_172 g0 ⟨rfl, rfl⟩ rfl hl.1 rfl (Nat.zero_le _) (by decide) dX12_yard_173) hS65 (fun v134 locs134 hr134 hS134 => ?_)
                          rcases hr134 with rfl | rfl
                          · refine q_if_eq hx hb (a := 0) (by decide) (tgt := 186) dX12_yard_176 rfl (fun c135 => ?_) (fun c135 => absurd c135 (by omega))
                            refine lv_aload_n hx hb dX12_yard_186 rfl (lv_at hl 1 rfl) ?_
                            refine q_goIp (q_runV (As := []) (rest := []) E hC65 hS134 (m_X12_isSnow l X Γ H65 hC65 h0 g0 ca gca uc) cw_X12_isSnow cl_RX12_178 g0 ⟨rfl, rfl⟩ rfl hl.1 rfl (Nat.zero_le _) (by decide) dX12_yard_187) hS134 (fun v136 locs136 hr136 hS136 => ?_)
                            rcases hr136 with rfl | rfl
                            · refine q_if_eq hx hb (a := 0) (by decide) (tgt := 201) dX12_yard_190 rfl (fun c137 => ?_) (fun c137 => absurd c137 (by omega))
                              refine lv_aload_n hx hb dX12_yard_201 rfl (lv_at hl 1 rfl) ?_
                              refine q_goIp (q_runV (As := []) (rest := []) E hC65 hS136 (m_X12_isWall l X Γ H65 hC65 h0 g0 ca gca uc) cw_X12_isWall cl_RX12_163 g0 ⟨rfl, rfl⟩ rfl hl.1 rfl (Nat.zero_le _) (by decide) dX12_yard_202) hS136 (fun v138 locs138 hr138 hS138 => ?_)
                              rcases hr138 with rfl | rfl
                              · refine q_if_eq hx hb (a := 0) (by decide) (tgt := 216) dX12_yard_205 rfl (fun c139 => ?_) (fun c139 => absurd c139 (by omega))
                                refine lv_aload_n hx hb dX12_yard_216 rfl (lv_at hl 1 rfl) ?_
                                refine q_goIp (q_runV (As := []) (rest := []) E hC65 hS138 (m_X12_isSun l X Γ H65 hC65 h0 g0 ca gca uc) cw_X12_isSun cl_RX12_187 g0 ⟨rfl, rfl⟩ rfl hl.1 rfl (Nat.zero_le _) (by decide) dX12_yard_217) hS138 (fun v140 locs140 hr140 hS140 => ?_)
                                rcases hr140 with rfl | rfl
                                · refine q_if_eq hx hb (a := 0) (by decide) (tgt := 231) dX12_yard_220 rfl (fun c141 => ?_) (fun c141 => absurd c141 (by omega))
                                  refine lv_aload_n hx hb dX12_yard_231 rfl (lv_at hl 1 rfl) ?_
                                  refine q_goIp (q_runV (As := []) (rest := []) E hC65 hS140 (m_X12_isNo l X Γ H65 hC65 h0 g0 ca gca uc) cw_X12_isNo cl_RX12_193 g0 ⟨rfl, rfl⟩ rfl hl.1 rfl (Nat.zero_le _) (by decide) dX12_yard_232) hS140 (fun v142 locs142 hr142 hS142 => ?_)
                                  rcases hr142 with rfl | rfl
                                  · refine q_if_eq hx hb (a := 0) (by decide) (tgt := 245) dX12_yard_235 rfl (fun c143 => ?_) (fun c143 => absurd c143 (by omega))
                                    refine lv_aload_n hx hb dX12_yard_245 rfl (lv_at hl 1 rfl) ?_
                                    refine q_goV (q_runV (As := []) (rest := []) E hC65 hS142 (m_X12_wrong l X Γ H65 hC65 h0 g0 ca gca uc) cw_X12_wrong cl_RX12_231 g0 ⟨rfl, rfl⟩ rfl hl.1 rfl (Nat.zero_le _) (by decide) dX12_yard_246) hS142 (fun H144 locs144 hr144 hC144 hS144 => ?_)
                                    obtain ⟨hp144, hr144⟩ := hr144
                                    have hKp144 := hKp65.tr (hp144.mono rfl)
                                    obtain ⟨f144_0, f144_1, f144_2, f144_3⟩ := hr144
                                    refine lv_aload_n hx hb dX12_yard_249 rfl (lv_at hl 1 rfl) ?_
                                    refine lv_aload_n hx hb dX12_yard_250 rfl (lv_at hl 1 rfl) ?_
                                    refine lv_bipush (v := 59) hx hb dX12_yard_251 rfl ?_
                                    have hz9 := tk_or (sI H144 h0 (X.1.2 11 14)).toInt
                                    refine q_goIp (q_runV (As := [.int 59]) (rest := [.ref h0]) E hC144 hS144 (m_X12_isSign l X Γ H144 hC144 h0 g0 59 (a1 := 59) (by decide) ca gca uc) cw_X12_isSign cl_RX12_255 g0 ⟨rfl, rfl⟩ rfl hl.1 rfl (show _ ≤ _ from by simp [Value.category]) (by decide) dX12_yard_253) hS144 (fun v145 locs145 hr145 hS145 => ?_)
                                    have b145 : (v145.toInt = 1 ∧ _) ∨ (v145.toInt = 0 ∧ _) := hr145.imp (fun h => ⟨by rw [h.1]; decide, h.2⟩) (fun h => ⟨by rw [h.1]; decide, h.2⟩)
                                    refine q_goV (q_runV (As := [.int v145]) (rest := []) E hC144 hS145 (m_X12_must l X Γ H144 hC144 h0 g0 v145 (a1 := v145.toInt) rfl ca gca uc (by omega) (by omega)) cw_X12_must cl_RX12_244 g0 ⟨rfl, rfl⟩ rfl hl.1 rfl (Nat.zero_le _) (by decide) dX12_yard_256) hS145 (fun H146 locs146 hr146 hC146 hS146 => ?_)
                                    obtain ⟨hp146, hr146⟩ := hr146
                                    have hKp146 := hKp144.tr (hp146.mono rfl)
                                    obtain ⟨f146_0, f146_1, f146_2, f146_3, f146_4⟩ := hr146
                                    refine lv_goto (tgt := 158) hx hb dX12_yard_259 rfl ?_
                                    exact ih65 H146 locs146 ls (by omega) hC146 hS146 hKp146 hl
                                  · refine q_if_eq hx hb (a := 1) (by decide) (tgt := 245) dX12_yard_235 rfl (fun c147 => absurd c147 (by omega)) (fun c147 => ?_)
                                    refine lv_aload_n hx hb dX12_yard_238 rfl (lv_at hl 1 rfl) ?_
                                    refine q_goV (q_runV (As := []) (rest := []) E hC65 hS142 (m_X12_readArticle l X Γ H65 hC65 h0 g0 ca gca uc) cw_X12_readArticle cl_RX12_264 g0 ⟨rfl, rfl⟩ rfl hl.1 rfl (Nat.zero_le _) (by decide) dX12_yard_239) hS142 (fun H148 locs148 hr148 hC148 hS148 => ?_)
                                    obtain ⟨hp148, hr148⟩ := hr148
                                    have hKp148 := hKp65.tr (hp148.mono rfl)
                                    obtain ⟨f148_0, f148_1, f148_2, f148_3⟩ := hr148
                                    refine lv_goto (tgt := 249) hx hb dX12_yard_242 rfl ?_
                                    refine lv_aload_n hx hb dX12_yard_249 rfl (lv_at hl 1 rfl) ?_
                                    refine lv_aload_n hx hb dX12_yard_250 rfl (lv_at hl 1 rfl) ?_
                                    refine lv_bipush (v := 59) hx hb dX12_yard_251 rfl ?_
                                    have hz9 := tk_or (sI H148 h0 (X.1.2 11 14)).toInt
                                    refine q_goIp (q_runV (As := [.int 59]) (rest := [.ref h0]) E hC148 hS148 (m_X12_isSign l X Γ H148 hC148 h0 g0 59 (a1 := 59) (by decide) ca gca uc) cw_X12_isSign cl_RX12_255 g0 ⟨rfl, rfl⟩ rfl hl.1 rfl (show _ ≤ _ from by simp [Value.category]) (by decide) dX12_yard_253) hS148 (fun v149 locs149 hr149 hS149 => ?_)
                                    have b149 : (v149.toInt = 1 ∧ _) ∨ (v149.toInt = 0 ∧ _) := hr149.imp (fun h => ⟨by rw [h.1]; decide, h.2⟩) (fun h => ⟨by rw [h.1]; decide, h.2⟩)
                                    refine q_goV (q_runV (As := [.int v149]) (rest := []) E hC148 hS149 (m_X12_must l X Γ H148 hC148 h0 g0 v149 (a1 := v149.toInt) rfl ca gca uc (by omega) (by omega)) cw_X12_must cl_RX12_244 g0 ⟨rfl, rfl⟩ rfl hl.1 rfl (Nat.zero_le _) (by decide) dX12_yard_256) hS149 (fun H150 locs150 hr150 hC150 hS150 => ?_)
                                    obtain ⟨hp150, hr150⟩ := hr150
                                    have hKp150 := hKp148.tr (hp150.mono rfl)
                                    obtain ⟨f150_0, f150_1, f150_2, f150_3, f150_4⟩ := hr150
                                    refine lv_goto (tgt := 158) hx hb dX12_yard_259 rfl ?_
                                    exact ih65 H150 locs150 ls (by omega) hC150 hS150 hKp150 hl
                                · refine q_if_eq hx hb (a := 1) (by decide) (tgt := 231) dX12_yard_220 rfl (fun c151 => absurd c151 (by omega)) (fun c151 => ?_)
                                  refine lv_aload_n hx hb dX12_yard_223 rfl (lv_at hl 1 rfl) ?_
                                  refine lv_iconst (v := 2) hx hb dX12_yard_224 rfl ?_
                                  refine q_goV (q_runV (As := [.int 2]) (rest := []) E hC65 hS140 (m_X12_readCell l X Γ H65 hC65 h0 g0 2 (a1 := 2) (by decide) ca gca uc (by omega) (by omega)) cw_X12_readCell cl_RX12_261 g0 ⟨rfl, rfl⟩ rfl hl.1 rfl (Nat.zero_le _) (by decide) dX12_yard_225) hS140 (fun H152 locs152 hr152 hC152 hS152 => ?_)
                                  obtain ⟨hp152, hr152⟩ := hr152
                                  have hKp152 := hKp65.tr (hp152.mono rfl)
                                  obtain ⟨f152_0, f152_1, f152_2, f152_3⟩ := hr152
                                  refine lv_goto (tgt := 249) hx hb dX12_yard_228 rfl ?_
                                  refine lv_aload_n hx hb dX12_yard_249 rfl (lv_at hl 1 rfl) ?_
                                  refine lv_aload_n hx hb dX12_yard_250 rfl (lv_at hl 1 rfl) ?_
                                  refine lv_bipush (v := 59) hx hb dX12_yard_251 rfl ?_
                                  have hz9 := tk_or (sI H152 h0 (X.1.2 11 14)).toInt
                                  refine q_goIp (q_runV (As := [.int 59]) (rest := [.ref h0]) E hC152 hS152 (m_X12_isSign l X Γ H152 hC152 h0 g0 59 (a1 := 59) (by decide) ca gca uc) cw_X12_isSign cl_RX12_255 g0 ⟨rfl, rfl⟩ rfl hl.1 rfl (show _ ≤ _ from by simp [Value.category]) (by decide) dX12_yard_253) hS152 (fun v153 locs153 hr153 hS153 => ?_)
                                  have b153 : (v153.toInt = 1 ∧ _) ∨ (v153.toInt = 0 ∧ _) := hr153.imp (fun h => ⟨by rw [h.1]; decide, h.2⟩) (fun h => ⟨by rw [h.1]; decide, h.2⟩)
                                  refine q_goV (q_runV (As := [.int v153]) (rest := []) E hC152 hS153 (m_X12_must l X Γ H152 hC152 h0 g0 v153 (a1 := v153.toInt) rfl ca gca uc (by omega) (by omega)) cw_X12_must cl_RX12_244 g0 ⟨rfl, rfl⟩ rfl hl.1 rfl (Nat.zero_le _) (by decide) dX12_yard_256) hS153 (fun H154 locs154 hr154 hC154 hS154 => ?_)
                                  obtain ⟨hp154, hr154⟩ := hr154
                                  have hKp154 := hKp152.tr (hp154.mono rfl)
                                  obtain ⟨f154_0, f154_1, f154_2, f154_3, f154_4⟩ := hr154
                                  refine lv_goto (tgt := 158) hx hb dX12_yard_259 rfl ?_
                                  exact ih65 H154 locs154 ls (by omega) hC154 hS154 hKp154 hl
                              · refine q_if_eq hx hb (a := 1) (by decide) (tgt := 216) dX12_yard_205 rfl (fun c155 => absurd c155 (by omega)) (fun c155 => ?_)
                                refine lv_aload_n hx hb dX12_yard_208 rfl (lv_at hl 1 rfl) ?_
                                refine lv_iconst (v := 1) hx hb dX12_yard_209 rfl ?_
                                refine q_goV (q_runV (As := [.int 1]) (rest := []) E hC65 hS138 (m_X12_readCell l X Γ H65 hC65 h0 g0 1 (a1 := 1) (by decide) ca gca uc (by omega) (by omega)) cw_X12_readCell cl_RX12_261 g0 ⟨rfl, rfl⟩ rfl hl.1 rfl (Nat.zero_le _) (by decide) dX12_yard_210) hS138 (fun H156 locs156 hr156 hC156 hS156 => ?_)
                                obtain ⟨hp156, hr156⟩ := hr156
                                have hKp156 := hKp65.tr (hp156.mono rfl)
                                obtain ⟨f156_0, f156_1, f156_2, f156_3⟩ := hr156
                                refine lv_goto (tgt := 249) hx hb dX12_yard_213 rfl ?_
                                refine lv_aload_n hx hb dX12_yard_249 rfl (lv_at hl 1 rfl) ?_
                                refine lv_aload_n hx hb dX12_yard_250 rfl (lv_at hl 1 rfl) ?_
                                refine lv_bipush (v := 59) hx hb dX12_yard_251 rfl ?_
                                have hz9 := tk_or (sI H156 h0 (X.1.2 11 14)).toInt
                                refine q_goIp (q_runV (As := [.int 59]) (rest := [.ref h0]) E hC156 hS156 (m_X12_isSign l X Γ H156 hC156 h0 g0 59 (a1 := 59) (by decide) ca gca uc) cw_X12_isSign cl_RX12_255 g0 ⟨rfl, rfl⟩ rfl hl.1 rfl (show _ ≤ _ from by simp [Value.category]) (by decide) dX12_yard_253) hS156 (fun v157 locs157 hr157 hS157 => ?_)
                                have b157 : (v157.toInt = 1 ∧ _) ∨ (v157.toInt = 0 ∧ _) := hr157.imp (fun h => ⟨by rw [h.1]; decide, h.2⟩) (fun h => ⟨by rw [h.1]; decide, h.2⟩)
                                refine q_goV (q_runV (As := [.int v157]) (rest := []) E hC156 hS157 (m_X12_must l X Γ H156 hC156 h0 g0 v157 (a1 := v157.toInt) rfl ca gca uc (by omega) (by omega)) cw_X12_must cl_RX12_244 g0 ⟨rfl, rfl⟩ rfl hl.1 rfl (Nat.zero_le _) (by decide) dX12_yard_256) hS157 (fun H158 locs158 hr158 hC158 hS158 => ?_)
                                obtain ⟨hp158, hr158⟩ := hr158
                                have hKp158 := hKp156.tr (hp158.mono rfl)
                                obtain ⟨f158_0, f158_1, f158_2, f158_3, f158_4⟩ := hr158
                                refine lv_goto (tgt := 158) hx hb dX12_yard_259 rfl ?_
                                exact ih65 H158 locs158 ls (by omega) hC158 hS158 hKp158 hl
                            · refine q_if_eq hx hb (a := 1) (by decide) (tgt := 201) dX12_yard_190 rfl (fun c159 => absurd c159 (by omega)) (fun c159 => ?_)
                              refine lv_aload_n hx hb dX12_yard_193 rfl (lv_at hl 1 rfl) ?_
                              refine lv_iconst (v := 0) hx hb dX12_yard_194 rfl ?_
                              refine q_goV (q_runV (As := [.int 0]) (rest := []) E hC65 hS136 (m_X12_readCell l X Γ H65 hC65 h0 g0 0 (a1 := 0) (by decide) ca gca uc (by omega) (by omega)) cw_X12_readCell cl_RX12_261 g0 ⟨rfl, rfl⟩ rfl hl.1 rfl (Nat.zero_le _) (by decide) dX12_yard_195) hS136 (fun H160 locs160 hr160 hC160 hS160 => ?_)
                              obtain ⟨hp160, hr160⟩ := hr160
                              have hKp160 := hKp65.tr (hp160.mono rfl)
                              obtain ⟨f160_0, f160_1, f160_2, f160_3⟩ := hr160
                              refine lv_goto (tgt := 249) hx hb dX12_yard_198 rfl ?_
                              refine lv_aload_n hx hb dX12_yard_249 rfl (lv_at hl 1 rfl) ?_
                              refine lv_aload_n hx hb dX12_yard_250 rfl (lv_at hl 1 rfl) ?_
                              refine lv_bipush (v := 59) hx hb dX12_yard_251 rfl ?_
                              have hz9 := tk_or (sI H160 h0 (X.1.2 11 14)).toInt
                              refine q_goIp (q_runV (As := [.int 59]) (rest := [.ref h0]) E hC160 hS160 (m_X12_isSign l X Γ H160 hC160 h0 g0 59 (a1 := 59) (by decide) ca gca uc) cw_X12_isSign cl_RX12_255 g0 ⟨rfl, rfl⟩ rfl hl.1 rfl (show _ ≤ _ from by simp [Value.category]) (by decide) dX12_yard_253) hS160 (fun v161 locs161 hr161 hS161 => ?_)
                              have b161 : (v161.toInt = 1 ∧ _) ∨ (v161.toInt = 0 ∧ _) := hr161.imp (fun h => ⟨by rw [h.1]; decide, h.2⟩) (fun h => ⟨by rw [h.1]; decide, h.2⟩)
                              refine q_goV (q_runV (As := [.int v161]) (rest := []) E hC160 hS161 (m_X12_must l X Γ H160 hC160 h0 g0 v161 (a1 := v161.toInt) rfl ca gca uc (by omega) (by omega)) cw_X12_must cl_RX12_244 g0 ⟨rfl, rfl⟩ rfl hl.1 rfl (Nat.zero_le _) (by decide) dX12_yard_256) hS161 (fun H162 locs162 hr162 hC162 hS162 => ?_)
                              obtain ⟨hp162, hr162⟩ := hr162
                              have hKp162 := hKp160.tr (hp162.mono rfl)
                              obtain ⟨f162_0, f162_1, f162_2, f162_3, f162_4⟩ := hr162
                              refine lv_goto (tgt := 158) hx hb dX12_yard_259 rfl ?_
                              exact ih65 H162 locs162 ls (by omega) hC162 hS162 hKp162 hl
                          · refine q_if_eq hx hb (a := 1) (by decide) (tgt := 186) dX12_yard_176 rfl (fun c163 => absurd c163 (by omega)) (fun c163 => ?_)
                            refine lv_aload_n hx hb dX12_yard_179 rfl (lv_at hl 1 rfl) ?_
                            refine q_goV (q_runV (As := []) (rest := []) E hC65 hS134 (m_X12_readSchool l X Γ H65 hC65 h0 g0 ca gca uc) cw_X12_readSchool cl_RX12_258 g0 ⟨rfl, rfl⟩ rfl hl.1 rfl (Nat.zero_le _) (by decide) dX12_yard_180) hS134 (fun H164 locs164 hr164 hC164 hS164 => ?_)
                            obtain ⟨hp164, hr164⟩ := hr164
                            have hKp164 := hKp65.tr (hp164.mono rfl)
                            obtain ⟨f164_0, f164_1, f164_2, f164_3⟩ := hr164
                            refine lv_goto (tgt := 249) hx hb dX12_yard_183 rfl ?_
                            refine lv_aload_n hx hb dX12_yard_249 rfl (lv_at hl 1 rfl) ?_
                            refine lv_aload_n hx hb dX12_yard_250 rfl (lv_at hl 1 rfl) ?_
                            refine lv_bipush (v := 59) hx hb dX12_yard_251 rfl ?_
                            have hz9 := tk_or (sI H164 h0 (X.1.2 11 14)).toInt
                            refine q_goIp (q_runV (As := [.int 59]) (rest := [.ref h0]) E hC164 hS164 (m_X12_isSign l X Γ H164 hC164 h0 g0 59 (a1 := 59) (by decide) ca gca uc) cw_X12_isSign cl_RX12_255 g0 ⟨rfl, rfl⟩ rfl hl.1 rfl (show _ ≤ _ from by simp [Value.category]) (by decide) dX12_yard_253) hS164 (fun v165 locs165 hr165 hS165 => ?_)
                            have b165 : (v165.toInt = 1 ∧ _) ∨ (v165.toInt = 0 ∧ _) := hr165.imp (fun h => ⟨by rw [h.1]; decide, h.2⟩) (fun h => ⟨by rw [h.1]; decide, h.2⟩)
                            refine q_goV (q_runV (As := [.int v165]) (rest := []) E hC164 hS165 (m_X12_must l X Γ H164 hC164 h0 g0 v165 (a1 := v165.toInt) rfl ca gca uc (by omega) (by omega)) cw_X12_must cl_RX12_244 g0 ⟨rfl, rfl⟩ rfl hl.1 rfl (Nat.zero_le _) (by decide) dX12_yard_256) hS165 (fun H166 locs166 hr166 hC166 hS166 => ?_)
                            obtain ⟨hp166, hr166⟩ := hr166
                            have hKp166 := hKp164.tr (hp166.mono rfl)
                            obtain ⟨f166_0, f166_1, f166_2, f166_3, f166_4⟩ := hr166
                            refine lv_goto (tgt := 158) hx hb dX12_yard_259 rfl ?_
                            exact ih65 H166 locs166 ls (by omega) hC166 hS166 hKp166 hl
                  exact L158 903 H64 locs64 ls (by omega) hC64 hS64 hKp64 hl
                · refine lv_aload_n hx hb dX12_yard_105 rfl (lv_at hl 1 rfl) ?_
                  refine q_getC E hC45 g0 fa_RX12_35 uc dX12_yard_106 ?_
                  refine lv_sipush (v := 2080) hx hb dX12_yard_109 rfl ?_
                  refine q_cald E hC45 (lo := 0) (hi := 6) gca (a := 2080) (show (2080 : Int32).toInt = 2080 from by decide) (by omega) (by omega) (cr_n0 (by omega) (by omega)) dX12_yard_112 (fun v167 ev167 lv167 uv167 => ?_)
                  have qv167 := e50.symm.trans ev167; subst qv167
                  refine lv_iconst (v := 2) hx hb dX12_yard_113 rfl ?_
                  refine lv_irem hx hb dX12_yard_114 (by decide) (lv_topi (fun v168 ev168 => ?_))
                  have ev168i : v168.toInt = (v44.toInt % 2) := i_rem ev168 rfl (by decide) (by omega) (by decide)
                  refine lv_iconst (v := 1) hx hb dX12_yard_115 rfl ?_
                  refine q_icmp_ne hx hb (a := (v44.toInt % 2)) (b := 1) ev168i (by decide) (tgt := 125) dX12_yard_116 rfl (fun c169 => ?_) (fun c169 => ?_)
                  · refine lv_aload_n hx hb dX12_yard_125 rfl (lv_at hl 1 rfl) ?_
                    refine lv_aload_n hx hb dX12_yard_126 rfl (lv_at hl 1 rfl) ?_
                    refine q_goIp (q_runV (As := []) (rest := [.ref h0]) E hC45 hS45 (m_X12_isHigh l X Γ H45 hC45 h0 g0 ca gca uc) cw_X12_isHigh cl_RX12_169 g0 ⟨rfl, rfl⟩ rfl hl.1 rfl (show _ ≤ _ from by simp [Value.category]) (by decide) dX12_yard_127) hS45 (fun v170 locs170 hr170 hS170 => ?_)
                    have b170 : v170.toInt = 0 ∨ v170.toInt = 1 := hr170.imp (fun h => by rw [h]; decide) (fun h => by rw [h]; decide)
                    refine q_goV (q_runV (As := [.int v170]) (rest := []) E hC45 hS170 (m_X12_must l X Γ H45 hC45 h0 g0 v170 (a1 := v170.toInt) rfl ca gca uc (by omega) (by omega)) cw_X12_must cl_RX12_244 g0 ⟨rfl, rfl⟩ rfl hl.1 rfl (Nat.zero_le _) (by decide) dX12_yard_130) hS170 (fun H171 locs171 hr171 hC171 hS171 => ?_)
                    obtain ⟨hp171, hr171⟩ := hr171
                    have hKp171 := hKp45.tr (hp171.mono rfl)
                    obtain ⟨f171_0, f171_1, f171_2, f171_3, f171_4⟩ := hr171
                    refine lv_aload_n hx hb dX12_yard_133 rfl (lv_at hl 1 rfl) ?_
                    refine q_getC E hC171 g0 fa_RX12_35 uc dX12_yard_134 ?_
                    refine lv_sipush (v := 2081) hx hb dX12_yard_137 rfl ?_
                    refine lv_aload_n hx hb dX12_yard_140 rfl (lv_at hl 1 rfl) ?_
                    refine lv_iconst (v := 1) hx hb dX12_yard_141 rfl ?_
                    refine lv_bipush (v := 6) hx hb dX12_yard_142 rfl ?_
                    refine q_goI (q_runV (As := [.int 1, .int 6]) (rest := [.int 2081, .ref ca]) E hC171 hS171 (m_X12_count l X Γ H171 hC171 h0 g0 1 (a1 := 1) (by decide) 6 (a2 := 6) (by decide) ca gca uc (by omega) (by omega) (by omega) (by omega)) cw_X12_count cl_RX12_248 g0 ⟨rfl, rfl⟩ rfl hl.1 rfl (show _ ≤ _ from by simp [Value.category]) (by decide) dX12_yard_144) hS171 (fun v172 H172 locs172 hr172 hC172 hS172 => ?_)
                    obtain ⟨hp172, hr172⟩ := hr172
                    have hKp172 := hKp171.tr (hp172.mono rfl)
                    obtain ⟨f172_0, f172_1, f172_2, f172_3, f172_4, f172_5, f172_6, f172_7⟩ := hr172
                    refine q_cast E hC172 hS172 gca (a := 2081) (show (2081 : Int32).toInt = 2081 from by decide) (by omega) (by omega) (cs_n0 (a := 2081) (b := v172.toInt) (by omega) (by omega) rfl (by omega) (by omega)) dX12_yard_147 (fun H173 locs173 hC173 hS173 U173 => ?_)
                    have hKp173 := Kp.upD gca rfl rfl (fun _ => ⟨fun h => absurd h (by decide), fun h => absurd h (by decide), fun h => absurd h (by decide)⟩) U173 hKp172
                    have m174 : (sI H173 h0 (X.1.2 11 12)).toInt = (sI H172 h0 (X.1.2 11 12)).toInt := congrArg Int32.toInt (up_nI U173 (ne_k g0 gca (by decide)))
                    have m175 : (sI H173 h0 (X.1.2 11 14)).toInt = (sI H172 h0 (X.1.2 11 14)).toInt := congrArg Int32.toInt (up_nI U173 (ne_k g0 gca (by decide)))
                    have m176 := congrArg tk m175
                    have m177 : (sI H173 h0 (X.1.2 11 16)).toInt = (sI H172 h0 (X.1.2 11 16)).toInt := congrArg Int32.toInt (up_nI U173 (ne_k g0 gca (by decide)))
                    have e178 := up_I U173
                    refine lv_aload_n hx hb dX12_yard_148 rfl (lv_at hl 1 rfl) ?_
                    refine lv_aload_n hx hb dX12_yard_149 rfl (lv_at hl 1 rfl) ?_
                    refine lv_bipush (v := 59) hx hb dX12_yard_150 rfl ?_
                    refine q_goIp (q_runV (As := [.int 59]) (rest := [.ref h0]) E hC173 hS173 (m_X12_isSign l X Γ H173 hC173 h0 g0 59 (a1 := 59) (by decide) ca gca uc) cw_X12_isSign cl_RX12_255 g0 ⟨rfl, rfl⟩ rfl hl.1 rfl (show _ ≤ _ from by simp [Value.category]) (by decide) dX12_yard_152) hS173 (fun v179 locs179 hr179 hS179 => ?_)
                    have b179 : (v179.toInt = 1 ∧ _) ∨ (v179.toInt = 0 ∧ _) := hr179.imp (fun h => ⟨by rw [h.1]; decide, h.2⟩) (fun h => ⟨by rw [h.1]; decide, h.2⟩)
                    have hb0 := f_bd hC173 g0 (ci := 11) (k := 16) rfl rfl
                    refine q_goV (q_runV (As := [.int v179]) (rest := []) E hC173 hS179 (m_X12_must l X Γ H173 hC173 h0 g0 v179 (a1 := v179.toInt) rfl ca gca uc (by omega) (by omega)) cw_X12_must cl_RX12_244 g0 ⟨rfl, rfl⟩ rfl hl.1 rfl (Nat.zero_le _) (by decide) dX12_yard_155) hS179 (fun H180 locs180 hr180 hC180 hS180 => ?_)
                    obtain ⟨hp180, hr180⟩ := hr180
                    have hKp180 := hKp173.tr (hp180.mono rfl)
                    obtain ⟨f180_0, f180_1, f180_2, f180_3, f180_4⟩ := hr180
                    have L158 : ∀ (n181 : Nat) (H181 : Heap) (locs181 : List Loc) (ls : Array Slot), 0 < n181 ∧ ((sI H181 h0 (X.1.2 11 12)).toInt ≠ 0 ∨ 902 - (sI H181 h0 (X.1.2 11 16)).toInt < n181) → Conf X Γ H181 → va_S (AΓ Γ) H0 H181 locs181 → Kp X Γ [1, 6, 8, 9, 11, 12, 14] H0 H181 → lv_has ls 4 [(2, .int v43), (0, .ref h0), (1, .int p1)] → W p l e (rmL 5) s m args below meth c H181 locs181 0 0 Qz (F0 m 158 ls []) := by
                      intro n181
                      induction n181 with
                      | zero => intro H181 locs181 ls hm181 hC181 hS181 hKp181 hl; exact absurd hm181 (by omega)
                      | succ n181 ih181 =>
                        intro H181 locs181 ls hm181 hC181 hS181 hKp181 hl
                        have hb1 := f_bd hC181 g0 (ci := 11) (k := 16) rfl rfl
                        have hb2 := f_bd hC181 g0 (ci := 11) (k := 12) rfl rfl
                        refine lv_aload_n hx hb dX12_yard_158 rfl (lv_at hl 1 rfl) ?_
                        refine q_getI E hC181 g0 fa_RX12_218 dX12_yard_159 (fun v182 ev182 lv182 uv182 => ?_)
                        have m183 : (sI H181 h0 (X.1.2 11 12)).toInt = v182.toInt := (congrArg Int32.toInt ev182).trans rfl
                        refine q_if_ne hx hb (a := v182.toInt) rfl (tgt := 262) dX12_yard_162 rfl (fun c184 => ?_) (fun c184 => ?_)
                        · refine lv_aload_n hx hb dX12_yard_262 rfl (lv_at hl 1 rfl) ?_
                          refine q_goI (q_runV (As := []) (rest := []) E hC181 hS181 (m_X12_isWell l X Γ H181 hC181 h0 g0 ca gca uc) cw_X12_isWell cl_RX12_267 g0 ⟨rfl, rfl⟩ rfl hl.1 rfl (Nat.zero_le _) (by decide) dX12_yard_263) hS181 (fun v185 H185 locs185 hr185 hC185 hS185 => ?_)
                          obtain ⟨hp185, hr185⟩ := hr185
                          have hKp185 := hKp181.tr (hp185.mono rfl)
                          rcases hr185 with ⟨rfl, f185a⟩ | ⟨rfl, -⟩
                          · refine q_if_ne hx hb (a := 1) (by decide) (tgt := 271) dX12_yard_266 rfl (fun c186 => ?_) (fun c186 => absurd c186 (by omega))
                            refine lv_iconst (v := 0) hx hb dX12_yard_271 rfl ?_
                            refine lv_istore_n hx hb dX12_yard_272 rfl hl (by decide) rfl (fun ls hl => ?_)
                            have hl : lv_has ls 4 [(3, .int 0), (2, .int v43), (0, .ref h0), (1, .int p1)] := hl
                            have L273 : ∀ (n188 : Nat) (H188 : Heap) (locs188 : List Loc) (v187 : Int32) (z187 : Int) (ls : Array Slot), (36 - z187).toNat < n188 → v187.toInt = z187 → z187 ≤ 36 → 0 ≤ z187 → Conf X Γ H188 → va_S (AΓ Γ) H0 H188 locs188 → Kp X Γ [1, 6, 8, 9, 11, 12, 14] H0 H188 → lv_has ls 4 [(3, .int v187), (2, .int v43), (0, .ref h0), (1, .int p1)] → W p l e (rmL 5) s m args below meth c H188 locs188 0 0 Qz (F0 m 273 ls []) := by
                              intro n188
                              induction n188 with
                              | zero => intro H188 locs188 v187 z187 ls hm188 ev187 iv188_0 iv188_1 hC188 hS188 hKp188 hl; exact absurd hm188 (Nat.not_lt_zero _)
                              | succ n188 ih188 =>
                                intro H188 locs188 v187 z187 ls hm188 ev187 iv188_0 iv188_1 hC188 hS188 hKp188 hl
                                refine lv_iload_n hx hb dX12_yard_273 rfl (lv_at hl 0 rfl) ?_
                                refine lv_bipush (v := 36) hx hb dX12_yard_274 rfl ?_
                                refine q_icmp_ge hx hb (a := z187) (b := 36) ev187 (by decide) (tgt := 305) dX12_yard_276 rfl (fun c189 => ?_) (fun c189 => ?_)
                                · refine lv_iconst (v := 0) hx hb dX12_yard_305 rfl ?_
                                  refine lv_istore_n hx hb dX12_yard_306 rfl hl (by decide) rfl (fun ls hl => ?_)
                                  have hl : lv_has ls 4 [(3, .int 0), (2, .int v43), (0, .ref h0), (1, .int p1)] := hl
                                  have L307 : ∀ (n191 : Nat) (H191 : Heap) (locs191 : List Loc) (v190 : Int32) (z190 : Int) (ls : Array Slot), (520 - z190).toNat < n191 → v190.toInt = z190 → z190 ≤ 520 → 0 ≤ z190 → Conf X Γ H191 → va_S (AΓ Γ) H0 H191 locs191 → Kp X Γ [1, 6, 8, 9, 11, 12, 14] H0 H191 → lv_has ls 4 [(3, .int v190), (2, .int v43), (0, .ref h0), (1, .int p1)] → W p l e (rmL 5) s m args below meth c H191 locs191 0 0 Qz (F0 m 307 ls []) := by
                                    intro n191
                                    induction n191 with
                                    | zero => intro H191 locs191 v190 z190 ls hm191 ev190 iv191_0 iv191_1 hC191 hS191 hKp191 hl; exact absurd hm191 (Nat.not_lt_zero _)
                                    | succ n191 ih191 =>
                                      intro H191 locs191 v190 z190 ls hm191 ev190 iv191_0 iv191_1 hC191 hS191 hKp191 hl
                                      refine lv_iload_n hx hb dX12_yard_307 rfl (lv_at hl 0 rfl) ?_
                                      refine lv_sipush (v := 520) hx hb dX12_yard_308 rfl ?_
                                      refine q_icmp_ge hx hb (a := z190) (b := 520) ev190 (by decide) (tgt := 336) dX12_yard_311 rfl (fun c192 => ?_) (fun c192 => ?_)
                                      · refine lv_aload_n hx hb dX12_yard_336 rfl (lv_at hl 2 rfl) ?_
                                        refine q_getC E hC191 g0 fa_RX12_35 uc dX12_yard_337 ?_
                                        refine lv_iconst (v := 0) hx hb dX12_yard_340 rfl ?_
                                        refine q_cald E hC191 (lo := 0) (hi := 6) gca (a := 0) (show (0 : Int32).toInt = 0 from by decide) (by omega) (by omega) (cr_c0 (by omega) (by omega)) dX12_yard_341 (fun v193 ev193 lv193 uv193 => ?_)
                                        refine lv_aload_n hx hb dX12_yard_342 rfl (lv_at hl 2 rfl) ?_
                                        refine q_getC E hC191 g0 fa_RX12_35 uc dX12_yard_343 ?_
                                        refine lv_iconst (v := 1) hx hb dX12_yard_346 rfl ?_
                                        refine q_cald E hC191 (lo := 0) (hi := 6) gca (a := 1) (show (1 : Int32).toInt = 1 from by decide) (by omega) (by omega) (cr_c0 (by omega) (by omega)) dX12_yard_347 (fun v194 ev194 lv194 uv194 => ?_)
                                        refine lv_imul hx hb dX12_yard_348 (lv_topi (fun v195 ev195 => ?_))
                                        exact ret v195 H191 locs191 _ _ dX12_yard_349 ⟨hKp191, trivial⟩ hC191 hS191
                                      · refine lv_aload_n hx hb dX12_yard_314 rfl (lv_at hl 2 rfl) ?_
                                        refine q_getC E hC191 g0 fa_RX12_35 uc dX12_yard_315 ?_
                                        refine lv_iload_n hx hb dX12_yard_318 rfl (lv_at hl 0 rfl) ?_
                                        refine lv_aload_n hx hb dX12_yard_319 rfl (lv_at hl 2 rfl) ?_
                                        refine q_getC E hC191 g0 fa_RX12_35 uc dX12_yard_320 ?_
                                        refine lv_sipush (v := 2080) hx hb dX12_yard_323 rfl ?_
                                        refine lv_iload_n hx hb dX12_yard_326 rfl (lv_at hl 0 rfl) ?_
                                        refine lv_iadd hx hb dX12_yard_327 (lv_topi (fun v196 ev196 => ?_))
                                        have ev196i : v196.toInt = (2080 + z190) := i_add ev196 (by decide) ev190 (by omega) (by omega)
                                        refine q_craw E hC191 gca (a := (2080 + z190)) ev196i (by omega) (by omega) dX12_yard_328 (fun v197 ev197 tv197 => ?_)
                                        refine q_cast E hC191 hS191 gca (a := z190) ev190 (by omega) (by omega) (cT_nb (k := z190) rfl rfl (by omega) (by omega) tv197) dX12_yard_329 (fun H198 locs198 hC198 hS198 U198 => ?_)
                                        have hKp198 := Kp.upD gca rfl rfl (fun _ => ⟨fun h => absurd h (by decide), fun h => absurd h (by decide), fun h => absurd h (by decide)⟩) U198 hKp191
                                        have m199 : (sI H198 h0 (X.1.2 11 12)).toInt = (sI H191 h0 (X.1.2 11 12)).toInt := congrArg Int32.toInt (up_nI U198 (ne_k g0 gca (by decide)))
                                        have m200 : (sI H198 h0 (X.1.2 11 14)).toInt = (sI H191 h0 (X.1.2 11 14)).toInt := congrArg Int32.toInt (up_nI U198 (ne_k g0 gca (by decide)))
                                        have m201 := congrArg tk m200
                                        have m202 : (sI H198 h0 (X.1.2 11 16)).toInt = (sI H191 h0 (X.1.2 11 16)).toInt := congrArg Int32.toInt (up_nI U198 (ne_k g0 gca (by decide)))
                                        have e203 := up_I U198
                                        obtain ⟨v204, ev204⟩ : ∃ z, z = v190 + Int32.ofInt 1 := ⟨_, rfl⟩
                                        have ev204i : v204.toInt = (z190 + 1) := i_add ev204 ev190 (by decide) (by omega) (by omega)
                                        refine lv_iinc hx hb dX12_yard_330 hl (k := 0) rfl ev204.symm (by decide) rfl (fun ls hl => ?_)
                                        have hl : lv_has ls 4 [(3, .int v204), (2, .int v43), (0, .ref h0), (1, .int p1)] := hl
                                        refine lv_goto (tgt := 307) hx hb dX12_yard_333 rfl ?_
                                        exact ih191 H198 locs198 v204 ((z190 + 1)) ls (by omega) ev204i (by omega) (by omega) hC198 hS198 hKp198 hl
                                  exact L307 _ H188 locs188 0 0 ls (Nat.lt_succ_self _) (by decide) (by omega) (by omega) hC188 hS188 hKp188 hl
                                · refine lv_aload_n hx hb dX12_yard_279 rfl (lv_at hl 2 rfl) ?_
                                  refine q_getC E hC188 g0 fa_RX12_35 uc dX12_yard_280 ?_
                                  refine lv_sipush (v := 2214) hx hb dX12_yard_283 rfl ?_
                                  refine lv_iload_n hx hb dX12_yard_286 rfl (lv_at hl 0 rfl) ?_
                                  refine lv_iadd hx hb dX12_yard_287 (lv_topi (fun v205 ev205 => ?_))
                                  have ev205i : v205.toInt = (2214 + z187) := i_add ev205 (by decide) ev187 (by omega) (by omega)
                                  refine lv_aload_n hx hb dX12_yard_288 rfl (lv_at hl 2 rfl) ?_
                                  refine q_getC E hC188 g0 fa_RX12_35 uc dX12_yard_289 ?_
                                  refine lv_sipush (v := 2142) hx hb dX12_yard_292 rfl ?_
                                  refine lv_iload_n hx hb dX12_yard_295 rfl (lv_at hl 0 rfl) ?_
                                  refine lv_iadd hx hb dX12_yard_296 (lv_topi (fun v206 ev206 => ?_))
                                  have ev206i : v206.toInt = (2142 + z187) := i_add ev206 (by decide) ev187 (by omega) (by omega)
                                  refine q_cald E hC188 (lo := 0) (hi := 99) gca (a := (2142 + z187)) ev206i (by omega) (by omega) (cr_n26 (by omega) (by omega)) dX12_yard_297 (fun v207 ev207 lv207 uv207 => ?_)
                                  refine q_cast E hC188 hS188 gca (a := (2214 + z187)) ev205i (by omega) (by omega) (cs_n134 (a := (2214 + z187)) (by omega) (by omega)) dX12_yard_298 (fun H208 locs208 hC208 hS208 U208 => ?_)
                                  have hKp208 := Kp.upD gca rfl rfl (fun _ => ⟨fun h => absurd h (by decide), fun h => absurd h (by decide), fun h => absurd h (by decide)⟩) U208 hKp188
                                  have m209 : (sI H208 h0 (X.1.2 11 12)).toInt = (sI H188 h0 (X.1.2 11 12)).toInt := congrArg Int32.toInt (up_nI U208 (ne_k g0 gca (by decide)))
                                  have m210 : (sI H208 h0 (X.1.2 11 14)).toInt = (sI H188 h0 (X.1.2 11 14)).toInt := congrArg Int32.toInt (up_nI U208 (ne_k g0 gca (by decide)))
                                  have m211 := congrArg tk m210
                                  have m212 : (sI H208 h0 (X.1.2 11 16)).toInt = (sI H188 h0 (X.1.2 11 16)).toInt := congrArg Int32.toInt (up_nI U208 (ne_k g0 gca (by decide)))
                                  have e213 := up_I U208
                                  obtain ⟨v214, ev214⟩ : ∃ z, z = v187 + Int32.ofInt 1 := ⟨_, rfl⟩
                                  have ev214i : v214.toInt = (z187 + 1) := i_add ev214 ev187 (by decide) (by omega) (by omega)
                                  refine lv_iinc hx hb dX12_yard_299 hl (k := 0) rfl ev214.symm (by decide) rfl (fun ls hl => ?_)
                                  have hl : lv_has ls 4 [(3, .int v214), (2, .int v43), (0, .ref h0), (1, .int p1)] := hl
                                  refine lv_goto (tgt := 273) hx hb dX12_yard_302 rfl ?_
                                  exact ih188 H208 locs208 v214 ((z187 + 1)) ls (by omega) ev214i (by omega) (by omega) hC208 hS208 hKp208 hl
                            exact L273 _ H185 locs185 0 0 ls (Nat.lt_succ_self _) (by decide) (by omega) (by omega) hC185 hS185 hKp185 hl
                          · refine q_if_ne hx hb (a := 0) (by decide) (tgt := 271) dX12_yard_266 rfl (fun c215 => absurd c215 (by omega)) (fun c215 => ?_)
                            refine lv_iconst (v := (-1)) hx hb dX12_yard_269 rfl ?_
                            exact ret (-1) H185 locs185 _ _ dX12_yard_270 ⟨hKp185, trivial⟩ hC185 hS185
                        · refine lv_aload_n hx hb dX12_yard_165 rfl (lv_at hl 1 rfl) ?_
                          refine q_getI E hC181 g0 fa_RX12_120 dX12_yard_166 (fun v216 ev216 _ _ => ?_)
                          have m217 : (sI H181 h0 (X.1.2 11 14)).toInt = v216.toInt := (congrArg Int32.toInt ev216).trans rfl
                          refine q_if_eq hx hb (a := v216.toInt) rfl (tgt := 262) dX12_yard_169 rfl (fun c218 => ?_) (fun c218 => ?_)
                          · refine lv_aload_n hx hb dX12_yard_262 rfl (lv_at hl 1 rfl) ?_
                            refine q_goI (q_runV (As := []) (rest := []) E hC181 hS181 (m_X12_isWell l X Γ H181 hC181 h0 g0 ca gca uc) cw_X12_isWell cl_RX12_267 g0 ⟨rfl, rfl⟩ rfl hl.1 rfl (Nat.zero_le _) (by decide) dX12_yard_263) hS181 (fun v219 H219 locs219 hr219 hC219 hS219 => ?_)
                            obtain ⟨hp219, hr219⟩ := hr219
                            have hKp219 := hKp181.tr (hp219.mono rfl)
                            rcases hr219 with ⟨rfl, f219a⟩ | ⟨rfl, -⟩
                            · refine q_if_ne hx hb (a := 1) (by decide) (tgt := 271) dX12_yard_266 rfl (fun c220 => ?_) (fun c220 => absurd c220 (by omega))
                              refine lv_iconst (v := 0) hx hb dX12_yard_271 rfl ?_
                              refine lv_istore_n hx hb dX12_yard_272 rfl hl (by decide) rfl (fun ls hl => ?_)
                              have hl : lv_has ls 4 [(3, .int 0), (2, .int v43), (0, .ref h0), (1, .int p1)] := hl
                              have L273 : ∀ (n222 : Nat) (H222 : Heap) (locs222 : List Loc) (v221 : Int32) (z221 : Int) (ls : Array Slot), (36 - z221).toNat < n222 → v221.toInt = z221 → z221 ≤ 36 → 0 ≤ z221 → Conf X Γ H222 → va_S (AΓ Γ) H0 H222 locs222 → Kp X Γ [1, 6, 8, 9, 11, 12, 14] H0 H222 → lv_has ls 4 [(3, .int v221), (2, .int v43), (0, .ref h0), (1, .int p1)] → W p l e (rmL 5) s m args below meth c H222 locs222 0 0 Qz (F0 m 273 ls []) := by
                                intro n222
                                induction n222 with
                                | zero => intro H222 locs222 v221 z221 ls hm222 ev221 iv222_0 iv222_1 hC222 hS222 hKp222 hl; exact absurd hm222 (Nat.not_lt_zero _)
                                | succ n222 ih222 =>
                                  intro H222 locs222 v221 z221 ls hm222 ev221 iv222_0 iv222_1 hC222 hS222 hKp222 hl
                                  refine lv_iload_n hx hb dX12_yard_273 rfl (lv_at hl 0 rfl) ?_
                                  refine lv_bipush (v := 36) hx hb dX12_yard_274 rfl ?_
                                  refine q_icmp_ge hx hb (a := z221) (b := 36) ev221 (by decide) (tgt := 305) dX12_yard_276 rfl (fun c223 => ?_) (fun c223 => ?_)
                                  · refine lv_iconst (v := 0) hx hb dX12_yard_305 rfl ?_
                                    refine lv_istore_n hx hb dX12_yard_306 rfl hl (by decide) rfl (fun ls hl => ?_)
                                    have hl : lv_has ls 4 [(3, .int 0), (2, .int v43), (0, .ref h0), (1, .int p1)] := hl
                                    have L307 : ∀ (n225 : Nat) (H225 : Heap) (locs225 : List Loc) (v224 : Int32) (z224 : Int) (ls : Array Slot), (520 - z224).toNat < n225 → v224.toInt = z224 → z224 ≤ 520 → 0 ≤ z224 → Conf X Γ H225 → va_S (AΓ Γ) H0 H225 locs225 → Kp X Γ [1, 6, 8, 9, 11, 12, 14] H0 H225 → lv_has ls 4 [(3, .int v224), (2, .int v43), (0, .ref h0), (1, .int p1)] → W p l e (rmL 5) s m args below meth c H225 locs225 0 0 Qz (F0 m 307 ls []) := by
                                      intro n225
                                      induction n225 with
                                      | zero => intro H225 locs225 v224 z224 ls hm225 ev224 iv225_0 iv225_1 hC225 hS225 hKp225 hl; exact absurd hm225 (Nat.not_lt_zero _)
                                      | succ n225 ih225 =>
                                        intro H225 locs225 v224 z224 ls hm225 ev224 iv225_0 iv225_1 hC225 hS225 hKp225 hl
                                        refine lv_iload_n hx hb dX12_yard_307 rfl (lv_at hl 0 rfl) ?_
                                        refine lv_sipush (v := 520) hx hb dX12_yard_308 rfl ?_
                                        refine q_icmp_ge hx hb (a := z224) (b := 520) ev224 (by decide) (tgt := 336) dX12_yard_311 rfl (fun c226 => ?_) (fun c226 => ?_)
                                        · refine lv_aload_n hx hb dX12_yard_336 rfl (lv_at hl 2 rfl) ?_
                                          refine q_getC E hC225 g0 fa_RX12_35 uc dX12_yard_337 ?_
                                          refine lv_iconst (v := 0) hx hb dX12_yard_340 rfl ?_
                                          refine q_cald E hC225 (lo := 0) (hi := 6) gca (a := 0) (show (0 : Int32).toInt = 0 from by decide) (by omega) (by omega) (cr_c0 (by omega) (by omega)) dX12_yard_341 (fun v227 ev227 lv227 uv227 => ?_)
                                          refine lv_aload_n hx hb dX12_yard_342 rfl (lv_at hl 2 rfl) ?_
                                          refine q_getC E hC225 g0 fa_RX12_35 uc dX12_yard_343 ?_
                                          refine lv_iconst (v := 1) hx hb dX12_yard_346 rfl ?_
                                          refine q_cald E hC225 (lo := 0) (hi := 6) gca (a := 1) (show (1 : Int32).toInt = 1 from by decide) (by omega) (by omega) (cr_c0 (by omega) (by omega)) dX12_yard_347 (fun v228 ev228 lv228 uv228 => ?_)
                                          refine lv_imul hx hb dX12_yard_348 (lv_topi (fun v229 ev229 => ?_))
                                          exact ret v229 H225 locs225 _ _ dX12_yard_349 ⟨hKp225, trivial⟩ hC225 hS225
                                        · refine lv_aload_n hx hb dX12_yard_314 rfl (lv_at hl 2 rfl) ?_
                                          refine q_getC E hC225 g0 fa_RX12_35 uc dX12_yard_315 ?_
                                          refine lv_iload_n hx hb dX12_yard_318 rfl (lv_at hl 0 rfl) ?_
                                          refine lv_aload_n hx hb dX12_yard_319 rfl (lv_at hl 2 rfl) ?_
                                          refine q_getC E hC225 g0 fa_RX12_35 uc dX12_yard_320 ?_
                                          refine lv_sipush (v := 2080) hx hb dX12_yard_323 rfl ?_
                                          refine lv_iload_n hx hb dX12_yard_326 rfl (lv_at hl 0 rfl) ?_
                                          refine lv_iadd hx hb dX12_yard_327 (lv_topi (fun v230 ev230 => ?_))
                                          have ev230i : v230.toInt = (2080 + z224) := i_add ev230 (by decide) ev224 (by omega) (by omega)
                                          refine q_craw E hC225 gca (a := (2080 + z224)) ev230i (by omega) (by omega) dX12_yard_328 (fun v231 ev231 tv231 => ?_)
                                          refine q_cast E hC225 hS225 gca (a := z224) ev224 (by omega) (by omega) (cT_nb (k := z224) rfl rfl (by omega) (by omega) tv231) dX12_yard_329 (fun H232 locs232 hC232 hS232 U232 => ?_)
                                          have hKp232 := Kp.upD gca rfl rfl (fun _ => ⟨fun h => absurd h (by decide), fun h => absurd h (by decide), fun h => absurd h (by decide)⟩) U232 hKp225
                                          have m233 : (sI H232 h0 (X.1.2 11 12)).toInt = (sI H225 h0 (X.1.2 11 12)).toInt := congrArg Int32.toInt (up_nI U232 (ne_k g0 gca (by decide)))
                                          have m234 : (sI H232 h0 (X.1.2 11 14)).toInt = (sI H225 h0 (X.1.2 11 14)).toInt := congrArg Int32.toInt (up_nI U232 (ne_k g0 gca (by decide)))
                                          have m235 := congrArg tk m234
                                          have m236 : (sI H232 h0 (X.1.2 11 16)).toInt = (sI H225 h0 (X.1.2 11 16)).toInt := congrArg Int32.toInt (up_nI U232 (ne_k g0 gca (by decide)))
                                          have e237 := up_I U232
                                          obtain ⟨v238, ev238⟩ : ∃ z, z = v224 + Int32.ofInt 1 := ⟨_, rfl⟩
                                          have ev238i : v238.toInt = (z224 + 1) := i_add ev238 ev224 (by decide) (by omega) (by omega)
                                          refine lv_iinc hx hb dX12_yard_330 hl (k := 0) rfl ev238.symm (by decide) rfl (fun ls hl => ?_)
                                          have hl : lv_has ls 4 [(3, .int v238), (2, .int v43), (0, .ref h0), (1, .int p1)] := hl
                                          refine lv_goto (tgt := 307) hx hb dX12_yard_333 rfl ?_
                                          exact ih225 H232 locs232 v238 ((z224 + 1)) ls (by omega) ev238i (by omega) (by omega) hC232 hS232 hKp232 hl
                                    exact L307 _ H222 locs222 0 0 ls (Nat.lt_succ_self _) (by decide) (by omega) (by omega) hC222 hS222 hKp222 hl
                                  · refine lv_aload_n hx hb dX12_yard_279 rfl (lv_at hl 2 rfl) ?_
                                    refine q_getC E hC222 g0 fa_RX12_35 uc dX12_yard_280 ?_
                                    refine lv_sipush (v := 2214) hx hb dX12_yard_283 rfl ?_
                                    refine lv_iload_n hx hb dX12_yard_286 rfl (lv_at hl 0 rfl) ?_
                                    refine lv_iadd hx hb dX12_yard_287 (lv_topi (fun v239 ev239 => ?_))
                                    have ev239i : v239.toInt = (2214 + z221) := i_add ev239 (by decide) ev221 (by omega) (by omega)
                                    refine lv_aload_n hx hb dX12_yard_288 rfl (lv_at hl 2 rfl) ?_
                                    refine q_getC E hC222 g0 fa_RX12_35 uc dX12_yard_289 ?_
                                    refine lv_sipush (v := 2142) hx hb dX12_yard_292 rfl ?_
                                    refine lv_iload_n hx hb dX12_yard_295 rfl (lv_at hl 0 rfl) ?_
                                    refine lv_iadd hx hb dX12_yard_296 (lv_topi (fun v240 ev240 => ?_))
                                    have ev240i : v240.toInt = (2142 + z221) := i_add ev240 (by decide) ev221 (by omega) (by omega)
                                    refine q_cald E hC222 (lo := 0) (hi := 99) gca (a := (2142 + z221)) ev240i (by omega) (by omega) (cr_n26 (by omega) (by omega)) dX12_yard_297 (fun v241 ev241 lv241 uv241 => ?_)
                                    refine q_cast E hC222 hS222 gca (a := (2214 + z221)) ev239i (by omega) (by omega) (cs_n134 (a := (2214 + z221)) (by omega) (by omega)) dX12_yard_298 (fun H242 locs242 hC242 hS242 U242 => ?_)
                                    have hKp242 := Kp.upD gca rfl rfl (fun _ => ⟨fun h => absurd h (by decide), fun h => absurd h (by decide), fun h => absurd h (by decide)⟩) U242 hKp222
                                    have m243 : (sI H242 h0 (X.1.2 11 12)).toInt = (sI H222 h0 (X.1.2 11 12)).toInt := congrArg Int32.toInt (up_nI U242 (ne_k g0 gca (by decide)))
                                    have m244 : (sI H242 h0 (X.1.2 11 14)).toInt = (sI H222 h0 (X.1.2 11 14)).toInt := congrArg Int32.toInt (up_nI U242 (ne_k g0 gca (by decide)))
                                    have m245 := congrArg tk m244
                                    have m246 : (sI H242 h0 (X.1.2 11 16)).toInt = (sI H222 h0 (X.1.2 11 16)).toInt := congrArg Int32.toInt (up_nI U242 (ne_k g0 gca (by decide)))
                                    have e247 := up_I U242
                                    obtain ⟨v248, ev248⟩ : ∃ z, z = v221 + Int32.ofInt 1 := ⟨_, rfl⟩
                                    have ev248i : v248.toInt = (z221 + 1) := i_add ev248 ev221 (by decide) (by omega) (by omega)
                                    refine lv_iinc hx hb dX12_yard_299 hl (k := 0) rfl ev248.symm (by decide) rfl (fun ls hl => ?_)
                                    have hl : lv_has ls 4 [(3, .int v248), (2, .int v43), (0, .ref h0), (1, .int p1)] := hl
                                    refine lv_goto (tgt := 273) hx hb dX12_yard_302 rfl ?_
                                    exact ih222 H242 locs242 v248 ((z221 + 1)) ls (by omega) ev248i (by omega) (by omega) hC242 hS242 hKp242 hl
                              exact L273 _ H219 locs219 0 0 ls (Nat.lt_succ_self _) (by decide) (by omega) (by omega) hC219 hS219 hKp219 hl
                            · refine q_if_ne hx hb (a := 0) (by decide) (tgt := 271) dX12_yard_266 rfl (fun c249 => absurd c249 (by omega)) (fun c249 => ?_)
                              refine lv_iconst (v := (-1)) hx hb dX12_yard_269 rfl ?_
                              exact ret (-1) H219 locs219 _ _ dX12_yard_270 ⟨hKp219, trivial⟩ hC219 hS219
                          · refine lv_aload_n hx hb dX12_yard_172 rfl (lv_at hl 1 rfl) ?_
                            refine q_goIp (q_runV (As := []) (rest := []) E hC181 hS181 (m_X12_isSchool l X Γ H181 hC181 h0 g0 ca gca uc) cw_X12_isSchool cl_RX12_172 g0 ⟨rfl, rfl⟩ rfl hl.1 rfl (Nat.zero_le _) (by decide) dX12_yard_173) hS181 (fun v250 locs250 hr250 hS250 => ?_)
                            rcases hr250 with rfl | rfl
                            · refine q_if_eq hx hb (a := 0) (by decide) (tgt := 186) dX12_yard_176 rfl (fun c251 => ?_) (fun c251 => absurd c251 (by omega))
                              refine lv_aload_n hx hb dX12_yard_186 rfl (lv_at hl 1 rfl) ?_
                              refine q_goIp (q_runV (As := []) (rest := []) E hC181 hS250 (m_X12_isSnow l X Γ H181 hC181 h0 g0 ca gca uc) cw_X12_isSnow cl_RX12_178 g0 ⟨rfl, rfl⟩ rfl hl.1 rfl (Nat.zero_le _) (by decide) dX12_yard_187) hS250 (fun v252 locs252 hr252 hS252 => ?_)
                              rcases hr252 with rfl | rfl
                              · refine q_if_eq hx hb (a := 0) (by decide) (tgt := 201) dX12_yard_190 rfl (fun c253 => ?_) (fun c253 => absurd c253 (by omega))
                                refine lv_aload_n hx hb dX12_yard_201 rfl (lv_at hl 1 rfl) ?_
                                refine q_goIp (q_runV (As := []) (rest := []) E hC181 hS252 (m_X12_isWall l X Γ H181 hC181 h0 g0 ca gca uc) cw_X12_isWall cl_RX12_163 g0 ⟨rfl, rfl⟩ rfl hl.1 rfl (Nat.zero_le _) (by decide) dX12_yard_202) hS252 (fun v254 locs254 hr254 hS254 => ?_)
                                rcases hr254 with rfl | rfl
                                · refine q_if_eq hx hb (a := 0) (by decide) (tgt := 216) dX12_yard_205 rfl (fun c255 => ?_) (fun c255 => absurd c255 (by omega))
                                  refine lv_aload_n hx hb dX12_yard_216 rfl (lv_at hl 1 rfl) ?_
                                  refine q_goIp (q_runV (As := []) (rest := []) E hC181 hS254 (m_X12_isSun l X Γ H181 hC181 h0 g0 ca gca uc) cw_X12_isSun cl_RX12_187 g0 ⟨rfl, rfl⟩ rfl hl.1 rfl (Nat.zero_le _) (by decide) dX12_yard_217) hS254 (fun v256 locs256 hr256 hS256 => ?_)
                                  rcases hr256 with rfl | rfl
                                  · refine q_if_eq hx hb (a := 0) (by decide) (tgt := 231) dX12_yard_220 rfl (fun c257 => ?_) (fun c257 => absurd c257 (by omega))
                                    refine lv_aload_n hx hb dX12_yard_231 rfl (lv_at hl 1 rfl) ?_
                                    refine q_goIp (q_runV (As := []) (rest := []) E hC181 hS256 (m_X12_isNo l X Γ H181 hC181 h0 g0 ca gca uc) cw_X12_isNo cl_RX12_193 g0 ⟨rfl, rfl⟩ rfl hl.1 rfl (Nat.zero_le _) (by decide) dX12_yard_232) hS256 (fun v258 locs258 hr258 hS258 => ?_)
                                    rcases hr258 with rfl | rfl
                                    · refine q_if_eq hx hb (a := 0) (by decide) (tgt := 245) dX12_yard_235 rfl (fun c259 => ?_) (fun c259 => absurd c259 (by omega))
                                      refine lv_aload_n hx hb dX12_yard_245 rfl (lv_at hl 1 rfl) ?_
                                      refine q_goV (q_runV (As := []) (rest := []) E hC181 hS258 (m_X12_wrong l X Γ H181 hC181 h0 g0 ca gca uc) cw_X12_wrong cl_RX12_231 g0 ⟨rfl, rfl⟩ rfl hl.1 rfl (Nat.zero_le _) (by decide) dX12_yard_246) hS258 (fun H260 locs260 hr260 hC260 hS260 => ?_)
                                      obtain ⟨hp260, hr260⟩ := hr260
                                      have hKp260 := hKp181.tr (hp260.mono rfl)
                                      obtain ⟨f260_0, f260_1, f260_2, f260_3⟩ := hr260
                                      refine lv_aload_n hx hb dX12_yard_249 rfl (lv_at hl 1 rfl) ?_
                                      refine lv_aload_n hx hb dX12_yard_250 rfl (lv_at hl 1 rfl) ?_
                                      refine lv_bipush (v := 59) hx hb dX12_yard_251 rfl ?_
                                      have hz9 := tk_or (sI H260 h0 (X.1.2 11 14)).toInt
                                      refine q_goIp (q_runV (As := [.int 59]) (rest := [.ref h0]) E hC260 hS260 (m_X12_isSign l X Γ H260 hC260 h0 g0 59 (a1 := 59) (by decide) ca gca uc) cw_X12_isSign cl_RX12_255 g0 ⟨rfl, rfl⟩ rfl hl.1 rfl (show _ ≤ _ from by simp [Value.category]) (by decide) dX12_yard_253) hS260 (fun v261 locs261 hr261 hS261 => ?_)
                                      have b261 : (v261.toInt = 1 ∧ _) ∨ (v261.toInt = 0 ∧ _) := hr261.imp (fun h => ⟨by rw [h.1]; decide, h.2⟩) (fun h => ⟨by rw [h.1]; decide, h.2⟩)
                                      refine q_goV (q_runV (As := [.int v261]) (rest := []) E hC260 hS261 (m_X12_must l X Γ H260 hC260 h0 g0 v261 (a1 := v261.toInt) rfl ca gca uc (by omega) (by omega)) cw_X12_must cl_RX12_244 g0 ⟨rfl, rfl⟩ rfl hl.1 rfl (Nat.zero_le _) (by decide) dX12_yard_256) hS261 (fun H262 locs262 hr262 hC262 hS262 => ?_)
                                      obtain ⟨hp262, hr262⟩ := hr262
                                      have hKp262 := hKp260.tr (hp262.mono rfl)
                                      obtain ⟨f262_0, f262_1, f262_2, f262_3, f262_4⟩ := hr262
                                      refine lv_goto (tgt := 158) hx hb dX12_yard_259 rfl ?_
                                      exact ih181 H262 locs262 ls (by omega) hC262 hS262 hKp262 hl
                                    · refine q_if_eq hx hb (a := 1) (by decide) (tgt := 245) dX12_yard_235 rfl (fun c263 => absurd c263 (by omega)) (fun c263 => ?_)
                                      refine lv_aload_n hx hb dX12_yard_238 rfl (lv_at hl 1 rfl) ?_
                                      refine q_goV (q_runV (As := []) (rest := []) E hC181 hS258 (m_X12_readArticle l X Γ H181 hC181 h0 g0 ca gca uc) cw_X12_readArticle cl_RX12_264 g0 ⟨rfl, rfl⟩ rfl hl.1 rfl (Nat.zero_le _) (by decide) dX12_yard_239) hS258 (fun H264 locs264 hr264 hC264 hS264 => ?_)
                                      obtain ⟨hp264, hr264⟩ := hr264
                                      have hKp264 := hKp181.tr (hp264.mono rfl)
                                      obtain ⟨f264_0, f264_1, f264_2, f264_3⟩ := hr264
                                      refine lv_goto (tgt := 249) hx hb dX12_yard_242 rfl ?_
                                      refine lv_aload_n hx hb dX12_yard_249 rfl (lv_at hl 1 rfl) ?_
                                      refine lv_aload_n hx hb dX12_yard_250 rfl (lv_at hl 1 rfl) ?_
                                      refine lv_bipush (v := 59) hx hb dX12_yard_251 rfl ?_
                                      have hz9 := tk_or (sI H264 h0 (X.1.2 11 14)).toInt
                                      refine q_goIp (q_runV (As := [.int 59]) (rest := [.ref h0]) E hC264 hS264 (m_X12_isSign l X Γ H264 hC264 h0 g0 59 (a1 := 59) (by decide) ca gca uc) cw_X12_isSign cl_RX12_255 g0 ⟨rfl, rfl⟩ rfl hl.1 rfl (show _ ≤ _ from by simp [Value.category]) (by decide) dX12_yard_253) hS264 (fun v265 locs265 hr265 hS265 => ?_)
                                      have b265 : (v265.toInt = 1 ∧ _) ∨ (v265.toInt = 0 ∧ _) := hr265.imp (fun h => ⟨by rw [h.1]; decide, h.2⟩) (fun h => ⟨by rw [h.1]; decide, h.2⟩)
                                      refine q_goV (q_runV (As := [.int v265]) (rest := []) E hC264 hS265 (m_X12_must l X Γ H264 hC264 h0 g0 v265 (a1 := v265.toInt) rfl ca gca uc (by omega) (by omega)) cw_X12_must cl_RX12_244 g0 ⟨rfl, rfl⟩ rfl hl.1 rfl (Nat.zero_le _) (by decide) dX12_yard_256) hS265 (fun H266 locs266 hr266 hC266 hS266 => ?_)
                                      obtain ⟨hp266, hr266⟩ := hr266
                                      have hKp266 := hKp264.tr (hp266.mono rfl)
                                      obtain ⟨f266_0, f266_1, f266_2, f266_3, f266_4⟩ := hr266
                                      refine lv_goto (tgt := 158) hx hb dX12_yard_259 rfl ?_
                                      exact ih181 H266 locs266 ls (by omega) hC266 hS266 hKp266 hl
                                  · refine q_if_eq hx hb (a := 1) (by decide) (tgt := 231) dX12_yard_220 rfl (fun c267 => absurd c267 (by omega)) (fun c267 => ?_)
                                    refine lv_aload_n hx hb dX12_yard_223 rfl (lv_at hl 1 rfl) ?_
                                    refine lv_iconst (v := 2) hx hb dX12_yard_224 rfl ?_
                                    refine q_goV (q_runV (As := [.int 2]) (rest := []) E hC181 hS256 (m_X12_readCell l X Γ H181 hC181 h0 g0 2 (a1 := 2) (by decide) ca gca uc (by omega) (by omega)) cw_X12_readCell cl_RX12_261 g0 ⟨rfl, rfl⟩ rfl hl.1 rfl (Nat.zero_le _) (by decide) dX12_yard_225) hS256 (fun H268 locs268 hr268 hC268 hS268 => ?_)
                                    obtain ⟨hp268, hr268⟩ := hr268
                                    have hKp268 := hKp181.tr (hp268.mono rfl)
                                    obtain ⟨f268_0, f268_1, f268_2, f268_3⟩ := hr268
                                    refine lv_goto (tgt := 249) hx hb dX12_yard_228 rfl ?_
                                    refine lv_aload_n hx hb dX12_yard_249 rfl (lv_at hl 1 rfl) ?_
                                    refine lv_aload_n hx hb dX12_yard_250 rfl (lv_at hl 1 rfl) ?_
                                    refine lv_bipush (v := 59) hx hb dX12_yard_251 rfl ?_
                                    have hz9 := tk_or (sI H268 h0 (X.1.2 11 14)).toInt
                                    refine q_goIp (q_runV (As := [.int 59]) (rest := [.ref h0]) E hC268 hS268 (m_X12_isSign l X Γ H268 hC268 h0 g0 59 (a1 := 59) (by decide) ca gca uc) cw_X12_isSign cl_RX12_255 g0 ⟨rfl, rfl⟩ rfl hl.1 rfl (show _ ≤ _ from by simp [Value.category]) (by decide) dX12_yard_253) hS268 (fun v269 locs269 hr269 hS269 => ?_)
                                    have b269 : (v269.toInt = 1 ∧ _) ∨ (v269.toInt = 0 ∧ _) := hr269.imp (fun h => ⟨by rw [h.1]; decide, h.2⟩) (fun h => ⟨by rw [h.1]; decide, h.2⟩)
                                    refine q_goV (q_runV (As := [.int v269]) (rest := []) E hC268 hS269 (m_X12_must l X Γ H268 hC268 h0 g0 v269 (a1 := v269.toInt) rfl ca gca uc (by omega) (by omega)) cw_X12_must cl_RX12_244 g0 ⟨rfl, rfl⟩ rfl hl.1 rfl (Nat.zero_le _) (by decide) dX12_yard_256) hS269 (fun H270 locs270 hr270 hC270 hS270 => ?_)
                                    obtain ⟨hp270, hr270⟩ := hr270
                                    have hKp270 := hKp268.tr (hp270.mono rfl)
                                    obtain ⟨f270_0, f270_1, f270_2, f270_3, f270_4⟩ := hr270
                                    refine lv_goto (tgt := 158) hx hb dX12_yard_259 rfl ?_
                                    exact ih181 H270 locs270 ls (by omega) hC270 hS270 hKp270 hl
                                · refine q_if_eq hx hb (a := 1) (by decide) (tgt := 216) dX12_yard_205 rfl (fun c271 => absurd c271 (by omega)) (fun c271 => ?_)
                                  refine lv_aload_n hx hb dX12_yard_208 rfl (lv_at hl 1 rfl) ?_
                                  refine lv_iconst (v := 1) hx hb dX12_yard_209 rfl ?_
                                  refine q_goV (q_runV (As := [.int 1]) (rest := []) E hC181 hS254 (m_X12_readCell l X Γ H181 hC181 h0 g0 1 (a1 := 1) (by decide) ca gca uc (by omega) (by omega)) cw_X12_readCell cl_RX12_261 g0 ⟨rfl, rfl⟩ rfl hl.1 rfl (Nat.zero_le _) (by decide) dX12_yard_210) hS254 (fun H272 locs272 hr272 hC272 hS272 => ?_)
                                  obtain ⟨hp272, hr272⟩ := hr272
                                  have hKp272 := hKp181.tr (hp272.mono rfl)
                                  obtain ⟨f272_0, f272_1, f272_2, f272_3⟩ := hr272
                                  refine lv_goto (tgt := 249) hx hb dX12_yard_213 rfl ?_
                                  refine lv_aload_n hx hb dX12_yard_249 rfl (lv_at hl 1 rfl) ?_
                                  refine lv_aload_n hx hb dX12_yard_250 rfl (lv_at hl 1 rfl) ?_
                                  refine lv_bipush (v := 59) hx hb dX12_yard_251 rfl ?_
                                  have hz9 := tk_or (sI H272 h0 (X.1.2 11 14)).toInt
                                  refine q_goIp (q_runV (As := [.int 59]) (rest := [.ref h0]) E hC272 hS272 (m_X12_isSign l X Γ H272 hC272 h0 g0 59 (a1 := 59) (by decide) ca gca uc) cw_X12_isSign cl_RX12_255 g0 ⟨rfl, rfl⟩ rfl hl.1 rfl (show _ ≤ _ from by simp [Value.category]) (by decide) dX12_yard_253) hS272 (fun v273 locs273 hr273 hS273 => ?_)
                                  have b273 : (v273.toInt = 1 ∧ _) ∨ (v273.toInt = 0 ∧ _) := hr273.imp (fun h => ⟨by rw [h.1]; decide, h.2⟩) (fun h => ⟨by rw [h.1]; decide, h.2⟩)
                                  refine q_goV (q_runV (As := [.int v273]) (rest := []) E hC272 hS273 (m_X12_must l X Γ H272 hC272 h0 g0 v273 (a1 := v273.toInt) rfl ca gca uc (by omega) (by omega)) cw_X12_must cl_RX12_244 g0 ⟨rfl, rfl⟩ rfl hl.1 rfl (Nat.zero_le _) (by decide) dX12_yard_256) hS273 (fun H274 locs274 hr274 hC274 hS274 => ?_)
                                  obtain ⟨hp274, hr274⟩ := hr274
                                  have hKp274 := hKp272.tr (hp274.mono rfl)
                                  obtain ⟨f274_0, f274_1, f274_2, f274_3, f274_4⟩ := hr274
                                  refine lv_goto (tgt := 158) hx hb dX12_yard_259 rfl ?_
                                  exact ih181 H274 locs274 ls (by omega) hC274 hS274 hKp274 hl
                              · refine q_if_eq hx hb (a := 1) (by decide) (tgt := 201) dX12_yard_190 rfl (fun c275 => absurd c275 (by omega)) (fun c275 => ?_)
                                refine lv_aload_n hx hb dX12_yard_193 rfl (lv_at hl 1 rfl) ?_
                                refine lv_iconst (v := 0) hx hb dX12_yard_194 rfl ?_
                                refine q_goV (q_runV (As := [.int 0]) (rest := []) E hC181 hS252 (m_X12_readCell l X Γ H181 hC181 h0 g0 0 (a1 := 0) (by decide) ca gca uc (by omega) (by omega)) cw_X12_readCell cl_RX12_261 g0 ⟨rfl, rfl⟩ rfl hl.1 rfl (Nat.zero_le _) (by decide) dX12_yard_195) hS252 (fun H276 locs276 hr276 hC276 hS276 => ?_)
                                obtain ⟨hp276, hr276⟩ := hr276
                                have hKp276 := hKp181.tr (hp276.mono rfl)
                                obtain ⟨f276_0, f276_1, f276_2, f276_3⟩ := hr276
                                refine lv_goto (tgt := 249) hx hb dX12_yard_198 rfl ?_
                                refine lv_aload_n hx hb dX12_yard_249 rfl (lv_at hl 1 rfl) ?_
                                refine lv_aload_n hx hb dX12_yard_250 rfl (lv_at hl 1 rfl) ?_
                                refine lv_bipush (v := 59) hx hb dX12_yard_251 rfl ?_
                                have hz9 := tk_or (sI H276 h0 (X.1.2 11 14)).toInt
                                refine q_goIp (q_runV (As := [.int 59]) (rest := [.ref h0]) E hC276 hS276 (m_X12_isSign l X Γ H276 hC276 h0 g0 59 (a1 := 59) (by decide) ca gca uc) cw_X12_isSign cl_RX12_255 g0 ⟨rfl, rfl⟩ rfl hl.1 rfl (show _ ≤ _ from by simp [Value.category]) (by decide) dX12_yard_253) hS276 (fun v277 locs277 hr277 hS277 => ?_)
                                have b277 : (v277.toInt = 1 ∧ _) ∨ (v277.toInt = 0 ∧ _) := hr277.imp (fun h => ⟨by rw [h.1]; decide, h.2⟩) (fun h => ⟨by rw [h.1]; decide, h.2⟩)
                                refine q_goV (q_runV (As := [.int v277]) (rest := []) E hC276 hS277 (m_X12_must l X Γ H276 hC276 h0 g0 v277 (a1 := v277.toInt) rfl ca gca uc (by omega) (by omega)) cw_X12_must cl_RX12_244 g0 ⟨rfl, rfl⟩ rfl hl.1 rfl (Nat.zero_le _) (by decide) dX12_yard_256) hS277 (fun H278 locs278 hr278 hC278 hS278 => ?_)
                                obtain ⟨hp278, hr278⟩ := hr278
                                have hKp278 := hKp276.tr (hp278.mono rfl)
                                obtain ⟨f278_0, f278_1, f278_2, f278_3, f278_4⟩ := hr278
                                refine lv_goto (tgt := 158) hx hb dX12_yard_259 rfl ?_
                                exact ih181 H278 locs278 ls (by omega) hC278 hS278 hKp278 hl
                            · refine q_if_eq hx hb (a := 1) (by decide) (tgt := 186) dX12_yard_176 rfl (fun c279 => absurd c279 (by omega)) (fun c279 => ?_)
                              refine lv_aload_n hx hb dX12_yard_179 rfl (lv_at hl 1 rfl) ?_
                              refine q_goV (q_runV (As := []) (rest := []) E hC181 hS250 (m_X12_readSchool l X Γ H181 hC181 h0 g0 ca gca uc) cw_X12_readSchool cl_RX12_258 g0 ⟨rfl, rfl⟩ rfl hl.1 rfl (Nat.zero_le _) (by decide) dX12_yard_180) hS250 (fun H280 locs280 hr280 hC280 hS280 => ?_)
                              obtain ⟨hp280, hr280⟩ := hr280
                              have hKp280 := hKp181.tr (hp280.mono rfl)
                              obtain ⟨f280_0, f280_1, f280_2, f280_3⟩ := hr280
                              refine lv_goto (tgt := 249) hx hb dX12_yard_183 rfl ?_
                              refine lv_aload_n hx hb dX12_yard_249 rfl (lv_at hl 1 rfl) ?_
                              refine lv_aload_n hx hb dX12_yard_250 rfl (lv_at hl 1 rfl) ?_
                              refine lv_bipush (v := 59) hx hb dX12_yard_251 rfl ?_
                              have hz9 := tk_or (sI H280 h0 (X.1.2 11 14)).toInt
                              refine q_goIp (q_runV (As := [.int 59]) (rest := [.ref h0]) E hC280 hS280 (m_X12_isSign l X Γ H280 hC280 h0 g0 59 (a1 := 59) (by decide) ca gca uc) cw_X12_isSign cl_RX12_255 g0 ⟨rfl, rfl⟩ rfl hl.1 rfl (show _ ≤ _ from by simp [Value.category]) (by decide) dX12_yard_253) hS280 (fun v281 locs281 hr281 hS281 => ?_)
                              have b281 : (v281.toInt = 1 ∧ _) ∨ (v281.toInt = 0 ∧ _) := hr281.imp (fun h => ⟨by rw [h.1]; decide, h.2⟩) (fun h => ⟨by rw [h.1]; decide, h.2⟩)
                              refine q_goV (q_runV (As := [.int v281]) (rest := []) E hC280 hS281 (m_X12_must l X Γ H280 hC280 h0 g0 v281 (a1 := v281.toInt) rfl ca gca uc (by omega) (by omega)) cw_X12_must cl_RX12_244 g0 ⟨rfl, rfl⟩ rfl hl.1 rfl (Nat.zero_le _) (by decide) dX12_yard_256) hS281 (fun H282 locs282 hr282 hC282 hS282 => ?_)
                              obtain ⟨hp282, hr282⟩ := hr282
                              have hKp282 := hKp280.tr (hp282.mono rfl)
                              obtain ⟨f282_0, f282_1, f282_2, f282_3, f282_4⟩ := hr282
                              refine lv_goto (tgt := 158) hx hb dX12_yard_259 rfl ?_
                              exact ih181 H282 locs282 ls (by omega) hC282 hS282 hKp282 hl
                    exact L158 903 H180 locs180 ls (by omega) hC180 hS180 hKp180 hl
                  · refine lv_aload_n hx hb dX12_yard_119 rfl (lv_at hl 1 rfl) ?_
                    refine lv_iconst (v := 4) hx hb dX12_yard_120 rfl ?_
                    refine lv_iload_n hx hb dX12_yard_121 rfl (lv_at hl 0 rfl) ?_
                    refine q_goV (q_runV (As := [.int 4, .int v43]) (rest := []) E hC45 hS45 (m_X12_fail l X Γ H45 hC45 h0 g0 4 (a1 := 4) (by decide) v43 (a2 := v43.toInt) rfl ca gca uc (by omega) (by omega)) cw_X12_fail cl_RX12_224 g0 ⟨rfl, rfl⟩ rfl hl.1 rfl (Nat.zero_le _) (by decide) dX12_yard_122) hS45 (fun H283 locs283 hr283 hC283 hS283 => ?_)
                    obtain ⟨hp283, hr283⟩ := hr283
                    have hKp283 := hKp45.tr (hp283.mono rfl)
                    obtain ⟨f283_0, f283_1, f283_2, f283_3⟩ := hr283
                    refine lv_aload_n hx hb dX12_yard_125 rfl (lv_at hl 1 rfl) ?_
                    refine lv_aload_n hx hb dX12_yard_126 rfl (lv_at hl 1 rfl) ?_
                    refine q_goIp (q_runV (As := []) (rest := [.ref h0]) E hC283 hS283 (m_X12_isHigh l X Γ H283 hC283 h0 g0 ca gca uc) cw_X12_isHigh cl_RX12_169 g0 ⟨rfl, rfl⟩ rfl hl.1 rfl (show _ ≤ _ from by simp [Value.category]) (by decide) dX12_yard_127) hS283 (fun v284 locs284 hr284 hS284 => ?_)
                    have b284 : v284.toInt = 0 ∨ v284.toInt = 1 := hr284.imp (fun h => by rw [h]; decide) (fun h => by rw [h]; decide)
                    refine q_goV (q_runV (As := [.int v284]) (rest := []) E hC283 hS284 (m_X12_must l X Γ H283 hC283 h0 g0 v284 (a1 := v284.toInt) rfl ca gca uc (by omega) (by omega)) cw_X12_must cl_RX12_244 g0 ⟨rfl, rfl⟩ rfl hl.1 rfl (Nat.zero_le _) (by decide) dX12_yard_130) hS284 (fun H285 locs285 hr285 hC285 hS285 => ?_)
                    obtain ⟨hp285, hr285⟩ := hr285
                    have hKp285 := hKp283.tr (hp285.mono rfl)
                    obtain ⟨f285_0, f285_1, f285_2, f285_3, f285_4⟩ := hr285
                    refine lv_aload_n hx hb dX12_yard_133 rfl (lv_at hl 1 rfl) ?_
                    refine q_getC E hC285 g0 fa_RX12_35 uc dX12_yard_134 ?_
                    refine lv_sipush (v := 2081) hx hb dX12_yard_137 rfl ?_
                    refine lv_aload_n hx hb dX12_yard_140 rfl (lv_at hl 1 rfl) ?_
                    refine lv_iconst (v := 1) hx hb dX12_yard_141 rfl ?_
                    refine lv_bipush (v := 6) hx hb dX12_yard_142 rfl ?_
                    refine q_goI (q_runV (As := [.int 1, .int 6]) (rest := [.int 2081, .ref ca]) E hC285 hS285 (m_X12_count l X Γ H285 hC285 h0 g0 1 (a1 := 1) (by decide) 6 (a2 := 6) (by decide) ca gca uc (by omega) (by omega) (by omega) (by omega)) cw_X12_count cl_RX12_248 g0 ⟨rfl, rfl⟩ rfl hl.1 rfl (show _ ≤ _ from by simp [Value.category]) (by decide) dX12_yard_144) hS285 (fun v286 H286 locs286 hr286 hC286 hS286 => ?_)
                    obtain ⟨hp286, hr286⟩ := hr286
                    have hKp286 := hKp285.tr (hp286.mono rfl)
                    obtain ⟨f286_0, f286_1, f286_2, f286_3, f286_4, f286_5, f286_6, f286_7⟩ := hr286
                    refine q_cast E hC286 hS286 gca (a := 2081) (show (2081 : Int32).toInt = 2081 from by decide) (by omega) (by omega) (cs_n0 (a := 2081) (b := v286.toInt) (by omega) (by omega) rfl (by omega) (by omega)) dX12_yard_147 (fun H287 locs287 hC287 hS287 U287 => ?_)
                    have hKp287 := Kp.upD gca rfl rfl (fun _ => ⟨fun h => absurd h (by decide), fun h => absurd h (by decide), fun h => absurd h (by decide)⟩) U287 hKp286
                    have m288 : (sI H287 h0 (X.1.2 11 12)).toInt = (sI H286 h0 (X.1.2 11 12)).toInt := congrArg Int32.toInt (up_nI U287 (ne_k g0 gca (by decide)))
                    have m289 : (sI H287 h0 (X.1.2 11 14)).toInt = (sI H286 h0 (X.1.2 11 14)).toInt := congrArg Int32.toInt (up_nI U287 (ne_k g0 gca (by decide)))
                    have m290 := congrArg tk m289
                    have m291 : (sI H287 h0 (X.1.2 11 16)).toInt = (sI H286 h0 (X.1.2 11 16)).toInt := congrArg Int32.toInt (up_nI U287 (ne_k g0 gca (by decide)))
                    have e292 := up_I U287
                    refine lv_aload_n hx hb dX12_yard_148 rfl (lv_at hl 1 rfl) ?_
                    refine lv_aload_n hx hb dX12_yard_149 rfl (lv_at hl 1 rfl) ?_
                    refine lv_bipush (v := 59) hx hb dX12_yard_150 rfl ?_
                    refine q_goIp (q_runV (As := [.int 59]) (rest := [.ref h0]) E hC287 hS287 (m_X12_isSign l X Γ H287 hC287 h0 g0 59 (a1 := 59) (by decide) ca gca uc) cw_X12_isSign cl_RX12_255 g0 ⟨rfl, rfl⟩ rfl hl.1 rfl (show _ ≤ _ from by simp [Value.category]) (by decide) dX12_yard_152) hS287 (fun v293 locs293 hr293 hS293 => ?_)
                    have b293 : (v293.toInt = 1 ∧ _) ∨ (v293.toInt = 0 ∧ _) := hr293.imp (fun h => ⟨by rw [h.1]; decide, h.2⟩) (fun h => ⟨by rw [h.1]; decide, h.2⟩)
                    have hb0 := f_bd hC287 g0 (ci := 11) (k := 16) rfl rfl
                    refine q_goV (q_runV (As := [.int v293]) (rest := []) E hC287 hS293 (m_X12_must l X Γ H287 hC287 h0 g0 v293 (a1 := v293.toInt) rfl ca gca uc (by omega) (by omega)) cw_X12_must cl_RX12_244 g0 ⟨rfl, rfl⟩ rfl hl.1 rfl (Nat.zero_le _) (by decide) dX12_yard_155) hS293 (fun H294 locs294 hr294 hC294 hS294 => ?_)
                    obtain ⟨hp294, hr294⟩ := hr294
                    have hKp294 := hKp287.tr (hp294.mono rfl)
                    obtain ⟨f294_0, f294_1, f294_2, f294_3, f294_4⟩ := hr294
                    have L158 : ∀ (n295 : Nat) (H295 : Heap) (locs295 : List Loc) (ls : Array Slot), 0 < n295 ∧ ((sI H295 h0 (X.1.2 11 12)).toInt ≠ 0 ∨ 902 - (sI H295 h0 (X.1.2 11 16)).toInt < n295) → Conf X Γ H295 → va_S (AΓ Γ) H0 H295 locs295 → Kp X Γ [1, 6, 8, 9, 11, 12, 14] H0 H295 → lv_has ls 4 [(2, .int v43), (0, .ref h0), (1, .int p1)] → W p l e (rmL 5) s m args below meth c H295 locs295 0 0 Qz (F0 m 158 ls []) := by
                      intro n295
                      induction n295 with
                      | zero => intro H295 locs295 ls hm295 hC295 hS295 hKp295 hl; exact absurd hm295 (by omega)
                      | succ n295 ih295 =>
                        intro H295 locs295 ls hm295 hC295 hS295 hKp295 hl
                        have hb1 := f_bd hC295 g0 (ci := 11) (k := 16) rfl rfl
                        have hb2 := f_bd hC295 g0 (ci := 11) (k := 12) rfl rfl
                        refine lv_aload_n hx hb dX12_yard_158 rfl (lv_at hl 1 rfl) ?_
                        refine q_getI E hC295 g0 fa_RX12_218 dX12_yard_159 (fun v296 ev296 lv296 uv296 => ?_)
                        have m297 : (sI H295 h0 (X.1.2 11 12)).toInt = v296.toInt := (congrArg Int32.toInt ev296).trans rfl
                        refine q_if_ne hx hb (a := v296.toInt) rfl (tgt := 262) dX12_yard_162 rfl (fun c298 => ?_) (fun c298 => ?_)
                        · refine lv_aload_n hx hb dX12_yard_262 rfl (lv_at hl 1 rfl) ?_
                          refine q_goI (q_runV (As := []) (rest := []) E hC295 hS295 (m_X12_isWell l X Γ H295 hC295 h0 g0 ca gca uc) cw_X12_isWell cl_RX12_267 g0 ⟨rfl, rfl⟩ rfl hl.1 rfl (Nat.zero_le _) (by decide) dX12_yard_263) hS295 (fun v299 H299 locs299 hr299 hC299 hS299 => ?_)
                          obtain ⟨hp299, hr299⟩ := hr299
                          have hKp299 := hKp295.tr (hp299.mono rfl)
                          rcases hr299 with ⟨rfl, f299a⟩ | ⟨rfl, -⟩
                          · refine q_if_ne hx hb (a := 1) (by decide) (tgt := 271) dX12_yard_266 rfl (fun c300 => ?_) (fun c300 => absurd c300 (by omega))
                            refine lv_iconst (v := 0) hx hb dX12_yard_271 rfl ?_
                            refine lv_istore_n hx hb dX12_yard_272 rfl hl (by decide) rfl (fun ls hl => ?_)
                            have hl : lv_has ls 4 [(3, .int 0), (2, .int v43), (0, .ref h0), (1, .int p1)] := hl
                            have L273 : ∀ (n302 : Nat) (H302 : Heap) (locs302 : List Loc) (v301 : Int32) (z301 : Int) (ls : Array Slot), (36 - z301).toNat < n302 → v301.toInt = z301 → z301 ≤ 36 → 0 ≤ z301 → Conf X Γ H302 → va_S (AΓ Γ) H0 H302 locs302 → Kp X Γ [1, 6, 8, 9, 11, 12, 14] H0 H302 → lv_has ls 4 [(3, .int v301), (2, .int v43), (0, .ref h0), (1, .int p1)] → W p l e (rmL 5) s m args below meth c H302 locs302 0 0 Qz (F0 m 273 ls []) := by
                              intro n302
                              induction n302 with
                              | zero => intro H302 locs302 v301 z301 ls hm302 ev301 iv302_0 iv302_1 hC302 hS302 hKp302 hl; exact absurd hm302 (Nat.not_lt_zero _)
                              | succ n302 ih302 =>
                                intro H302 locs302 v301 z301 ls hm302 ev301 iv302_0 iv302_1 hC302 hS302 hKp302 hl
                                refine lv_iload_n hx hb dX12_yard_273 rfl (lv_at hl 0 rfl) ?_
                                refine lv_bipush (v := 36) hx hb dX12_yard_274 rfl ?_
                                refine q_icmp_ge hx hb (a := z301) (b := 36) ev301 (by decide) (tgt := 305) dX12_yard_276 rfl (fun c303 => ?_) (fun c303 => ?_)
                                · refine lv_iconst (v := 0) hx hb dX12_yard_305 rfl ?_
                                  refine lv_istore_n hx hb dX12_yard_306 rfl hl (by decide) rfl (fun ls hl => ?_)
                                  have hl : lv_has ls 4 [(3, .int 0), (2, .int v43), (0, .ref h0), (1, .int p1)] := hl
                                  have L307 : ∀ (n305 : Nat) (H305 : Heap) (locs305 : List Loc) (v304 : Int32) (z304 : Int) (ls : Array Slot), (520 - z304).toNat < n305 → v304.toInt = z304 → z304 ≤ 520 → 0 ≤ z304 → Conf X Γ H305 → va_S (AΓ Γ) H0 H305 locs305 → Kp X Γ [1, 6, 8, 9, 11, 12, 14] H0 H305 → lv_has ls 4 [(3, .int v304), (2, .int v43), (0, .ref h0), (1, .int p1)] → W p l e (rmL 5) s m args below meth c H305 locs305 0 0 Qz (F0 m 307 ls []) := by
                                    intro n305
                                    induction n305 with
                                    | zero => intro H305 locs305 v304 z304 ls hm305 ev304 iv305_0 iv305_1 hC305 hS305 hKp305 hl; exact absurd hm305 (Nat.not_lt_zero _)
                                    | succ n305 ih305 =>
                                      intro H305 locs305 v304 z304 ls hm305 ev304 iv305_0 iv305_1 hC305 hS305 hKp305 hl
                                      refine lv_iload_n hx hb dX12_yard_307 rfl (lv_at hl 0 rfl) ?_
                                      refine lv_sipush (v := 520) hx hb dX12_yard_308 rfl ?_
                                      refine q_icmp_ge hx hb (a := z304) (b := 520) ev304 (by decide) (tgt := 336) dX12_yard_311 rfl (fun c306 => ?_) (fun c306 => ?_)
                                      · refine lv_aload_n hx hb dX12_yard_336 rfl (lv_at hl 2 rfl) ?_
                                        refine q_getC E hC305 g0 fa_RX12_35 uc dX12_yard_337 ?_
                                        refine lv_iconst (v := 0) hx hb dX12_yard_340 rfl ?_
                                        refine q_cald E hC305 (lo := 0) (hi := 6) gca (a := 0) (show (0 : Int32).toInt = 0 from by decide) (by omega) (by omega) (cr_c0 (by omega) (by omega)) dX12_yard_341 (fun v307 ev307 lv307 uv307 => ?_)
                                        refine lv_aload_n hx hb dX12_yard_342 rfl (lv_at hl 2 rfl) ?_
                                        refine q_getC E hC305 g0 fa_RX12_35 uc dX12_yard_343 ?_
                                        refine lv_iconst (v := 1) hx hb dX12_yard_346 rfl ?_
                                        refine q_cald E hC305 (lo := 0) (hi := 6) gca (a := 1) (show (1 : Int32).toInt = 1 from by decide) (by omega) (by omega) (cr_c0 (by omega) (by omega)) dX12_yard_347 (fun v308 ev308 lv308 uv308 => ?_)
                                        refine lv_imul hx hb dX12_yard_348 (lv_topi (fun v309 ev309 => ?_))
                                        exact ret v309 H305 locs305 _ _ dX12_yard_349 ⟨hKp305, trivial⟩ hC305 hS305
                                      · refine lv_aload_n hx hb dX12_yard_314 rfl (lv_at hl 2 rfl) ?_
                                        refine q_getC E hC305 g0 fa_RX12_35 uc dX12_yard_315 ?_
                                        refine lv_iload_n hx hb dX12_yard_318 rfl (lv_at hl 0 rfl) ?_
                                        refine lv_aload_n hx hb dX12_yard_319 rfl (lv_at hl 2 rfl) ?_
                                        refine q_getC E hC305 g0 fa_RX12_35 uc dX12_yard_320 ?_
                                        refine lv_sipush (v := 2080) hx hb dX12_yard_323 rfl ?_
                                        refine lv_iload_n hx hb dX12_yard_326 rfl (lv_at hl 0 rfl) ?_
                                        refine lv_iadd hx hb dX12_yard_327 (lv_topi (fun v310 ev310 => ?_))
                                        have ev310i : v310.toInt = (2080 + z304) := i_add ev310 (by decide) ev304 (by omega) (by omega)
                                        refine q_craw E hC305 gca (a := (2080 + z304)) ev310i (by omega) (by omega) dX12_yard_328 (fun v311 ev311 tv311 => ?_)
                                        refine q_cast E hC305 hS305 gca (a := z304) ev304 (by omega) (by omega) (cT_nb (k := z304) rfl rfl (by omega) (by omega) tv311) dX12_yard_329 (fun H312 locs312 hC312 hS312 U312 => ?_)
                                        have hKp312 := Kp.upD gca rfl rfl (fun _ => ⟨fun h => absurd h (by decide), fun h => absurd h (by decide), fun h => absurd h (by decide)⟩) U312 hKp305
                                        have m313 : (sI H312 h0 (X.1.2 11 12)).toInt = (sI H305 h0 (X.1.2 11 12)).toInt := congrArg Int32.toInt (up_nI U312 (ne_k g0 gca (by decide)))
                                        have m314 : (sI H312 h0 (X.1.2 11 14)).toInt = (sI H305 h0 (X.1.2 11 14)).toInt := congrArg Int32.toInt (up_nI U312 (ne_k g0 gca (by decide)))
                                        have m315 := congrArg tk m314
                                        have m316 : (sI H312 h0 (X.1.2 11 16)).toInt = (sI H305 h0 (X.1.2 11 16)).toInt := congrArg Int32.toInt (up_nI U312 (ne_k g0 gca (by decide)))
                                        have e317 := up_I U312
                                        obtain ⟨v318, ev318⟩ : ∃ z, z = v304 + Int32.ofInt 1 := ⟨_, rfl⟩
                                        have ev318i : v318.toInt = (z304 + 1) := i_add ev318 ev304 (by decide) (by omega) (by omega)
                                        refine lv_iinc hx hb dX12_yard_330 hl (k := 0) rfl ev318.symm (by decide) rfl (fun ls hl => ?_)
                                        have hl : lv_has ls 4 [(3, .int v318), (2, .int v43), (0, .ref h0), (1, .int p1)] := hl
                                        refine lv_goto (tgt := 307) hx hb dX12_yard_333 rfl ?_
                                        exact ih305 H312 locs312 v318 ((z304 + 1)) ls (by omega) ev318i (by omega) (by omega) hC312 hS312 hKp312 hl
                                  exact L307 _ H302 locs302 0 0 ls (Nat.lt_succ_self _) (by decide) (by omega) (by omega) hC302 hS302 hKp302 hl
                                · refine lv_aload_n hx hb dX12_yard_279 rfl (lv_at hl 2 rfl) ?_
                                  refine q_getC E hC302 g0 fa_RX12_35 uc dX12_yard_280 ?_
                                  refine lv_sipush (v := 2214) hx hb dX12_yard_283 rfl ?_
                                  refine lv_iload_n hx hb dX12_yard_286 rfl (lv_at hl 0 rfl) ?_
                                  refine lv_iadd hx hb dX12_yard_287 (lv_topi (fun v319 ev319 => ?_))
                                  have ev319i : v319.toInt = (2214 + z301) := i_add ev319 (by decide) ev301 (by omega) (by omega)
                                  refine lv_aload_n hx hb dX12_yard_288 rfl (lv_at hl 2 rfl) ?_
                                  refine q_getC E hC302 g0 fa_RX12_35 uc dX12_yard_289 ?_
                                  refine lv_sipush (v := 2142) hx hb dX12_yard_292 rfl ?_
                                  refine lv_iload_n hx hb dX12_yard_295 rfl (lv_at hl 0 rfl) ?_
                                  refine lv_iadd hx hb dX12_yard_296 (lv_topi (fun v320 ev320 => ?_))
                                  have ev320i : v320.toInt = (2142 + z301) := i_add ev320 (by decide) ev301 (by omega) (by omega)
                                  refine q_cald E hC302 (lo := 0) (hi := 99) gca (a := (2142 + z301)) ev320i (by omega) (by omega) (cr_n26 (by omega) (by omega)) dX12_yard_297 (fun v321 ev321 lv321 uv321 => ?_)
                                  refine q_cast E hC302 hS302 gca (a := (2214 + z301)) ev319i (by omega) (by omega) (cs_n134 (a := (2214 + z301)) (by omega) (by omega)) dX12_yard_298 (fun H322 locs322 hC322 hS322 U322 => ?_)
                                  have hKp322 := Kp.upD gca rfl rfl (fun _ => ⟨fun h => absurd h (by decide), fun h => absurd h (by decide), fun h => absurd h (by decide)⟩) U322 hKp302
                                  have m323 : (sI H322 h0 (X.1.2 11 12)).toInt = (sI H302 h0 (X.1.2 11 12)).toInt := congrArg Int32.toInt (up_nI U322 (ne_k g0 gca (by decide)))
                                  have m324 : (sI H322 h0 (X.1.2 11 14)).toInt = (sI H302 h0 (X.1.2 11 14)).toInt := congrArg Int32.toInt (up_nI U322 (ne_k g0 gca (by decide)))
                                  have m325 := congrArg tk m324
                                  have m326 : (sI H322 h0 (X.1.2 11 16)).toInt = (sI H302 h0 (X.1.2 11 16)).toInt := congrArg Int32.toInt (up_nI U322 (ne_k g0 gca (by decide)))
                                  have e327 := up_I U322
                                  obtain ⟨v328, ev328⟩ : ∃ z, z = v301 + Int32.ofInt 1 := ⟨_, rfl⟩
                                  have ev328i : v328.toInt = (z301 + 1) := i_add ev328 ev301 (by decide) (by omega) (by omega)
                                  refine lv_iinc hx hb dX12_yard_299 hl (k := 0) rfl ev328.symm (by decide) rfl (fun ls hl => ?_)
                                  have hl : lv_has ls 4 [(3, .int v328), (2, .int v43), (0, .ref h0), (1, .int p1)] := hl
                                  refine lv_goto (tgt := 273) hx hb dX12_yard_302 rfl ?_
                                  exact ih302 H322 locs322 v328 ((z301 + 1)) ls (by omega) ev328i (by omega) (by omega) hC322 hS322 hKp322 hl
                            exact L273 _ H299 locs299 0 0 ls (Nat.lt_succ_self _) (by decide) (by omega) (by omega) hC299 hS299 hKp299 hl
                          · refine q_if_ne hx hb (a := 0) (by decide) (tgt := 271) dX12_yard_266 rfl (fun c329 => absurd c329 (by omega)) (fun c329 => ?_)
                            refine lv_iconst (v := (-1)) hx hb dX12_yard_269 rfl ?_
                            exact ret (-1) H299 locs299 _ _ dX12_yard_270 ⟨hKp299, trivial⟩ hC299 hS299
                        · refine lv_aload_n hx hb dX12_yard_165 rfl (lv_at hl 1 rfl) ?_
                          refine q_getI E hC295 g0 fa_RX12_120 dX12_yard_166 (fun v330 ev330 _ _ => ?_)
                          have m331 : (sI H295 h0 (X.1.2 11 14)).toInt = v330.toInt := (congrArg Int32.toInt ev330).trans rfl
                          refine q_if_eq hx hb (a := v330.toInt) rfl (tgt := 262) dX12_yard_169 rfl (fun c332 => ?_) (fun c332 => ?_)
                          · refine lv_aload_n hx hb dX12_yard_262 rfl (lv_at hl 1 rfl) ?_
                            refine q_goI (q_runV (As := []) (rest := []) E hC295 hS295 (m_X12_isWell l X Γ H295 hC295 h0 g0 ca gca uc) cw_X12_isWell cl_RX12_267 g0 ⟨rfl, rfl⟩ rfl hl.1 rfl (Nat.zero_le _) (by decide) dX12_yard_263) hS295 (fun v333 H333 locs333 hr333 hC333 hS333 => ?_)
                            obtain ⟨hp333, hr333⟩ := hr333
                            have hKp333 := hKp295.tr (hp333.mono rfl)
                            rcases hr333 with ⟨rfl, f333a⟩ | ⟨rfl, -⟩
                            · refine q_if_ne hx hb (a := 1) (by decide) (tgt := 271) dX12_yard_266 rfl (fun c334 => ?_) (fun c334 => absurd c334 (by omega))
                              refine lv_iconst (v := 0) hx hb dX12_yard_271 rfl ?_
                              refine lv_istore_n hx hb dX12_yard_272 rfl hl (by decide) rfl (fun ls hl => ?_)
                              have hl : lv_has ls 4 [(3, .int 0), (2, .int v43), (0, .ref h0), (1, .int p1)] := hl
                              have L273 : ∀ (n336 : Nat) (H336 : Heap) (locs336 : List Loc) (v335 : Int32) (z335 : Int) (ls : Array Slot), (36 - z335).toNat < n336 → v335.toInt = z335 → z335 ≤ 36 → 0 ≤ z335 → Conf X Γ H336 → va_S (AΓ Γ) H0 H336 locs336 → Kp X Γ [1, 6, 8, 9, 11, 12, 14] H0 H336 → lv_has ls 4 [(3, .int v335), (2, .int v43), (0, .ref h0), (1, .int p1)] → W p l e (rmL 5) s m args below meth c H336 locs336 0 0 Qz (F0 m 273 ls []) := by
                                intro n336
                                induction n336 with
                                | zero => intro H336 locs336 v335 z335 ls hm336 ev335 iv336_0 iv336_1 hC336 hS336 hKp336 hl; exact absurd hm336 (Nat.not_lt_zero _)
                                | succ n336 ih336 =>
                                  intro H336 locs336 v335 z335 ls hm336 ev335 iv336_0 iv336_1 hC336 hS336 hKp336 hl
                                  refine lv_iload_n hx hb dX12_yard_273 rfl (lv_at hl 0 rfl) ?_
                                  refine lv_bipush (v := 36) hx hb dX12_yard_274 rfl ?_
                                  refine q_icmp_ge hx hb (a := z335) (b := 36) ev335 (by decide) (tgt := 305) dX12_yard_276 rfl (fun c337 => ?_) (fun c337 => ?_)
                                  · refine lv_iconst (v := 0) hx hb dX12_yard_305 rfl ?_
                                    refine lv_istore_n hx hb dX12_yard_306 rfl hl (by decide) rfl (fun ls hl => ?_)
                                    have hl : lv_has ls 4 [(3, .int 0), (2, .int v43), (0, .ref h0), (1, .int p1)] := hl
                                    have L307 : ∀ (n339 : Nat) (H339 : Heap) (locs339 : List Loc) (v338 : Int32) (z338 : Int) (ls : Array Slot), (520 - z338).toNat < n339 → v338.toInt = z338 → z338 ≤ 520 → 0 ≤ z338 → Conf X Γ H339 → va_S (AΓ Γ) H0 H339 locs339 → Kp X Γ [1, 6, 8, 9, 11, 12, 14] H0 H339 → lv_has ls 4 [(3, .int v338), (2, .int v43), (0, .ref h0), (1, .int p1)] → W p l e (rmL 5) s m args below meth c H339 locs339 0 0 Qz (F0 m 307 ls []) := by
                                      intro n339
                                      induction n339 with
                                      | zero => intro H339 locs339 v338 z338 ls hm339 ev338 iv339_0 iv339_1 hC339 hS339 hKp339 hl; exact absurd hm339 (Nat.not_lt_zero _)
                                      | succ n339 ih339 =>
                                        intro H339 locs339 v338 z338 ls hm339 ev338 iv339_0 iv339_1 hC339 hS339 hKp339 hl
                                        refine lv_iload_n hx hb dX12_yard_307 rfl (lv_at hl 0 rfl) ?_
                                        refine lv_sipush (v := 520) hx hb dX12_yard_308 rfl ?_
                                        refine q_icmp_ge hx hb (a := z338) (b := 520) ev338 (by decide) (tgt := 336) dX12_yard_311 rfl (fun c340 => ?_) (fun c340 => ?_)
                                        · refine lv_aload_n hx hb dX12_yard_336 rfl (lv_at hl 2 rfl) ?_
                                          refine q_getC E hC339 g0 fa_RX12_35 uc dX12_yard_337 ?_
                                          refine lv_iconst (v := 0) hx hb dX12_yard_340 rfl ?_
                                          refine q_cald E hC339 (lo := 0) (hi := 6) gca (a := 0) (show (0 : Int32).toInt = 0 from by decide) (by omega) (by omega) (cr_c0 (by omega) (by omega)) dX12_yard_341 (fun v341 ev341 lv341 uv341 => ?_)
                                          refine lv_aload_n hx hb dX12_yard_342 rfl (lv_at hl 2 rfl) ?_
                                          refine q_getC E hC339 g0 fa_RX12_35 uc dX12_yard_343 ?_
                                          refine lv_iconst (v := 1) hx hb dX12_yard_346 rfl ?_
                                          refine q_cald E hC339 (lo := 0) (hi := 6) gca (a := 1) (show (1 : Int32).toInt = 1 from by decide) (by omega) (by omega) (cr_c0 (by omega) (by omega)) dX12_yard_347 (fun v342 ev342 lv342 uv342 => ?_)
                                          refine lv_imul hx hb dX12_yard_348 (lv_topi (fun v343 ev343 => ?_))
                                          exact ret v343 H339 locs339 _ _ dX12_yard_349 ⟨hKp339, trivial⟩ hC339 hS339
                                        · refine lv_aload_n hx hb dX12_yard_314 rfl (lv_at hl 2 rfl) ?_
                                          refine q_getC E hC339 g0 fa_RX12_35 uc dX12_yard_315 ?_
                                          refine lv_iload_n hx hb dX12_yard_318 rfl (lv_at hl 0 rfl) ?_
                                          refine lv_aload_n hx hb dX12_yard_319 rfl (lv_at hl 2 rfl) ?_
                                          refine q_getC E hC339 g0 fa_RX12_35 uc dX12_yard_320 ?_
                                          refine lv_sipush (v := 2080) hx hb dX12_yard_323 rfl ?_
                                          refine lv_iload_n hx hb dX12_yard_326 rfl (lv_at hl 0 rfl) ?_
                                          refine lv_iadd hx hb dX12_yard_327 (lv_topi (fun v344 ev344 => ?_))
                                          have ev344i : v344.toInt = (2080 + z338) := i_add ev344 (by decide) ev338 (by omega) (by omega)
                                          refine q_craw E hC339 gca (a := (2080 + z338)) ev344i (by omega) (by omega) dX12_yard_328 (fun v345 ev345 tv345 => ?_)
                                          refine q_cast E hC339 hS339 gca (a := z338) ev338 (by omega) (by omega) (cT_nb (k := z338) rfl rfl (by omega) (by omega) tv345) dX12_yard_329 (fun H346 locs346 hC346 hS346 U346 => ?_)
                                          have hKp346 := Kp.upD gca rfl rfl (fun _ => ⟨fun h => absurd h (by decide), fun h => absurd h (by decide), fun h => absurd h (by decide)⟩) U346 hKp339
                                          have m347 : (sI H346 h0 (X.1.2 11 12)).toInt = (sI H339 h0 (X.1.2 11 12)).toInt := congrArg Int32.toInt (up_nI U346 (ne_k g0 gca (by decide)))
                                          have m348 : (sI H346 h0 (X.1.2 11 14)).toInt = (sI H339 h0 (X.1.2 11 14)).toInt := congrArg Int32.toInt (up_nI U346 (ne_k g0 gca (by decide)))
                                          have m349 := congrArg tk m348
                                          have m350 : (sI H346 h0 (X.1.2 11 16)).toInt = (sI H339 h0 (X.1.2 11 16)).toInt := congrArg Int32.toInt (up_nI U346 (ne_k g0 gca (by decide)))
                                          have e351 := up_I U346
                                          obtain ⟨v352, ev352⟩ : ∃ z, z = v338 + Int32.ofInt 1 := ⟨_, rfl⟩
                                          have ev352i : v352.toInt = (z338 + 1) := i_add ev352 ev338 (by decide) (by omega) (by omega)
                                          refine lv_iinc hx hb dX12_yard_330 hl (k := 0) rfl ev352.symm (by decide) rfl (fun ls hl => ?_)
                                          have hl : lv_has ls 4 [(3, .int v352), (2, .int v43), (0, .ref h0), (1, .int p1)] := hl
                                          refine lv_goto (tgt := 307) hx hb dX12_yard_333 rfl ?_
                                          exact ih339 H346 locs346 v352 ((z338 + 1)) ls (by omega) ev352i (by omega) (by omega) hC346 hS346 hKp346 hl
                                    exact L307 _ H336 locs336 0 0 ls (Nat.lt_succ_self _) (by decide) (by omega) (by omega) hC336 hS336 hKp336 hl
                                  · refine lv_aload_n hx hb dX12_yard_279 rfl (lv_at hl 2 rfl) ?_
                                    refine q_getC E hC336 g0 fa_RX12_35 uc dX12_yard_280 ?_
                                    refine lv_sipush (v := 2214) hx hb dX12_yard_283 rfl ?_
                                    refine lv_iload_n hx hb dX12_yard_286 rfl (lv_at hl 0 rfl) ?_
                                    refine lv_iadd hx hb dX12_yard_287 (lv_topi (fun v353 ev353 => ?_))
                                    have ev353i : v353.toInt = (2214 + z335) := i_add ev353 (by decide) ev335 (by omega) (by omega)
                                    refine lv_aload_n hx hb dX12_yard_288 rfl (lv_at hl 2 rfl) ?_
                                    refine q_getC E hC336 g0 fa_RX12_35 uc dX12_yard_289 ?_
                                    refine lv_sipush (v := 2142) hx hb dX12_yard_292 rfl ?_
                                    refine lv_iload_n hx hb dX12_yard_295 rfl (lv_at hl 0 rfl) ?_
                                    refine lv_iadd hx hb dX12_yard_296 (lv_topi (fun v354 ev354 => ?_))
                                    have ev354i : v354.toInt = (2142 + z335) := i_add ev354 (by decide) ev335 (by omega) (by omega)
                                    refine q_cald E hC336 (lo := 0) (hi := 99) gca (a := (2142 + z335)) ev354i (by omega) (by omega) (cr_n26 (by omega) (by omega)) dX12_yard_297 (fun v355 ev355 lv355 uv355 => ?_)
                                    refine q_cast E hC336 hS336 gca (a := (2214 + z335)) ev353i (by omega) (by omega) (cs_n134 (a := (2214 + z335)) (by omega) (by omega)) dX12_yard_298 (fun H356 locs356 hC356 hS356 U356 => ?_)
                                    have hKp356 := Kp.upD gca rfl rfl (fun _ => ⟨fun h => absurd h (by decide), fun h => absurd h (by decide), fun h => absurd h (by decide)⟩) U356 hKp336
                                    have m357 : (sI H356 h0 (X.1.2 11 12)).toInt = (sI H336 h0 (X.1.2 11 12)).toInt := congrArg Int32.toInt (up_nI U356 (ne_k g0 gca (by decide)))
                                    have m358 : (sI H356 h0 (X.1.2 11 14)).toInt = (sI H336 h0 (X.1.2 11 14)).toInt := congrArg Int32.toInt (up_nI U356 (ne_k g0 gca (by decide)))
                                    have m359 := congrArg tk m358
                                    have m360 : (sI H356 h0 (X.1.2 11 16)).toInt = (sI H336 h0 (X.1.2 11 16)).toInt := congrArg Int32.toInt (up_nI U356 (ne_k g0 gca (by decide)))
                                    have e361 := up_I U356
                                    obtain ⟨v362, ev362⟩ : ∃ z, z = v335 + Int32.ofInt 1 := ⟨_, rfl⟩
                                    have ev362i : v362.toInt = (z335 + 1) := i_add ev362 ev335 (by decide) (by omega) (by omega)
                                    refine lv_iinc hx hb dX12_yard_299 hl (k := 0) rfl ev362.symm (by decide) rfl (fun ls hl => ?_)
                                    have hl : lv_has ls 4 [(3, .int v362), (2, .int v43), (0, .ref h0), (1, .int p1)] := hl
                                    refine lv_goto (tgt := 273) hx hb dX12_yard_302 rfl ?_
                                    exact ih336 H356 locs356 v362 ((z335 + 1)) ls (by omega) ev362i (by omega) (by omega) hC356 hS356 hKp356 hl
                              exact L273 _ H333 locs333 0 0 ls (Nat.lt_succ_self _) (by decide) (by omega) (by omega) hC333 hS333 hKp333 hl
                            · refine q_if_ne hx hb (a := 0) (by decide) (tgt := 271) dX12_yard_266 rfl (fun c363 => absurd c363 (by omega)) (fun c363 => ?_)
                              refine lv_iconst (v := (-1)) hx hb dX12_yard_269 rfl ?_
                              exact ret (-1) H333 locs333 _ _ dX12_yard_270 ⟨hKp333, trivial⟩ hC333 hS333
                          · refine lv_aload_n hx hb dX12_yard_172 rfl (lv_at hl 1 rfl) ?_
                            refine q_goIp (q_runV (As := []) (rest := []) E hC295 hS295 (m_X12_isSchool l X Γ H295 hC295 h0 g0 ca gca uc) cw_X12_isSchool cl_RX12_172 g0 ⟨rfl, rfl⟩ rfl hl.1 rfl (Nat.zero_le _) (by decide) dX12_yard_173) hS295 (fun v364 locs364 hr364 hS364 => ?_)
                            rcases hr364 with rfl | rfl
                            · refine q_if_eq hx hb (a := 0) (by decide) (tgt := 186) dX12_yard_176 rfl (fun c365 => ?_) (fun c365 => absurd c365 (by omega))
                              refine lv_aload_n hx hb dX12_yard_186 rfl (lv_at hl 1 rfl) ?_
                              refine q_goIp (q_runV (As := []) (rest := []) E hC295 hS364 (m_X12_isSnow l X Γ H295 hC295 h0 g0 ca gca uc) cw_X12_isSnow cl_RX12_178 g0 ⟨rfl, rfl⟩ rfl hl.1 rfl (Nat.zero_le _) (by decide) dX12_yard_187) hS364 (fun v366 locs366 hr366 hS366 => ?_)
                              rcases hr366 with rfl | rfl
                              · refine q_if_eq hx hb (a := 0) (by decide) (tgt := 201) dX12_yard_190 rfl (fun c367 => ?_) (fun c367 => absurd c367 (by omega))
                                refine lv_aload_n hx hb dX12_yard_201 rfl (lv_at hl 1 rfl) ?_
                                refine q_goIp (q_runV (As := []) (rest := []) E hC295 hS366 (m_X12_isWall l X Γ H295 hC295 h0 g0 ca gca uc) cw_X12_isWall cl_RX12_163 g0 ⟨rfl, rfl⟩ rfl hl.1 rfl (Nat.zero_le _) (by decide) dX12_yard_202) hS366 (fun v368 locs368 hr368 hS368 => ?_)
                                rcases hr368 with rfl | rfl
                                · refine q_if_eq hx hb (a := 0) (by decide) (tgt := 216) dX12_yard_205 rfl (fun c369 => ?_) (fun c369 => absurd c369 (by omega))
                                  refine lv_aload_n hx hb dX12_yard_216 rfl (lv_at hl 1 rfl) ?_
                                  refine q_goIp (q_runV (As := []) (rest := []) E hC295 hS368 (m_X12_isSun l X Γ H295 hC295 h0 g0 ca gca uc) cw_X12_isSun cl_RX12_187 g0 ⟨rfl, rfl⟩ rfl hl.1 rfl (Nat.zero_le _) (by decide) dX12_yard_217) hS368 (fun v370 locs370 hr370 hS370 => ?_)
                                  rcases hr370 with rfl | rfl
                                  · refine q_if_eq hx hb (a := 0) (by decide) (tgt := 231) dX12_yard_220 rfl (fun c371 => ?_) (fun c371 => absurd c371 (by omega))
                                    refine lv_aload_n hx hb dX12_yard_231 rfl (lv_at hl 1 rfl) ?_
                                    refine q_goIp (q_runV (As := []) (rest := []) E hC295 hS370 (m_X12_isNo l X Γ H295 hC295 h0 g0 ca gca uc) cw_X12_isNo cl_RX12_193 g0 ⟨rfl, rfl⟩ rfl hl.1 rfl (Nat.zero_le _) (by decide) dX12_yard_232) hS370 (fun v372 locs372 hr372 hS372 => ?_)
                                    rcases hr372 with rfl | rfl
                                    · refine q_if_eq hx hb (a := 0) (by decide) (tgt := 245) dX12_yard_235 rfl (fun c373 => ?_) (fun c373 => absurd c373 (by omega))
                                      refine lv_aload_n hx hb dX12_yard_245 rfl (lv_at hl 1 rfl) ?_
                                      refine q_goV (q_runV (As := []) (rest := []) E hC295 hS372 (m_X12_wrong l X Γ H295 hC295 h0 g0 ca gca uc) cw_X12_wrong cl_RX12_231 g0 ⟨rfl, rfl⟩ rfl hl.1 rfl (Nat.zero_le _) (by decide) dX12_yard_246) hS372 (fun H374 locs374 hr374 hC374 hS374 => ?_)
                                      obtain ⟨hp374, hr374⟩ := hr374
                                      have hKp374 := hKp295.tr (hp374.mono rfl)
                                      obtain ⟨f374_0, f374_1, f374_2, f374_3⟩ := hr374
                                      refine lv_aload_n hx hb dX12_yard_249 rfl (lv_at hl 1 rfl) ?_
                                      refine lv_aload_n hx hb dX12_yard_250 rfl (lv_at hl 1 rfl) ?_
                                      refine lv_bipush (v := 59) hx hb dX12_yard_251 rfl ?_
                                      have hz9 := tk_or (sI H374 h0 (X.1.2 11 14)).toInt
                                      refine q_goIp (q_runV (As := [.int 59]) (rest := [.ref h0]) E hC374 hS374 (m_X12_isSign l X Γ H374 hC374 h0 g0 59 (a1 := 59) (by decide) ca gca uc) cw_X12_isSign cl_RX12_255 g0 ⟨rfl, rfl⟩ rfl hl.1 rfl (show _ ≤ _ from by simp [Value.category]) (by decide) dX12_yard_253) hS374 (fun v375 locs375 hr375 hS375 => ?_)
                                      have b375 : (v375.toInt = 1 ∧ _) ∨ (v375.toInt = 0 ∧ _) := hr375.imp (fun h => ⟨by rw [h.1]; decide, h.2⟩) (fun h => ⟨by rw [h.1]; decide, h.2⟩)
                                      refine q_goV (q_runV (As := [.int v375]) (rest := []) E hC374 hS375 (m_X12_must l X Γ H374 hC374 h0 g0 v375 (a1 := v375.toInt) rfl ca gca uc (by omega) (by omega)) cw_X12_must cl_RX12_244 g0 ⟨rfl, rfl⟩ rfl hl.1 rfl (Nat.zero_le _) (by decide) dX12_yard_256) hS375 (fun H376 locs376 hr376 hC376 hS376 => ?_)
                                      obtain ⟨hp376, hr376⟩ := hr376
                                      have hKp376 := hKp374.tr (hp376.mono rfl)
                                      obtain ⟨f376_0, f376_1, f376_2, f376_3, f376_4⟩ := hr376
                                      refine lv_goto (tgt := 158) hx hb dX12_yard_259 rfl ?_
                                      exact ih295 H376 locs376 ls (by omega) hC376 hS376 hKp376 hl
                                    · refine q_if_eq hx hb (a := 1) (by decide) (tgt := 245) dX12_yard_235 rfl (fun c377 => absurd c377 (by omega)) (fun c377 => ?_)
                                      refine lv_aload_n hx hb dX12_yard_238 rfl (lv_at hl 1 rfl) ?_
                                      refine q_goV (q_runV (As := []) (rest := []) E hC295 hS372 (m_X12_readArticle l X Γ H295 hC295 h0 g0 ca gca uc) cw_X12_readArticle cl_RX12_264 g0 ⟨rfl, rfl⟩ rfl hl.1 rfl (Nat.zero_le _) (by decide) dX12_yard_239) hS372 (fun H378 locs378 hr378 hC378 hS378 => ?_)
                                      obtain ⟨hp378, hr378⟩ := hr378
                                      have hKp378 := hKp295.tr (hp378.mono rfl)
                                      obtain ⟨f378_0, f378_1, f378_2, f378_3⟩ := hr378
                                      refine lv_goto (tgt := 249) hx hb dX12_yard_242 rfl ?_
                                      refine lv_aload_n hx hb dX12_yard_249 rfl (lv_at hl 1 rfl) ?_
                                      refine lv_aload_n hx hb dX12_yard_250 rfl (lv_at hl 1 rfl) ?_
                                      refine lv_bipush (v := 59) hx hb dX12_yard_251 rfl ?_
                                      have hz9 := tk_or (sI H378 h0 (X.1.2 11 14)).toInt
                                      refine q_goIp (q_runV (As := [.int 59]) (rest := [.ref h0]) E hC378 hS378 (m_X12_isSign l X Γ H378 hC378 h0 g0 59 (a1 := 59) (by decide) ca gca uc) cw_X12_isSign cl_RX12_255 g0 ⟨rfl, rfl⟩ rfl hl.1 rfl (show _ ≤ _ from by simp [Value.category]) (by decide) dX12_yard_253) hS378 (fun v379 locs379 hr379 hS379 => ?_)
                                      have b379 : (v379.toInt = 1 ∧ _) ∨ (v379.toInt = 0 ∧ _) := hr379.imp (fun h => ⟨by rw [h.1]; decide, h.2⟩) (fun h => ⟨by rw [h.1]; decide, h.2⟩)
                                      refine q_goV (q_runV (As := [.int v379]) (rest := []) E hC378 hS379 (m_X12_must l X Γ H378 hC378 h0 g0 v379 (a1 := v379.toInt) rfl ca gca uc (by omega) (by omega)) cw_X12_must cl_RX12_244 g0 ⟨rfl, rfl⟩ rfl hl.1 rfl (Nat.zero_le _) (by decide) dX12_yard_256) hS379 (fun H380 locs380 hr380 hC380 hS380 => ?_)
                                      obtain ⟨hp380, hr380⟩ := hr380
                                      have hKp380 := hKp378.tr (hp380.mono rfl)
                                      obtain ⟨f380_0, f380_1, f380_2, f380_3, f380_4⟩ := hr380
                                      refine lv_goto (tgt := 158) hx hb dX12_yard_259 rfl ?_
                                      exact ih295 H380 locs380 ls (by omega) hC380 hS380 hKp380 hl
                                  · refine q_if_eq hx hb (a := 1) (by decide) (tgt := 231) dX12_yard_220 rfl (fun c381 => absurd c381 (by omega)) (fun c381 => ?_)
                                    refine lv_aload_n hx hb dX12_yard_223 rfl (lv_at hl 1 rfl) ?_
                                    refine lv_iconst (v := 2) hx hb dX12_yard_224 rfl ?_
                                    refine q_goV (q_runV (As := [.int 2]) (rest := []) E hC295 hS370 (m_X12_readCell l X Γ H295 hC295 h0 g0 2 (a1 := 2) (by decide) ca gca uc (by omega) (by omega)) cw_X12_readCell cl_RX12_261 g0 ⟨rfl, rfl⟩ rfl hl.1 rfl (Nat.zero_le _) (by decide) dX12_yard_225) hS370 (fun H382 locs382 hr382 hC382 hS382 => ?_)
                                    obtain ⟨hp382, hr382⟩ := hr382
                                    have hKp382 := hKp295.tr (hp382.mono rfl)
                                    obtain ⟨f382_0, f382_1, f382_2, f382_3⟩ := hr382
                                    refine lv_goto (tgt := 249) hx hb dX12_yard_228 rfl ?_
                                    refine lv_aload_n hx hb dX12_yard_249 rfl (lv_at hl 1 rfl) ?_
                                    refine lv_aload_n hx hb dX12_yard_250 rfl (lv_at hl 1 rfl) ?_
                                    refine lv_bipush (v := 59) hx hb dX12_yard_251 rfl ?_
                                    have hz9 := tk_or (sI H382 h0 (X.1.2 11 14)).toInt
                                    refine q_goIp (q_runV (As := [.int 59]) (rest := [.ref h0]) E hC382 hS382 (m_X12_isSign l X Γ H382 hC382 h0 g0 59 (a1 := 59) (by decide) ca gca uc) cw_X12_isSign cl_RX12_255 g0 ⟨rfl, rfl⟩ rfl hl.1 rfl (show _ ≤ _ from by simp [Value.category]) (by decide) dX12_yard_253) hS382 (fun v383 locs383 hr383 hS383 => ?_)
                                    have b383 : (v383.toInt = 1 ∧ _) ∨ (v383.toInt = 0 ∧ _) := hr383.imp (fun h => ⟨by rw [h.1]; decide, h.2⟩) (fun h => ⟨by rw [h.1]; decide, h.2⟩)
                                    refine q_goV (q_runV (As := [.int v383]) (rest := []) E hC382 hS383 (m_X12_must l X Γ H382 hC382 h0 g0 v383 (a1 := v383.toInt) rfl ca gca uc (by omega) (by omega)) cw_X12_must cl_RX12_244 g0 ⟨rfl, rfl⟩ rfl hl.1 rfl (Nat.zero_le _) (by decide) dX12_yard_256) hS383 (fun H384 locs384 hr384 hC384 hS384 => ?_)
                                    obtain ⟨hp384, hr384⟩ := hr384
                                    have hKp384 := hKp382.tr (hp384.mono rfl)
                                    obtain ⟨f384_0, f384_1, f384_2, f384_3, f384_4⟩ := hr384
                                    refine lv_goto (tgt := 158) hx hb dX12_yard_259 rfl ?_
                                    exact ih295 H384 locs384 ls (by omega) hC384 hS384 hKp384 hl
                                · refine q_if_eq hx hb (a := 1) (by decide) (tgt := 216) dX12_yard_205 rfl (fun c385 => absurd c385 (by omega)) (fun c385 => ?_)
                                  refine lv_aload_n hx hb dX12_yard_208 rfl (lv_at hl 1 rfl) ?_
                                  refine lv_iconst (v := 1) hx hb dX12_yard_209 rfl ?_
                                  refine q_goV (q_runV (As := [.int 1]) (rest := []) E hC295 hS368 (m_X12_readCell l X Γ H295 hC295 h0 g0 1 (a1 := 1) (by decide) ca gca uc (by omega) (by omega)) cw_X12_readCell cl_RX12_261 g0 ⟨rfl, rfl⟩ rfl hl.1 rfl (Nat.zero_le _) (by decide) dX12_yard_210) hS368 (fun H386 locs386 hr386 hC386 hS386 => ?_)
                                  obtain ⟨hp386, hr386⟩ := hr386
                                  have hKp386 := hKp295.tr (hp386.mono rfl)
                                  obtain ⟨f386_0, f386_1, f386_2, f386_3⟩ := hr386
                                  refine lv_goto (tgt := 249) hx hb dX12_yard_213 rfl ?_
                                  refine lv_aload_n hx hb dX12_yard_249 rfl (lv_at hl 1 rfl) ?_
                                  refine lv_aload_n hx hb dX12_yard_250 rfl (lv_at hl 1 rfl) ?_
                                  refine lv_bipush (v := 59) hx hb dX12_yard_251 rfl ?_
                                  have hz9 := tk_or (sI H386 h0 (X.1.2 11 14)).toInt
                                  refine q_goIp (q_runV (As := [.int 59]) (rest := [.ref h0]) E hC386 hS386 (m_X12_isSign l X Γ H386 hC386 h0 g0 59 (a1 := 59) (by decide) ca gca uc) cw_X12_isSign cl_RX12_255 g0 ⟨rfl, rfl⟩ rfl hl.1 rfl (show _ ≤ _ from by simp [Value.category]) (by decide) dX12_yard_253) hS386 (fun v387 locs387 hr387 hS387 => ?_)
                                  have b387 : (v387.toInt = 1 ∧ _) ∨ (v387.toInt = 0 ∧ _) := hr387.imp (fun h => ⟨by rw [h.1]; decide, h.2⟩) (fun h => ⟨by rw [h.1]; decide, h.2⟩)
                                  refine q_goV (q_runV (As := [.int v387]) (rest := []) E hC386 hS387 (m_X12_must l X Γ H386 hC386 h0 g0 v387 (a1 := v387.toInt) rfl ca gca uc (by omega) (by omega)) cw_X12_must cl_RX12_244 g0 ⟨rfl, rfl⟩ rfl hl.1 rfl (Nat.zero_le _) (by decide) dX12_yard_256) hS387 (fun H388 locs388 hr388 hC388 hS388 => ?_)
                                  obtain ⟨hp388, hr388⟩ := hr388
                                  have hKp388 := hKp386.tr (hp388.mono rfl)
                                  obtain ⟨f388_0, f388_1, f388_2, f388_3, f388_4⟩ := hr388
                                  refine lv_goto (tgt := 158) hx hb dX12_yard_259 rfl ?_
                                  exact ih295 H388 locs388 ls (by omega) hC388 hS388 hKp388 hl
                              · refine q_if_eq hx hb (a := 1) (by decide) (tgt := 201) dX12_yard_190 rfl (fun c389 => absurd c389 (by omega)) (fun c389 => ?_)
                                refine lv_aload_n hx hb dX12_yard_193 rfl (lv_at hl 1 rfl) ?_
                                refine lv_iconst (v := 0) hx hb dX12_yard_194 rfl ?_
                                refine q_goV (q_runV (As := [.int 0]) (rest := []) E hC295 hS366 (m_X12_readCell l X Γ H295 hC295 h0 g0 0 (a1 := 0) (by decide) ca gca uc (by omega) (by omega)) cw_X12_readCell cl_RX12_261 g0 ⟨rfl, rfl⟩ rfl hl.1 rfl (Nat.zero_le _) (by decide) dX12_yard_195) hS366 (fun H390 locs390 hr390 hC390 hS390 => ?_)
                                obtain ⟨hp390, hr390⟩ := hr390
                                have hKp390 := hKp295.tr (hp390.mono rfl)
                                obtain ⟨f390_0, f390_1, f390_2, f390_3⟩ := hr390
                                refine lv_goto (tgt := 249) hx hb dX12_yard_198 rfl ?_
                                refine lv_aload_n hx hb dX12_yard_249 rfl (lv_at hl 1 rfl) ?_
                                refine lv_aload_n hx hb dX12_yard_250 rfl (lv_at hl 1 rfl) ?_
                                refine lv_bipush (v := 59) hx hb dX12_yard_251 rfl ?_
                                have hz9 := tk_or (sI H390 h0 (X.1.2 11 14)).toInt
                                refine q_goIp (q_runV (As := [.int 59]) (rest := [.ref h0]) E hC390 hS390 (m_X12_isSign l X Γ H390 hC390 h0 g0 59 (a1 := 59) (by decide) ca gca uc) cw_X12_isSign cl_RX12_255 g0 ⟨rfl, rfl⟩ rfl hl.1 rfl (show _ ≤ _ from by simp [Value.category]) (by decide) dX12_yard_253) hS390 (fun v391 locs391 hr391 hS391 => ?_)
                                have b391 : (v391.toInt = 1 ∧ _) ∨ (v391.toInt = 0 ∧ _) := hr391.imp (fun h => ⟨by rw [h.1]; decide, h.2⟩) (fun h => ⟨by rw [h.1]; decide, h.2⟩)
                                refine q_goV (q_runV (As := [.int v391]) (rest := []) E hC390 hS391 (m_X12_must l X Γ H390 hC390 h0 g0 v391 (a1 := v391.toInt) rfl ca gca uc (by omega) (by omega)) cw_X12_must cl_RX12_244 g0 ⟨rfl, rfl⟩ rfl hl.1 rfl (Nat.zero_le _) (by decide) dX12_yard_256) hS391 (fun H392 locs392 hr392 hC392 hS392 => ?_)
                                obtain ⟨hp392, hr392⟩ := hr392
                                have hKp392 := hKp390.tr (hp392.mono rfl)
                                obtain ⟨f392_0, f392_1, f392_2, f392_3, f392_4⟩ := hr392
                                refine lv_goto (tgt := 158) hx hb dX12_yard_259 rfl ?_
                                exact ih295 H392 locs392 ls (by omega) hC392 hS392 hKp392 hl
                            · refine q_if_eq hx hb (a := 1) (by decide) (tgt := 186) dX12_yard_176 rfl (fun c393 => absurd c393 (by omega)) (fun c393 => ?_)
                              refine lv_aload_n hx hb dX12_yard_179 rfl (lv_at hl 1 rfl) ?_
                              refine q_goV (q_runV (As := []) (rest := []) E hC295 hS364 (m_X12_readSchool l X Γ H295 hC295 h0 g0 ca gca uc) cw_X12_readSchool cl_RX12_258 g0 ⟨rfl, rfl⟩ rfl hl.1 rfl (Nat.zero_le _) (by decide) dX12_yard_180) hS364 (fun H394 locs394 hr394 hC394 hS394 => ?_)
                              obtain ⟨hp394, hr394⟩ := hr394
                              have hKp394 := hKp295.tr (hp394.mono rfl)
                              obtain ⟨f394_0, f394_1, f394_2, f394_3⟩ := hr394
                              refine lv_goto (tgt := 249) hx hb dX12_yard_183 rfl ?_
                              refine lv_aload_n hx hb dX12_yard_249 rfl (lv_at hl 1 rfl) ?_
                              refine lv_aload_n hx hb dX12_yard_250 rfl (lv_at hl 1 rfl) ?_
                              refine lv_bipush (v := 59) hx hb dX12_yard_251 rfl ?_
                              have hz9 := tk_or (sI H394 h0 (X.1.2 11 14)).toInt
                              refine q_goIp (q_runV (As := [.int 59]) (rest := [.ref h0]) E hC394 hS394 (m_X12_isSign l X Γ H394 hC394 h0 g0 59 (a1 := 59) (by decide) ca gca uc) cw_X12_isSign cl_RX12_255 g0 ⟨rfl, rfl⟩ rfl hl.1 rfl (show _ ≤ _ from by simp [Value.category]) (by decide) dX12_yard_253) hS394 (fun v395 locs395 hr395 hS395 => ?_)
                              have b395 : (v395.toInt = 1 ∧ _) ∨ (v395.toInt = 0 ∧ _) := hr395.imp (fun h => ⟨by rw [h.1]; decide, h.2⟩) (fun h => ⟨by rw [h.1]; decide, h.2⟩)
                              refine q_goV (q_runV (As := [.int v395]) (rest := []) E hC394 hS395 (m_X12_must l X Γ H394 hC394 h0 g0 v395 (a1 := v395.toInt) rfl ca gca uc (by omega) (by omega)) cw_X12_must cl_RX12_244 g0 ⟨rfl, rfl⟩ rfl hl.1 rfl (Nat.zero_le _) (by decide) dX12_yard_256) hS395 (fun H396 locs396 hr396 hC396 hS396 => ?_)
                              obtain ⟨hp396, hr396⟩ := hr396
                              have hKp396 := hKp394.tr (hp396.mono rfl)
                              obtain ⟨f396_0, f396_1, f396_2, f396_3, f396_4⟩ := hr396
                              refine lv_goto (tgt := 158) hx hb dX12_yard_259 rfl ?_
                              exact ih295 H396 locs396 ls (by omega) hC396 hS396 hKp396 hl
                    exact L158 903 H294 locs294 ls (by omega) hC294 hS294 hKp294 hl
              · refine lv_aload_n hx hb dX12_yard_57 rfl (lv_at hl 1 rfl) ?_
                refine q_getR E hC39 g0 fa_RX12_41 dX12_yard_58 (fun q397 eq397 gq397 => ?_)
                refine lv_iload_n hx hb dX12_yard_61 rfl (lv_at hl 0 rfl) ?_
                refine lv_iconst (v := 0) hx hb dX12_yard_62 rfl ?_
                refine q_iast E hC39 hS39 gq397 (by decide) rfl rfl (i_in (a := z38) ev38 (by omega) (by omega)) tv_F dX12_yard_63 (fun H398 locs398 hC398 hS398 U398 => ?_)
                have hKp398 := Kp.upA gq397 rfl (by decide) rfl U398 hKp39
                have m399 : (sI H398 h0 (X.1.2 11 12)).toInt = (sI H39 h0 (X.1.2 11 12)).toInt := congrArg Int32.toInt (up_nI U398 (ne_k g0 gq397 (by decide)))
                have m400 : (sI H398 h0 (X.1.2 11 14)).toInt = (sI H39 h0 (X.1.2 11 14)).toInt := congrArg Int32.toInt (up_nI U398 (ne_k g0 gq397 (by decide)))
                have m401 := congrArg tk m400
                have m402 : (sI H398 h0 (X.1.2 11 16)).toInt = (sI H39 h0 (X.1.2 11 16)).toInt := congrArg Int32.toInt (up_nI U398 (ne_k g0 gq397 (by decide)))
                obtain ⟨v403, ev403⟩ : ∃ z, z = v38 + Int32.ofInt 1 := ⟨_, rfl⟩
                have ev403i : v403.toInt = (z38 + 1) := i_add ev403 ev38 (by decide) (by omega) (by omega)
                refine lv_iinc hx hb dX12_yard_64 hl (k := 0) rfl ev403.symm (by decide) rfl (fun ls hl => ?_)
                have hl : lv_has ls 4 [(2, .int v403), (0, .ref h0), (1, .int p1)] := hl
                refine lv_goto (tgt := 51) hx hb dX12_yard_67 rfl ?_
                exact ih39 H398 locs398 v403 ((z38 + 1)) ls (by omega) ev403i (by omega) (by omega) hC398 hS398 hKp398 hl
          exact L51 _ H36 locs36 0 0 ls (Nat.lt_succ_self _) (by decide) (by omega) (by omega) hC36 hS36 hKp36 hl
        · refine lv_aload_n hx hb dX12_yard_32 rfl (lv_at hl 1 rfl) ?_
          refine q_getC E hC36 g0 fa_RX12_35 uc dX12_yard_33 ?_
          refine lv_sipush (v := 2080) hx hb dX12_yard_36 rfl ?_
          refine lv_iload_n hx hb dX12_yard_39 rfl (lv_at hl 0 rfl) ?_
          refine lv_iadd hx hb dX12_yard_40 (lv_topi (fun v404 ev404 => ?_))
          have ev404i : v404.toInt = (2080 + z35) := i_add ev404 (by decide) ev35 (by omega) (by omega)
          refine lv_iconst (v := 0) hx hb dX12_yard_41 rfl ?_
          refine q_cast E hC36 hS36 gca (a := (2080 + z35)) ev404i (by omega) (by omega) (cT_nz (by omega) (by omega)) dX12_yard_42 (fun H405 locs405 hC405 hS405 U405 => ?_)
          have hKp405 := Kp.upD gca rfl rfl (fun _ => ⟨fun h => absurd h (by decide), fun h => absurd h (by decide), fun h => absurd h (by decide)⟩) U405 hKp36
          have m406 : (sI H405 h0 (X.1.2 11 12)).toInt = (sI H36 h0 (X.1.2 11 12)).toInt := congrArg Int32.toInt (up_nI U405 (ne_k g0 gca (by decide)))
          have m407 : (sI H405 h0 (X.1.2 11 14)).toInt = (sI H36 h0 (X.1.2 11 14)).toInt := congrArg Int32.toInt (up_nI U405 (ne_k g0 gca (by decide)))
          have m408 := congrArg tk m407
          have m409 : (sI H405 h0 (X.1.2 11 16)).toInt = (sI H36 h0 (X.1.2 11 16)).toInt := congrArg Int32.toInt (up_nI U405 (ne_k g0 gca (by decide)))
          have e410 := up_I U405
          obtain ⟨v411, ev411⟩ : ∃ z, z = v35 + Int32.ofInt 1 := ⟨_, rfl⟩
          have ev411i : v411.toInt = (z35 + 1) := i_add ev411 ev35 (by decide) (by omega) (by omega)
          refine lv_iinc hx hb dX12_yard_43 hl (k := 0) rfl ev411.symm (by decide) rfl (fun ls hl => ?_)
          have hl : lv_has ls 4 [(2, .int v411), (0, .ref h0), (1, .int p1)] := hl
          refine lv_goto (tgt := 25) hx hb dX12_yard_46 rfl ?_
          exact ih36 H405 locs405 v411 ((z35 + 1)) ls (by omega) ev411i (by omega) (by omega) hC405 hS405 hKp405 hl
    exact L25 _ H33 locs33 0 0 ls (Nat.lt_succ_self _) (by decide) (by omega) (by omega) hC33 hS33 hKp33 hl
  · refine q_if_ne hx hb (a := 0) (by decide) (tgt := 23) dX12_yard_18 rfl (fun c412 => absurd c412 (by omega)) (fun c412 => ?_)
    refine lv_iconst (v := (-1)) hx hb dX12_yard_21 rfl ?_
    exact ret (-1) H33 locs33 _ _ dX12_yard_22 ⟨hKp33, trivial⟩ hC33 hS33
