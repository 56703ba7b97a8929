set_option maxRecDepth 100000 in
set_option maxHeartbeats 4000000 in
theorem m_X12_orders (l : Launch) (X : xW) (Γ : Nat → Option Nat) (H0 : Heap) (hC0 : Conf X Γ H0) (h0 : Nat) (g0 : Γ h0 = some 11) (p1 : Int32) {a1 : Int} (e1 : p1.toInt = a1) (ca : Nat) (gca : Γ ca = some 64) (uc : ∀ a, Γ a = some 64 → a = ca) : Ctr l X Γ yX12_orders cX12_orders 3 (some .int) 10 [.ref h0, .int p1] H0 (QI X Γ (fun v H1 => Kp X Γ [1, 6, 8, 9, 11, 12, 16, 17, 19, 22, 24, 26, 28] H0 H1 ∧ ((KD H0 H1 ca 0 0 ∨ (KD H0 H1 ca 242 520 ∧ SW H1 ca 0)) ∧ (((a1 < 0 ∨ (sI H0 h0 (X.1.2 11 8)).toInt < a1 ∨ 300 < a1) ∧ (sI H1 h0 (X.1.2 11 8)).toInt = (sI H0 h0 (X.1.2 11 8)).toInt) ∨ (0 ≤ a1 ∧ a1 ≤ (sI H0 h0 (X.1.2 11 8)).toInt ∧ a1 ≤ 300 ∧ (sI H1 h0 (X.1.2 11 8)).toInt = 0))))) := by
  refine q_enterI (own := "SnowFortsModel") (by decide) rfl (Nat.le_of_ble_eq_true rfl) ?_
  intro p e s m args below meth c ls Qz E hl ret hS0
  have hx := E.1; have hb := E.2.1
  have hKp0 : Kp X Γ [1, 6, 8, 9, 11, 12, 16, 17, 19, 22, 24, 26, 28] H0 H0 := Kp.rf
  have hl : lv_has ls 3 [(0, .ref h0), (1, .int p1)] := hl
  have hz2 := f_bd hC0 g0 (ci := 11) (k := 12) rfl rfl
  have hz7 := f_bd hC0 g0 (ci := 11) (k := 8) rfl rfl
  have kd : KD H0 H0 ca 0 0 := KD.rf
  have kd2 : KD H0 H0 ca 242 520 := KD.rf
  refine lv_aload_n hx hb dX12_orders_0 rfl (lv_at hl 0 rfl) ?_
  refine lv_iconst (v := 0) hx hb dX12_orders_1 rfl ?_
  refine q_put E hC0 hS0 g0 fp_RX12_69 tv_F rfl rfl dX12_orders_2 (fun H21 locs21 hC21 hS21 U21 => ?_)
  have hKp21 := Kp.upO E g0 fp_RX12_69 rfl U21 hKp0
  have e22 := up_I U21
  replace kd : KD H0 H21 ca 0 0 := KD.ne kd U21 (nek g0 gca (by decide))
  replace kd2 : KD H0 H21 ca 242 520 := KD.ne kd2 U21 (nek g0 gca (by decide))
  have m23 : (sI H21 h0 (X.1.2 11 12)).toInt = (sI H0 h0 (X.1.2 11 12)).toInt := congrArg Int32.toInt (up_nI U21 (ne_f E 11 12 1 rfl (by decide) (by decide) (by decide)))
  have m24 : (sI H21 h0 (X.1.2 11 25)).toInt = (sI H0 h0 (X.1.2 11 25)).toInt := congrArg Int32.toInt (up_nI U21 (ne_f E 11 25 1 rfl (by decide) (by decide) (by decide)))
  have m25 : (sI H21 h0 (X.1.2 11 8)).toInt = (sI H0 h0 (X.1.2 11 8)).toInt := congrArg Int32.toInt (up_nI U21 (ne_f E 11 8 1 rfl (by decide) (by decide) (by decide)))
  refine lv_aload_n hx hb dX12_orders_5 rfl (lv_at hl 0 rfl) ?_
  refine lv_iconst (v := 0) hx hb dX12_orders_6 rfl ?_
  refine q_put E hC21 hS21 g0 fp_RX12_72 tv_F rfl rfl dX12_orders_7 (fun H26 locs26 hC26 hS26 U26 => ?_)
  have hKp26 := Kp.upO E g0 fp_RX12_72 rfl U26 hKp21
  have e27 := up_I U26
  replace kd : KD H0 H26 ca 0 0 := KD.ne kd U26 (nek g0 gca (by decide))
  replace kd2 : KD H0 H26 ca 242 520 := KD.ne kd2 U26 (nek g0 gca (by decide))
  have m28 : (sI H26 h0 (X.1.2 11 12)).toInt = (sI H21 h0 (X.1.2 11 12)).toInt := congrArg Int32.toInt (up_nI U26 (ne_f E 11 12 0 rfl (by decide) (by decide) (by decide)))
  have m29 : (sI H26 h0 (X.1.2 11 25)).toInt = (sI H21 h0 (X.1.2 11 25)).toInt := congrArg Int32.toInt (up_nI U26 (ne_f E 11 25 0 rfl (by decide) (by decide) (by decide)))
  have m30 : (sI H26 h0 (X.1.2 11 8)).toInt = (sI H21 h0 (X.1.2 11 8)).toInt := congrArg Int32.toInt (up_nI U26 (ne_f E 11 8 0 rfl (by decide) (by decide) (by decide)))
  refine lv_aload_n hx hb dX12_orders_10 rfl (lv_at hl 0 rfl) ?_
  refine lv_iload_n hx hb dX12_orders_11 rfl (lv_at hl 1 rfl) ?_
  refine lv_sipush (v := 300) hx hb dX12_orders_12 rfl ?_
  refine q_goI (q_runV (As := [.int p1, .int 300]) (rest := []) E hC26 hS26 (m_X12_opens l X Γ H26 hC26 h0 g0 p1 (a1 := a1) e1 300 (a2 := 300) (by decide) ca gca uc) cw_X12_opens cl_RX12_251 g0 ⟨rfl, rfl⟩ rfl hl.1 rfl (Nat.zero_le _) (by decide) dX12_orders_15) hS26 (fun v31 H31 locs31 hr31 hC31 hS31 => ?_)
  obtain ⟨hp31, hr31⟩ := hr31
  have hKp31 := hKp26.tr (hp31.mono rfl)
  replace kd : KD H0 H31 ca 0 0 := KD.kp kd hp31 gca rfl rfl
  replace kd2 : KD H0 H31 ca 242 520 := KD.kp kd2 hp31 gca rfl rfl
  have m32 : (sI H31 h0 (X.1.2 11 25)).toInt = (sI H26 h0 (X.1.2 11 25)).toInt := congrArg Int32.toInt (kp_I hp31 g0 (k := 25) rfl (by decide) rfl)
  rcases hr31 with ⟨rfl, f31a0, f31a1, f31a2, f31a3, f31a4⟩ | ⟨rfl, f31b0, f31b1⟩
  · refine q_if_ne hx hb (a := 1) (by decide) (tgt := 23) dX12_orders_18 rfl (fun c33 => ?_) (fun c33 => absurd c33 (by omega))
    refine lv_aload_n hx hb dX12_orders_23 rfl (lv_at hl 0 rfl) ?_
    refine lv_iconst (v := 0) hx hb dX12_orders_24 rfl ?_
    refine q_put E hC31 hS31 g0 fp_RX12_283 (tv_I (show (0 : Int32).toInt = 0 from by decide) (by omega) (by omega)) rfl rfl dX12_orders_25 (fun H34 locs34 hC34 hS34 U34 => ?_)
    have hKp34 := Kp.upO E g0 fp_RX12_283 rfl U34 hKp31
    have e35 := up_I U34
    have m36 : (sI H34 h0 (X.1.2 11 25)).toInt = 0 := (congrArg Int32.toInt e35).trans (show (0 : Int32).toInt = 0 from by decide)
    replace kd : KD H0 H34 ca 0 0 := KD.ne kd U34 (nek g0 gca (by decide))
    replace kd2 : KD H0 H34 ca 242 520 := KD.ne kd2 U34 (nek g0 gca (by decide))
    have m37 : (sI H34 h0 (X.1.2 11 12)).toInt = (sI H31 h0 (X.1.2 11 12)).toInt := congrArg Int32.toInt (up_nI U34 (ne_f E 11 12 25 rfl (by decide) (by decide) (by decide)))
    have m38 : (sI H34 h0 (X.1.2 11 8)).toInt = (sI H31 h0 (X.1.2 11 8)).toInt := congrArg Int32.toInt (up_nI U34 (ne_f E 11 8 25 rfl (by decide) (by decide) (by decide)))
    have L28 : ∀ (n39 : Nat) (H39 : Heap) (locs39 : List Loc) (ls : Array Slot), 0 < n39 ∧ ((sI H39 h0 (X.1.2 11 12)).toInt ≠ 0 ∨ 32 - (sI H39 h0 (X.1.2 11 25)).toInt < n39) → SWc (sI H39 h0 (X.1.2 11 12)).toInt H39 ca 0 (sI H39 h0 (X.1.2 11 25)).toInt → (sI H39 h0 (X.1.2 11 8)).toInt = 0 → Conf X Γ H39 → va_S (AΓ Γ) H0 H39 locs39 → Kp X Γ [1, 6, 8, 9, 11, 12, 16, 17, 19, 22, 24, 26, 28] H0 H39 → (KD H0 H39 ca 0 0) → (KD H0 H39 ca 242 520) → lv_has ls 3 [(0, .ref h0), (1, .int p1)] → W p l e (rmL 10) s m args below meth c H39 locs39 0 0 Qz (F0 m 28 ls []) := by
      intro n39
      induction n39 with
      | zero => intro H39 locs39 ls hm39 iv39_0 iv39_1 hC39 hS39 hKp39 kd kd2 hl; exact absurd hm39 (by omega)
      | succ n39 ih39 =>
        intro H39 locs39 ls hm39 iv39_0 iv39_1 hC39 hS39 hKp39 kd kd2 hl
        have hb1 := f_bd hC39 g0 (ci := 11) (k := 25) rfl rfl
        have hb2 := f_bd hC39 g0 (ci := 11) (k := 12) rfl rfl
        have swi := iv39_0
        obtain ⟨nL, hnL⟩ : ∃ z, (sI H39 h0 (X.1.2 11 25)).toInt = z := ⟨_, rfl⟩
        obtain ⟨bL, hbL⟩ : ∃ z, (sI H39 h0 (X.1.2 11 12)).toInt = z := ⟨_, rfl⟩
        have sw : SWc bL H39 ca 0 nL := by have h := iv39_0; rw [hnL, hbL] at h; exact h
        refine lv_aload_n hx hb dX12_orders_28 rfl (lv_at hl 0 rfl) ?_
        refine q_getI E hC39 g0 fa_RX12_218 dX12_orders_29 (fun v40 ev40 lv40 uv40 => ?_)
        have m41 : (sI H39 h0 (X.1.2 11 12)).toInt = v40.toInt := (congrArg Int32.toInt ev40).trans rfl
        refine q_if_ne hx hb (a := v40.toInt) rfl (tgt := 50) dX12_orders_32 rfl (fun c42 => ?_) (fun c42 => ?_)
        · refine lv_aload_n hx hb dX12_orders_50 rfl (lv_at hl 0 rfl) ?_
          refine q_goI (q_runV (As := []) (rest := []) E hC39 hS39 (m_X12_isWell l X Γ H39 hC39 h0 g0 ca gca uc) cw_X12_isWell cl_RX12_267 g0 ⟨rfl, rfl⟩ rfl hl.1 rfl (Nat.zero_le _) (by decide) dX12_orders_51) hS39 (fun v43 H43 locs43 hr43 hC43 hS43 => ?_)
          obtain ⟨hp43, hr43⟩ := hr43
          have hKp43 := hKp39.tr (hp43.mono rfl)
          replace kd : KD H0 H43 ca 0 0 := KD.kp kd hp43 gca rfl rfl
          replace kd2 : KD H0 H43 ca 242 520 := KD.kp kd2 hp43 gca rfl rfl
          replace sw : SWc bL H43 ca 0 nL := SWc.kp sw hp43 gca rfl (by omega)
          have m44 : (sI H43 h0 (X.1.2 11 25)).toInt = (sI H39 h0 (X.1.2 11 25)).toInt := congrArg Int32.toInt (kp_I hp43 g0 (k := 25) rfl (by decide) rfl)
          have m45 : (sI H43 h0 (X.1.2 11 8)).toInt = (sI H39 h0 (X.1.2 11 8)).toInt := congrArg Int32.toInt (kp_I hp43 g0 (k := 8) rfl (by decide) rfl)
          rcases hr43 with ⟨rfl, f43a⟩ | ⟨rfl, -⟩
          · refine q_if_ne hx hb (a := 1) (by decide) (tgt := 59) dX12_orders_54 rfl (fun c46 => ?_) (fun c46 => absurd c46 (by omega))
            refine lv_aload_n hx hb dX12_orders_59 rfl (lv_at hl 0 rfl) ?_
            refine q_getC E hC43 g0 fa_RX12_35 uc dX12_orders_60 ?_
            refine lv_sipush (v := 242) hx hb dX12_orders_63 rfl ?_
            refine lv_iconst (v := 1) hx hb dX12_orders_66 rfl ?_
            refine q_cast E hC43 hS43 gca (a := 242) (show (242 : Int32).toInt = 242 from by decide) (by omega) (by omega) (cs_c134 (a := 242) (by omega) (by omega)) dX12_orders_67 (fun H47 locs47 hC47 hS47 U47 => ?_)
            have hKp47 := Kp.upD gca rfl rfl (fun _ => ⟨fun h => absurd h (by decide), fun _ => by unfold dpu; omega, fun _ => by unfold dpn; omega⟩) U47 hKp43
            replace kd2 : KD H0 H47 ca 242 520 := KD.up kd2 U47 (by omega) (by omega)
            replace sw : SWc bL H47 ca 0 nL := SWc.up sw U47 (by omega) (by omega)
            have m48 : (sI H47 h0 (X.1.2 11 12)).toInt = (sI H43 h0 (X.1.2 11 12)).toInt := congrArg Int32.toInt (up_nI U47 (ne_k g0 gca (by decide)))
            have m49 : (sI H47 h0 (X.1.2 11 25)).toInt = (sI H43 h0 (X.1.2 11 25)).toInt := congrArg Int32.toInt (up_nI U47 (ne_k g0 gca (by decide)))
            have m50 : (sI H47 h0 (X.1.2 11 8)).toInt = (sI H43 h0 (X.1.2 11 8)).toInt := congrArg Int32.toInt (up_nI U47 (ne_k g0 gca (by decide)))
            have e51 := up_I U47
            refine lv_aload_n hx hb dX12_orders_68 rfl (lv_at hl 0 rfl) ?_
            refine q_getC E hC47 g0 fa_RX12_35 uc dX12_orders_69 ?_
            refine lv_sipush (v := 243) hx hb dX12_orders_72 rfl ?_
            refine lv_aload_n hx hb dX12_orders_75 rfl (lv_at hl 0 rfl) ?_
            refine q_getI E hC47 g0 fa_RX12_283 dX12_orders_76 (fun v52 ev52 lv52 uv52 => ?_)
            have m53 : (sI H47 h0 (X.1.2 11 25)).toInt = v52.toInt := (congrArg Int32.toInt ev52).trans rfl
            refine q_cast E hC47 hS47 gca (a := 243) (show (243 : Int32).toInt = 243 from by decide) (by omega) (by omega) (cs_c243 (a := 243) (b := v52.toInt) (by omega) (by omega) rfl (by omega) (by omega)) dX12_orders_79 (fun H54 locs54 hC54 hS54 U54 => ?_)
            have hKp54 := Kp.upD gca rfl rfl (fun _ => ⟨fun h => absurd h (by decide), fun _ => by unfold dpu; omega, fun _ => by unfold dpn; omega⟩) U54 hKp47
            replace kd2 : KD H0 H54 ca 242 520 := KD.up kd2 U54 (by omega) (by omega)
            replace sw : SWc bL H54 ca 0 nL := SWc.up sw U54 (by omega) (by omega)
            have m55 : (sI H54 h0 (X.1.2 11 12)).toInt = (sI H47 h0 (X.1.2 11 12)).toInt := congrArg Int32.toInt (up_nI U54 (ne_k g0 gca (by decide)))
            have m56 : (sI H54 h0 (X.1.2 11 25)).toInt = (sI H47 h0 (X.1.2 11 25)).toInt := congrArg Int32.toInt (up_nI U54 (ne_k g0 gca (by decide)))
            have m57 : (sI H54 h0 (X.1.2 11 8)).toInt = (sI H47 h0 (X.1.2 11 8)).toInt := congrArg Int32.toInt (up_nI U54 (ne_k g0 gca (by decide)))
            obtain ⟨nn, hnn⟩ : ∃ z, v52.toInt = z := ⟨_, rfl⟩
            have h243 : EQ H54 ca 243 nn := (congrArg Int32.toInt (up_I U54)).trans (rfl.trans hnn)
            have e58 := up_I U54
            refine lv_iconst (v := 0) hx hb dX12_orders_80 rfl ?_
            refine lv_istore_n hx hb dX12_orders_81 rfl hl (by decide) rfl (fun ls hl => ?_)
            replace hl : lv_has ls 3 [(2, .int 0), (0, .ref h0), (1, .int p1)] := hl
            have L82 : ∀ (n60 : Nat) (H60 : Heap) (locs60 : List Loc) (v59 : Int32) (z59 : Int) (ls : Array Slot), (270 - z59).toNat < n60 → v59.toInt = z59 → 0 ≤ z59 → 0 ≤ z59 → z59 ≤ 270 → (sI H60 h0 (X.1.2 11 25)).toInt = nn → CPd H60 ca 2324 244 z59 → (sI H60 h0 (X.1.2 11 8)).toInt = 0 → Conf X Γ H60 → va_S (AΓ Γ) H0 H60 locs60 → Kp X Γ [1, 6, 8, 9, 11, 12, 16, 17, 19, 22, 24, 26, 28] H0 H60 → (KD H0 H60 ca 242 520) → (SWc bL H60 ca 0 nL) → (EQ H60 ca 243 nn) → lv_has ls 3 [(2, .int v59), (0, .ref h0), (1, .int p1)] → W p l e (rmL 10) s m args below meth c H60 locs60 0 0 Qz (F0 m 82 ls []) := by
              intro n60
              induction n60 with
              | zero => intro H60 locs60 v59 z59 ls hm60 ev59 iv60_0 iv60_1 iv60_2 iv60_3 iv60_4 iv60_5 hC60 hS60 hKp60 kd2 sw h243 hl; exact absurd hm60 (Nat.not_lt_zero _)
              | succ n60 ih60 =>
                intro H60 locs60 v59 z59 ls hm60 ev59 iv60_0 iv60_1 iv60_2 iv60_3 iv60_4 iv60_5 hC60 hS60 hKp60 kd2 sw h243 hl
                have cpd := iv60_4
                refine lv_iload_n hx hb dX12_orders_82 rfl (lv_at hl 0 rfl) ?_
                refine lv_bipush (v := 9) hx hb dX12_orders_83 rfl ?_
                refine lv_aload_n hx hb dX12_orders_85 rfl (lv_at hl 1 rfl) ?_
                refine q_getI E hC60 g0 fa_RX12_283 dX12_orders_86 (fun v61 ev61 lv61 uv61 => ?_)
                have m62 : (sI H60 h0 (X.1.2 11 25)).toInt = v61.toInt := (congrArg Int32.toInt ev61).trans rfl
                refine lv_imul hx hb dX12_orders_89 (lv_topi (fun v63 ev63 => ?_))
                have ev63i : v63.toInt = (9 * v61.toInt) := i_mul ev63 (by decide) rfl (by omega) (by omega)
                refine q_icmp_ge hx hb (a := z59) (b := (9 * v61.toInt)) ev59 ev63i (tgt := 119) dX12_orders_90 rfl (fun c64 => ?_) (fun c64 => ?_)
                · refine lv_aload_n hx hb dX12_orders_119 rfl (lv_at hl 1 rfl) ?_
                  refine q_getI E hC60 g0 fa_RX12_283 dX12_orders_120 (fun v65 ev65 lv65 uv65 => ?_)
                  have qv65 := ev61.symm.trans ev65; subst qv65
                  have hpost := Or.inr (a := KD H0 H60 ca 0 0) (And.intro kd2 (SW.fin (n := nn) (by have h := sw (by omega); rw [show nL = nn from (by omega)] at h; exact h) h243 (CPd.mono cpd (by omega))))
                  have c66 : v61.toInt = v61.toInt := rfl
                  exact ret v61 H60 locs60 _ _ dX12_orders_123 ⟨hKp60, ⟨hpost, by omega⟩⟩ hC60 hS60
                · refine lv_aload_n hx hb dX12_orders_93 rfl (lv_at hl 1 rfl) ?_
                  refine q_getC E hC60 g0 fa_RX12_35 uc dX12_orders_94 ?_
                  refine lv_sipush (v := 244) hx hb dX12_orders_97 rfl ?_
                  refine lv_iload_n hx hb dX12_orders_100 rfl (lv_at hl 0 rfl) ?_
                  refine lv_iadd hx hb dX12_orders_101 (lv_topi (fun v67 ev67 => ?_))
                  have ev67i : v67.toInt = (244 + z59) := i_add ev67 (by decide) ev59 (by omega) (by omega)
                  refine lv_aload_n hx hb dX12_orders_102 rfl (lv_at hl 1 rfl) ?_
                  refine q_getC E hC60 g0 fa_RX12_35 uc dX12_orders_103 ?_
                  refine lv_sipush (v := 2324) hx hb dX12_orders_106 rfl ?_
                  refine lv_iload_n hx hb dX12_orders_109 rfl (lv_at hl 0 rfl) ?_
                  refine lv_iadd hx hb dX12_orders_110 (lv_topi (fun v68 ev68 => ?_))
                  have ev68i : v68.toInt = (2324 + z59) := i_add ev68 (by decide) ev59 (by omega) (by omega)
                  refine q_cald E hC60 (lo := -2147483648) (hi := 2147483647) gca (a := (2324 + z59)) ev68i (by omega) (by omega) (cr_n244 (by omega) (by omega)) dX12_orders_111 (fun v69 ev69 _ _ => ?_)
                  refine q_cast E hC60 hS60 gca (a := (244 + z59)) ev67i (by omega) (by omega) (cs_c244 (a := (244 + z59)) (by omega) (by omega)) dX12_orders_112 (fun H70 locs70 hC70 hS70 U70 => ?_)
                  have hKp70 := Kp.upD gca rfl rfl (fun _ => ⟨fun h => absurd h (by decide), fun _ => by unfold dpu; omega, fun _ => by unfold dpn; omega⟩) U70 hKp60
                  replace kd2 : KD H0 H70 ca 242 520 := KD.up kd2 U70 (by omega) (by omega)
                  replace sw : SWc bL H70 ca 0 nL := SWc.up sw U70 (by omega) (by omega)
                  replace h243 : EQ H70 ca 243 nn := EQ.up h243 U70 ⟨by omega, by omega⟩ (by omega)
                  have m71 : (sI H70 h0 (X.1.2 11 12)).toInt = (sI H60 h0 (X.1.2 11 12)).toInt := congrArg Int32.toInt (up_nI U70 (ne_k g0 gca (by decide)))
                  have m72 : (sI H70 h0 (X.1.2 11 25)).toInt = (sI H60 h0 (X.1.2 11 25)).toInt := congrArg Int32.toInt (up_nI U70 (ne_k g0 gca (by decide)))
                  have m73 : (sI H70 h0 (X.1.2 11 8)).toInt = (sI H60 h0 (X.1.2 11 8)).toInt := congrArg Int32.toInt (up_nI U70 (ne_k g0 gca (by decide)))
                  have cpd : CPd H70 ca 2324 244 (z59 + 1) := CPd.step cpd (a := (244 + z59)) rfl U70 ev69 (by omega) (by omega) (by omega)
                  have e74 := up_I U70
                  obtain ⟨v75, ev75⟩ : ∃ z, z = v59 + Int32.ofInt 1 := ⟨_, rfl⟩
                  have ev75i : v75.toInt = (z59 + 1) := i_add ev75 ev59 (by decide) (by omega) (by omega)
                  refine lv_iinc hx hb dX12_orders_113 hl (k := 0) rfl ev75.symm (by decide) rfl (fun ls hl => ?_)
                  replace hl : lv_has ls 3 [(2, .int v75), (0, .ref h0), (1, .int p1)] := hl
                  refine lv_goto (tgt := 82) hx hb dX12_orders_116 rfl ?_
                  exact ih60 H70 locs70 v75 ((z59 + 1)) ls (by omega) ev75i (by omega) (by omega) (by omega) (by omega) (cpd) (by omega) hC70 hS70 hKp70 kd2 sw h243 hl
            exact L82 _ H54 locs54 0 0 ls (Nat.lt_succ_self _) (by decide) (by omega) (by omega) (by omega) (by omega) (CPd.nil (by omega)) (by omega) hC54 hS54 hKp54 kd2 sw h243 hl
          · refine q_if_ne hx hb (a := 0) (by decide) (tgt := 59) dX12_orders_54 rfl (fun c76 => absurd c76 (by omega)) (fun c76 => ?_)
            refine lv_iconst (v := (-1)) hx hb dX12_orders_57 rfl ?_
            have hpost := Or.inl (b := (KD H0 H43 ca 242 520 ∧ SW H43 ca 0)) kd
            have c77 : ((-1) : Int32).toInt = (-1) := (by decide)
            exact ret (-1) H43 locs43 _ _ dX12_orders_58 ⟨hKp43, ⟨hpost, by omega⟩⟩ hC43 hS43
        · refine lv_aload_n hx hb dX12_orders_35 rfl (lv_at hl 0 rfl) ?_
          refine q_getI E hC39 g0 fa_RX12_120 dX12_orders_36 (fun v78 ev78 _ _ => ?_)
          refine q_if_eq hx hb (a := v78.toInt) rfl (tgt := 50) dX12_orders_39 rfl (fun c79 => ?_) (fun c79 => ?_)
          · refine lv_aload_n hx hb dX12_orders_50 rfl (lv_at hl 0 rfl) ?_
            refine q_goI (q_runV (As := []) (rest := []) E hC39 hS39 (m_X12_isWell l X Γ H39 hC39 h0 g0 ca gca uc) cw_X12_isWell cl_RX12_267 g0 ⟨rfl, rfl⟩ rfl hl.1 rfl (Nat.zero_le _) (by decide) dX12_orders_51) hS39 (fun v80 H80 locs80 hr80 hC80 hS80 => ?_)
            obtain ⟨hp80, hr80⟩ := hr80
            have hKp80 := hKp39.tr (hp80.mono rfl)
            replace kd : KD H0 H80 ca 0 0 := KD.kp kd hp80 gca rfl rfl
            replace kd2 : KD H0 H80 ca 242 520 := KD.kp kd2 hp80 gca rfl rfl
            replace sw : SWc bL H80 ca 0 nL := SWc.kp sw hp80 gca rfl (by omega)
            have m81 : (sI H80 h0 (X.1.2 11 25)).toInt = (sI H39 h0 (X.1.2 11 25)).toInt := congrArg Int32.toInt (kp_I hp80 g0 (k := 25) rfl (by decide) rfl)
            have m82 : (sI H80 h0 (X.1.2 11 8)).toInt = (sI H39 h0 (X.1.2 11 8)).toInt := congrArg Int32.toInt (kp_I hp80 g0 (k := 8) rfl (by decide) rfl)
            rcases hr80 with ⟨rfl, f80a⟩ | ⟨rfl, -⟩
            · refine q_if_ne hx hb (a := 1) (by decide) (tgt := 59) dX12_orders_54 rfl (fun c83 => ?_) (fun c83 => absurd c83 (by omega))
              refine lv_aload_n hx hb dX12_orders_59 rfl (lv_at hl 0 rfl) ?_
              refine q_getC E hC80 g0 fa_RX12_35 uc dX12_orders_60 ?_
              refine lv_sipush (v := 242) hx hb dX12_orders_63 rfl ?_
              refine lv_iconst (v := 1) hx hb dX12_orders_66 rfl ?_
              refine q_cast E hC80 hS80 gca (a := 242) (show (242 : Int32).toInt = 242 from by decide) (by omega) (by omega) (cs_c134 (a := 242) (by omega) (by omega)) dX12_orders_67 (fun H84 locs84 hC84 hS84 U84 => ?_)
              have hKp84 := Kp.upD gca rfl rfl (fun _ => ⟨fun h => absurd h (by decide), fun _ => by unfold dpu; omega, fun _ => by unfold dpn; omega⟩) U84 hKp80
              replace kd2 : KD H0 H84 ca 242 520 := KD.up kd2 U84 (by omega) (by omega)
              replace sw : SWc bL H84 ca 0 nL := SWc.up sw U84 (by omega) (by omega)
              have m85 : (sI H84 h0 (X.1.2 11 12)).toInt = (sI H80 h0 (X.1.2 11 12)).toInt := congrArg Int32.toInt (up_nI U84 (ne_k g0 gca (by decide)))
              have m86 : (sI H84 h0 (X.1.2 11 25)).toInt = (sI H80 h0 (X.1.2 11 25)).toInt := congrArg Int32.toInt (up_nI U84 (ne_k g0 gca (by decide)))
              have m87 : (sI H84 h0 (X.1.2 11 8)).toInt = (sI H80 h0 (X.1.2 11 8)).toInt := congrArg Int32.toInt (up_nI U84 (ne_k g0 gca (by decide)))
              have e88 := up_I U84
              refine lv_aload_n hx hb dX12_orders_68 rfl (lv_at hl 0 rfl) ?_
              refine q_getC E hC84 g0 fa_RX12_35 uc dX12_orders_69 ?_
              refine lv_sipush (v := 243) hx hb dX12_orders_72 rfl ?_
              refine lv_aload_n hx hb dX12_orders_75 rfl (lv_at hl 0 rfl) ?_
              refine q_getI E hC84 g0 fa_RX12_283 dX12_orders_76 (fun v89 ev89 lv89 uv89 => ?_)
              have m90 : (sI H84 h0 (X.1.2 11 25)).toInt = v89.toInt := (congrArg Int32.toInt ev89).trans rfl
              refine q_cast E hC84 hS84 gca (a := 243) (show (243 : Int32).toInt = 243 from by decide) (by omega) (by omega) (cs_c243 (a := 243) (b := v89.toInt) (by omega) (by omega) rfl (by omega) (by omega)) dX12_orders_79 (fun H91 locs91 hC91 hS91 U91 => ?_)
              have hKp91 := Kp.upD gca rfl rfl (fun _ => ⟨fun h => absurd h (by decide), fun _ => by unfold dpu; omega, fun _ => by unfold dpn; omega⟩) U91 hKp84
              replace kd2 : KD H0 H91 ca 242 520 := KD.up kd2 U91 (by omega) (by omega)
              replace sw : SWc bL H91 ca 0 nL := SWc.up sw U91 (by omega) (by omega)
              have m92 : (sI H91 h0 (X.1.2 11 12)).toInt = (sI H84 h0 (X.1.2 11 12)).toInt := congrArg Int32.toInt (up_nI U91 (ne_k g0 gca (by decide)))
              have m93 : (sI H91 h0 (X.1.2 11 25)).toInt = (sI H84 h0 (X.1.2 11 25)).toInt := congrArg Int32.toInt (up_nI U91 (ne_k g0 gca (by decide)))
              have m94 : (sI H91 h0 (X.1.2 11 8)).toInt = (sI H84 h0 (X.1.2 11 8)).toInt := congrArg Int32.toInt (up_nI U91 (ne_k g0 gca (by decide)))
              obtain ⟨nn, hnn⟩ : ∃ z, v89.toInt = z := ⟨_, rfl⟩
              have h243 : EQ H91 ca 243 nn := (congrArg Int32.toInt (up_I U91)).trans (rfl.trans hnn)
              have e95 := up_I U91
              refine lv_iconst (v := 0) hx hb dX12_orders_80 rfl ?_
              refine lv_istore_n hx hb dX12_orders_81 rfl hl (by decide) rfl (fun ls hl => ?_)
              replace hl : lv_has ls 3 [(2, .int 0), (0, .ref h0), (1, .int p1)] := hl
              have L82 : ∀ (n97 : Nat) (H97 : Heap) (locs97 : List Loc) (v96 : Int32) (z96 : Int) (ls : Array Slot), (270 - z96).toNat < n97 → v96.toInt = z96 → 0 ≤ z96 → 0 ≤ z96 → z96 ≤ 270 → (sI H97 h0 (X.1.2 11 25)).toInt = nn → CPd H97 ca 2324 244 z96 → (sI H97 h0 (X.1.2 11 8)).toInt = 0 → Conf X Γ H97 → va_S (AΓ Γ) H0 H97 locs97 → Kp X Γ [1, 6, 8, 9, 11, 12, 16, 17, 19, 22, 24, 26, 28] H0 H97 → (KD H0 H97 ca 242 520) → (SWc bL H97 ca 0 nL) → (EQ H97 ca 243 nn) → lv_has ls 3 [(2, .int v96), (0, .ref h0), (1, .int p1)] → W p l e (rmL 10) s m args below meth c H97 locs97 0 0 Qz (F0 m 82 ls []) := by
                intro n97
                induction n97 with
                | zero => intro H97 locs97 v96 z96 ls hm97 ev96 iv97_0 iv97_1 iv97_2 iv97_3 iv97_4 iv97_5 hC97 hS97 hKp97 kd2 sw h243 hl; exact absurd hm97 (Nat.not_lt_zero _)
                | succ n97 ih97 =>
                  intro H97 locs97 v96 z96 ls hm97 ev96 iv97_0 iv97_1 iv97_2 iv97_3 iv97_4 iv97_5 hC97 hS97 hKp97 kd2 sw h243 hl
                  have cpd := iv97_4
                  refine lv_iload_n hx hb dX12_orders_82 rfl (lv_at hl 0 rfl) ?_
                  refine lv_bipush (v := 9) hx hb dX12_orders_83 rfl ?_
                  refine lv_aload_n hx hb dX12_orders_85 rfl (lv_at hl 1 rfl) ?_
                  refine q_getI E hC97 g0 fa_RX12_283 dX12_orders_86 (fun v98 ev98 lv98 uv98 => ?_)
                  have m99 : (sI H97 h0 (X.1.2 11 25)).toInt = v98.toInt := (congrArg Int32.toInt ev98).trans rfl
                  refine lv_imul hx hb dX12_orders_89 (lv_topi (fun v100 ev100 => ?_))
                  have ev100i : v100.toInt = (9 * v98.toInt) := i_mul ev100 (by decide) rfl (by omega) (by omega)
                  refine q_icmp_ge hx hb (a := z96) (b := (9 * v98.toInt)) ev96 ev100i (tgt := 119) dX12_orders_90 rfl (fun c101 => ?_) (fun c101 => ?_)
                  · refine lv_aload_n hx hb dX12_orders_119 rfl (lv_at hl 1 rfl) ?_
                    refine q_getI E hC97 g0 fa_RX12_283 dX12_orders_120 (fun v102 ev102 lv102 uv102 => ?_)
                    have qv102 := ev98.symm.trans ev102; subst qv102
                    have hpost := Or.inr (a := KD H0 H97 ca 0 0) (And.intro kd2 (SW.fin (n := nn) (by have h := sw (by omega); rw [show nL = nn from (by omega)] at h; exact h) h243 (CPd.mono cpd (by omega))))
                    have c103 : v98.toInt = v98.toInt := rfl
                    exact ret v98 H97 locs97 _ _ dX12_orders_123 ⟨hKp97, ⟨hpost, by omega⟩⟩ hC97 hS97
                  · refine lv_aload_n hx hb dX12_orders_93 rfl (lv_at hl 1 rfl) ?_
                    refine q_getC E hC97 g0 fa_RX12_35 uc dX12_orders_94 ?_
                    refine lv_sipush (v := 244) hx hb dX12_orders_97 rfl ?_
                    refine lv_iload_n hx hb dX12_orders_100 rfl (lv_at hl 0 rfl) ?_
                    refine lv_iadd hx hb dX12_orders_101 (lv_topi (fun v104 ev104 => ?_))
                    have ev104i : v104.toInt = (244 + z96) := i_add ev104 (by decide) ev96 (by omega) (by omega)
                    refine lv_aload_n hx hb dX12_orders_102 rfl (lv_at hl 1 rfl) ?_
                    refine q_getC E hC97 g0 fa_RX12_35 uc dX12_orders_103 ?_
                    refine lv_sipush (v := 2324) hx hb dX12_orders_106 rfl ?_
                    refine lv_iload_n hx hb dX12_orders_109 rfl (lv_at hl 0 rfl) ?_
                    refine lv_iadd hx hb dX12_orders_110 (lv_topi (fun v105 ev105 => ?_))
                    have ev105i : v105.toInt = (2324 + z96) := i_add ev105 (by decide) ev96 (by omega) (by omega)
                    refine q_cald E hC97 (lo := -2147483648) (hi := 2147483647) gca (a := (2324 + z96)) ev105i (by omega) (by omega) (cr_n244 (by omega) (by omega)) dX12_orders_111 (fun v106 ev106 _ _ => ?_)
                    refine q_cast E hC97 hS97 gca (a := (244 + z96)) ev104i (by omega) (by omega) (cs_c244 (a := (244 + z96)) (by omega) (by omega)) dX12_orders_112 (fun H107 locs107 hC107 hS107 U107 => ?_)
                    have hKp107 := Kp.upD gca rfl rfl (fun _ => ⟨fun h => absurd h (by decide), fun _ => by unfold dpu; omega, fun _ => by unfold dpn; omega⟩) U107 hKp97
                    replace kd2 : KD H0 H107 ca 242 520 := KD.up kd2 U107 (by omega) (by omega)
                    replace sw : SWc bL H107 ca 0 nL := SWc.up sw U107 (by omega) (by omega)
                    replace h243 : EQ H107 ca 243 nn := EQ.up h243 U107 ⟨by omega, by omega⟩ (by omega)
                    have m108 : (sI H107 h0 (X.1.2 11 12)).toInt = (sI H97 h0 (X.1.2 11 12)).toInt := congrArg Int32.toInt (up_nI U107 (ne_k g0 gca (by decide)))
                    have m109 : (sI H107 h0 (X.1.2 11 25)).toInt = (sI H97 h0 (X.1.2 11 25)).toInt := congrArg Int32.toInt (up_nI U107 (ne_k g0 gca (by decide)))
                    have m110 : (sI H107 h0 (X.1.2 11 8)).toInt = (sI H97 h0 (X.1.2 11 8)).toInt := congrArg Int32.toInt (up_nI U107 (ne_k g0 gca (by decide)))
                    have cpd : CPd H107 ca 2324 244 (z96 + 1) := CPd.step cpd (a := (244 + z96)) rfl U107 ev106 (by omega) (by omega) (by omega)
                    have e111 := up_I U107
                    obtain ⟨v112, ev112⟩ : ∃ z, z = v96 + Int32.ofInt 1 := ⟨_, rfl⟩
                    have ev112i : v112.toInt = (z96 + 1) := i_add ev112 ev96 (by decide) (by omega) (by omega)
                    refine lv_iinc hx hb dX12_orders_113 hl (k := 0) rfl ev112.symm (by decide) rfl (fun ls hl => ?_)
                    replace hl : lv_has ls 3 [(2, .int v112), (0, .ref h0), (1, .int p1)] := hl
                    refine lv_goto (tgt := 82) hx hb dX12_orders_116 rfl ?_
                    exact ih97 H107 locs107 v112 ((z96 + 1)) ls (by omega) ev112i (by omega) (by omega) (by omega) (by omega) (cpd) (by omega) hC107 hS107 hKp107 kd2 sw h243 hl
              exact L82 _ H91 locs91 0 0 ls (Nat.lt_succ_self _) (by decide) (by omega) (by omega) (by omega) (by omega) (CPd.nil (by omega)) (by omega) hC91 hS91 hKp91 kd2 sw h243 hl
            · refine q_if_ne hx hb (a := 0) (by decide) (tgt := 59) dX12_orders_54 rfl (fun c113 => absurd c113 (by omega)) (fun c113 => ?_)
              refine lv_iconst (v := (-1)) hx hb dX12_orders_57 rfl ?_
              have hpost := Or.inl (b := (KD H0 H80 ca 242 520 ∧ SW H80 ca 0)) kd
              have c114 : ((-1) : Int32).toInt = (-1) := (by decide)
              exact ret (-1) H80 locs80 _ _ dX12_orders_58 ⟨hKp80, ⟨hpost, by omega⟩⟩ hC80 hS80
          · refine lv_aload_n hx hb dX12_orders_42 rfl (lv_at hl 0 rfl) ?_
            refine lv_iconst (v := 0) hx hb dX12_orders_43 rfl ?_
            refine q_goV (q_runV (As := [.int 0]) (rest := []) E hC39 hS39 (m_X12_readStep l X Γ 3 H39 hC39 h0 g0 0 (a1 := 0) (by decide) ca gca uc (by omega) (by omega) (by omega)) cw_X12_readStep cl_RX12_289 g0 ⟨rfl, rfl⟩ rfl hl.1 rfl (Nat.zero_le _) (by decide) dX12_orders_44) hS39 (fun H115 locs115 hr115 hC115 hS115 => ?_)
            obtain ⟨hp115, hr115⟩ := hr115
            have hKp115 := hKp39.tr (hp115.mono rfl)
            replace kd : KD H0 H115 ca 0 0 := KD.kp kd hp115 gca rfl rfl
            replace kd2 : KD H0 H115 ca 242 520 := KD.kp kd2 hp115 gca rfl rfl
            have m116 : (sI H115 h0 (X.1.2 11 8)).toInt = (sI H39 h0 (X.1.2 11 8)).toInt := congrArg Int32.toInt (kp_I hp115 g0 (k := 8) rfl (by decide) rfl)
            obtain ⟨f115_0, f115_1, f115_2, f115_3, f115_4, f115_5, f115_6⟩ := hr115
            have swi : SWc (sI H115 h0 (X.1.2 11 12)).toInt H115 ca 0 (sI H115 h0 (X.1.2 11 25)).toInt := SWc.step swi f115_5 f115_6 (by omega) (by omega) (by omega) (by omega)
            refine lv_goto (tgt := 28) hx hb dX12_orders_47 rfl ?_
            exact ih39 H115 locs115 ls (by omega) (swi) (by omega) hC115 hS115 hKp115 kd kd2 hl
    exact L28 33 H34 locs34 ls (by omega) (fun _ => SWn.nil (by omega)) (by omega) hC34 hS34 hKp34 kd kd2 hl
  · refine q_if_ne hx hb (a := 0) (by decide) (tgt := 23) dX12_orders_18 rfl (fun c117 => absurd c117 (by omega)) (fun c117 => ?_)
    refine lv_iconst (v := (-1)) hx hb dX12_orders_21 rfl ?_
    have hpost := Or.inl (b := (KD H0 H31 ca 242 520 ∧ SW H31 ca 0)) kd
    have c118 : ((-1) : Int32).toInt = (-1) := (by decide)
    exact ret (-1) H31 locs31 _ _ dX12_orders_22 ⟨hKp31, ⟨hpost, by omega⟩⟩ hC31 hS31
set_option maxRecDepth 100000 in
set_option maxHeartbeats 4000000 in
theorem m_X12_allOf (l : Launch) (X : xW) (Γ : Nat → Option Nat) (H0 : Heap) (hC0 : Conf X Γ H0) (h0 : Nat) (g0 : Γ h0 = some 11) (p1 : Int32) {a1 : Int} (e1 : p1.toInt = a1) (ca : Nat) (gca : Γ ca = some 64) (uc : ∀ a, Γ a = some 64 → a = ca) (r0 : 0 ≤ a1) (r1 : a1 ≤ 2000) : Ctr l X Γ yX12_allOf cX12_allOf 4 (some .int) 0 [.ref h0, .int p1] H0 (QI X Γ (fun v H1 => H1 = H0 ∧ (True))) := by
  refine q_enterI (own := "SnowFortsModel") (by decide) rfl (Nat.le_of_ble_eq_true rfl) ?_
  intro p e s m args below meth c ls Qz E hl ret hS0
  have hx := E.1; have hb := E.2.1
  have hl : lv_has ls 4 [(0, .ref h0), (1, .int p1)] := hl
  refine lv_iconst (v := 0) hx hb dX12_allOf_0 rfl ?_
  refine lv_istore_n hx hb dX12_allOf_1 rfl hl (by decide) rfl (fun ls hl => ?_)
  replace hl : lv_has ls 4 [(2, .int 0), (0, .ref h0), (1, .int p1)] := hl
  refine lv_iconst (v := 0) hx hb dX12_allOf_2 rfl ?_
  refine lv_istore_n hx hb dX12_allOf_3 rfl hl (by decide) rfl (fun ls hl => ?_)
  replace hl : lv_has ls 4 [(3, .int 0), (2, .int 0), (0, .ref h0), (1, .int p1)] := hl
  have L4 : ∀ (n23 : Nat) (locs23 : List Loc) (v21 : Int32) (z21 : Int) (v22 : Int32) (z22 : Int) (ls : Array Slot), (36 - z21).toNat < n23 → v21.toInt = z21 → v22.toInt = z22 → z21 ≤ 36 → 0 ≤ z21 → va_S (AΓ Γ) H0 H0 locs23 → lv_has ls 4 [(3, .int v21), (2, .int v22), (0, .ref h0), (1, .int p1)] → W p l e (rmL 0) s m args below meth c H0 locs23 0 0 Qz (F0 m 4 ls []) := by
    intro n23
    induction n23 with
    | zero => intro locs23 v21 z21 v22 z22 ls hm23 ev21 ev22 iv23_0 iv23_1 hS23 hl; exact absurd hm23 (Nat.not_lt_zero _)
    | succ n23 ih23 =>
      intro locs23 v21 z21 v22 z22 ls hm23 ev21 ev22 iv23_0 iv23_1 hS23 hl
      refine lv_iload_n hx hb dX12_allOf_4 rfl (lv_at hl 0 rfl) ?_
      refine lv_bipush (v := 36) hx hb dX12_allOf_5 rfl ?_
      refine q_icmp_ge hx hb (a := z21) (b := 36) ev21 (by decide) (tgt := 27) dX12_allOf_7 rfl (fun c24 => ?_) (fun c24 => ?_)
      · refine lv_iload_n hx hb dX12_allOf_27 rfl (lv_at hl 1 rfl) ?_
        exact ret v22 H0 locs23 _ _ dX12_allOf_28 ⟨rfl, trivial⟩ hC0 hS23
      · refine lv_iload_n hx hb dX12_allOf_10 rfl (lv_at hl 1 rfl) ?_
        refine lv_aload_n hx hb dX12_allOf_11 rfl (lv_at hl 2 rfl) ?_
        refine q_getC E hC0 g0 fa_RX12_35 uc dX12_allOf_12 ?_
        refine lv_iload_n hx hb dX12_allOf_15 rfl (lv_at hl 3 rfl) ?_
        refine lv_iload_n hx hb dX12_allOf_16 rfl (lv_at hl 0 rfl) ?_
        refine lv_iadd hx hb dX12_allOf_17 (lv_topi (fun v25 ev25 => ?_))
        have ev25i : v25.toInt = (a1 + z21) := i_add ev25 e1 ev21 (by omega) (by omega)
        refine q_cald E hC0 (lo := -2147483648) (hi := 2147483647) gca (a := (a1 + z21)) ev25i (by omega) (by omega) (fun _ h => cT_any h) dX12_allOf_18 (fun v26 ev26 _ _ => ?_)
        refine lv_iadd hx hb dX12_allOf_19 (lv_topi (fun v27 ev27 => ?_))
        refine lv_istore_n hx hb dX12_allOf_20 rfl hl (by decide) rfl (fun ls hl => ?_)
        replace hl : lv_has ls 4 [(2, .int v27), (3, .int v21), (0, .ref h0), (1, .int p1)] := hl
        obtain ⟨v28, ev28⟩ : ∃ z, z = v21 + Int32.ofInt 1 := ⟨_, rfl⟩
        have ev28i : v28.toInt = (z21 + 1) := i_add ev28 ev21 (by decide) (by omega) (by omega)
        refine lv_iinc hx hb dX12_allOf_21 hl (k := 1) rfl ev28.symm (by decide) rfl (fun ls hl => ?_)
        replace hl : lv_has ls 4 [(3, .int v28), (2, .int v27), (0, .ref h0), (1, .int p1)] := hl
        refine lv_goto (tgt := 4) hx hb dX12_allOf_24 rfl ?_
        exact ih23 locs23 v28 ((z21 + 1)) v27 (v27.toInt) ls (by omega) ev28i rfl (by omega) (by omega) hS23 hl
  exact L4 _ [] 0 0 0 0 ls (Nat.lt_succ_self _) (by decide) (by decide) (by omega) (by omega) hS0 hl
set_option maxRecDepth 100000 in
set_option maxHeartbeats 4000000 in
theorem m_X12_refuse (l : Launch) (X : xW) (Γ : Nat → Option Nat) (H0 : Heap) (hC0 : Conf X Γ H0) (h0 : Nat) (g0 : Γ h0 = some 11) (p1 : Int32) {a1 : Int} (e1 : p1.toInt = a1) (ca : Nat) (gca : Γ ca = some 64) (uc : ∀ a, Γ a = some 64 → a = ca) : Ctr l X Γ yX12_refuse cX12_refuse 2 (some .int) 0 [.ref h0, .int p1] H0 (QI X Γ (fun v H1 => Kp X Γ [1, 6, 7, 8, 9, 10, 11, 12, 14, 15, 16, 17, 19, 22, 24, 26, 28] H0 H1 ∧ ((v.toInt = -1)))) := by
  refine q_enterI (own := "SnowFortsModel") (by decide) rfl (Nat.le_of_ble_eq_true rfl) ?_
  intro p e s m args below meth c ls Qz E hl ret hS0
  have hx := E.1; have hb := E.2.1
  have hKp0 : Kp X Γ [1, 6, 7, 8, 9, 10, 11, 12, 14, 15, 16, 17, 19, 22, 24, 26, 28] H0 H0 := Kp.rf
  have hl : lv_has ls 2 [(0, .ref h0), (1, .int p1)] := hl
  refine lv_aload_n hx hb dX12_refuse_0 rfl (lv_at hl 0 rfl) ?_
  refine lv_iload_n hx hb dX12_refuse_1 rfl (lv_at hl 1 rfl) ?_
  refine q_put E hC0 hS0 g0 fp_RX12_72 tv_F rfl rfl dX12_refuse_2 (fun H21 locs21 hC21 hS21 U21 => ?_)
  have hKp21 := Kp.upO E g0 fp_RX12_72 rfl U21 hKp0
  have e22 := up_I U21
  refine lv_iconst (v := (-1)) hx hb dX12_refuse_5 rfl ?_
  have c23 : ((-1) : Int32).toInt = (-1) := (by decide)
  exact ret (-1) H21 locs21 _ _ dX12_refuse_6 ⟨hKp21, by omega⟩ hC21 hS21
set_option maxRecDepth 100000 in
set_option maxHeartbeats 4000000 in
theorem m_X12_many (l : Launch) (X : xW) (Γ : Nat → Option Nat) (H0 : Heap) (hC0 : Conf X Γ H0) (h0 : Nat) (g0 : Γ h0 = some 11) (p1 : Int32) {a1 : Int} (e1 : p1.toInt = a1) (ca : Nat) (gca : Γ ca = some 64) (uc : ∀ a, Γ a = some 64 → a = ca) : Ctr l X Γ yX12_many cX12_many 2 (some .int) 1 [.ref h0, .int p1] H0 (QI X Γ (fun v H1 => Kp X Γ [1, 6, 7, 8, 9, 10, 11, 12, 14, 15, 16, 17, 19, 22, 24, 26, 28] H0 H1 ∧ (True))) := by
  refine q_enterI (own := "SnowFortsModel") (by decide) rfl (Nat.le_of_ble_eq_true rfl) ?_
  intro p e s m args below meth c ls Qz E hl ret hS0
  have hx := E.1; have hb := E.2.1
  have hKp0 : Kp X Γ [1, 6, 7, 8, 9, 10, 11, 12, 14, 15, 16, 17, 19, 22, 24, 26, 28] H0 H0 := Kp.rf
  have hl : lv_has ls 2 [(0, .ref h0), (1, .int p1)] := hl
  refine lv_aload_n hx hb dX12_many_0 rfl (lv_at hl 0 rfl) ?_
  refine lv_iconst (v := 0) hx hb dX12_many_1 rfl ?_
  refine q_put E hC0 hS0 g0 fp_RX12_69 tv_F rfl rfl dX12_many_2 (fun H21 locs21 hC21 hS21 U21 => ?_)
  have hKp21 := Kp.upO E g0 fp_RX12_69 rfl U21 hKp0
  have e22 := up_I U21
  refine lv_aload_n hx hb dX12_many_5 rfl (lv_at hl 0 rfl) ?_
  refine lv_iconst (v := 0) hx hb dX12_many_6 rfl ?_
  refine q_put E hC21 hS21 g0 fp_RX12_72 tv_F rfl rfl dX12_many_7 (fun H23 locs23 hC23 hS23 U23 => ?_)
  have hKp23 := Kp.upO E g0 fp_RX12_72 rfl U23 hKp21
  have e24 := up_I U23
  refine lv_iload_n hx hb dX12_many_10 rfl (lv_at hl 1 rfl) ?_
  by_cases c25_0 : a1 = 0
  · have c25_x := (show p1.toInt = a1 from e1).trans c25_0
    refine lv_tableIn hx hb dX12_many_11 (by rw [c25_x]; decide) (by rw [c25_x]; decide) (off := 53) (by rw [c25_x]; rfl) (tgt := 64) rfl ?_
    refine lv_aload_n hx hb dX12_many_64 rfl (lv_at hl 0 rfl) ?_
    refine q_getC E hC23 g0 fa_RX12_35 uc dX12_many_65 ?_
    refine lv_iconst (v := 0) hx hb dX12_many_68 rfl ?_
    refine q_cald E hC23 (lo := 0) (hi := 6) gca (a := 0) (show (0 : Int32).toInt = 0 from by decide) (by omega) (by omega) (cr_c0 (by omega) (by omega)) dX12_many_69 (fun v26 ev26 lv26 uv26 => ?_)
    exact ret v26 H23 locs23 _ _ dX12_many_70 ⟨hKp23, trivial⟩ hC23 hS23
  by_cases c25_1 : a1 = 1
  · have c25_x := (show p1.toInt = a1 from e1).trans c25_1
    refine lv_tableIn hx hb dX12_many_11 (by rw [c25_x]; decide) (by rw [c25_x]; decide) (off := 60) (by rw [c25_x]; rfl) (tgt := 71) rfl ?_
    refine lv_aload_n hx hb dX12_many_71 rfl (lv_at hl 0 rfl) ?_
    refine q_getC E hC23 g0 fa_RX12_35 uc dX12_many_72 ?_
    refine lv_iconst (v := 1) hx hb dX12_many_75 rfl ?_
    refine q_cald E hC23 (lo := 0) (hi := 6) gca (a := 1) (show (1 : Int32).toInt = 1 from by decide) (by omega) (by omega) (cr_c0 (by omega) (by omega)) dX12_many_76 (fun v27 ev27 lv27 uv27 => ?_)
    exact ret v27 H23 locs23 _ _ dX12_many_77 ⟨hKp23, trivial⟩ hC23 hS23
  by_cases c25_2 : a1 = 2
  · have c25_x := (show p1.toInt = a1 from e1).trans c25_2
    refine lv_tableIn hx hb dX12_many_11 (by rw [c25_x]; decide) (by rw [c25_x]; decide) (off := 67) (by rw [c25_x]; rfl) (tgt := 78) rfl ?_
    refine lv_aload_n hx hb dX12_many_78 rfl (lv_at hl 0 rfl) ?_
    refine q_getC E hC23 g0 fa_RX12_35 uc dX12_many_79 ?_
    refine lv_iconst (v := 2) hx hb dX12_many_82 rfl ?_
    refine q_cald E hC23 (lo := 0) (hi := 2) gca (a := 2) (show (2 : Int32).toInt = 2 from by decide) (by omega) (by omega) (cr_c2 (by omega) (by omega)) dX12_many_83 (fun v28 ev28 lv28 uv28 => ?_)
    exact ret v28 H23 locs23 _ _ dX12_many_84 ⟨hKp23, trivial⟩ hC23 hS23
  by_cases c25_3 : a1 = 3
  · have c25_x := (show p1.toInt = a1 from e1).trans c25_3
    refine lv_tableIn hx hb dX12_many_11 (by rw [c25_x]; decide) (by rw [c25_x]; decide) (off := 74) (by rw [c25_x]; rfl) (tgt := 85) rfl ?_
    refine lv_aload_n hx hb dX12_many_85 rfl (lv_at hl 0 rfl) ?_
    refine q_getC E hC23 g0 fa_RX12_35 uc dX12_many_86 ?_
    refine lv_iconst (v := 3) hx hb dX12_many_89 rfl ?_
    refine q_cald E hC23 (lo := -2147483648) (hi := 2147483647) gca (a := 3) (show (3 : Int32).toInt = 3 from by decide) (by omega) (by omega) (cr_c3 (by omega) (by omega)) dX12_many_90 (fun v29 ev29 _ _ => ?_)
    exact ret v29 H23 locs23 _ _ dX12_many_91 ⟨hKp23, trivial⟩ hC23 hS23
  by_cases c25_4 : a1 = 4
  · have c25_x := (show p1.toInt = a1 from e1).trans c25_4
    refine lv_tableIn hx hb dX12_many_11 (by rw [c25_x]; decide) (by rw [c25_x]; decide) (off := 81) (by rw [c25_x]; rfl) (tgt := 92) rfl ?_
    refine lv_aload_n hx hb dX12_many_92 rfl (lv_at hl 0 rfl) ?_
    refine q_getC E hC23 g0 fa_RX12_35 uc dX12_many_93 ?_
    refine lv_iconst (v := 4) hx hb dX12_many_96 rfl ?_
    refine q_cald E hC23 (lo := -2147483648) (hi := 2147483647) gca (a := 4) (show (4 : Int32).toInt = 4 from by decide) (by omega) (by omega) (cr_c3 (by omega) (by omega)) dX12_many_97 (fun v30 ev30 _ _ => ?_)
    exact ret v30 H23 locs23 _ _ dX12_many_98 ⟨hKp23, trivial⟩ hC23 hS23
  by_cases c25_5 : a1 = 5
  · have c25_x := (show p1.toInt = a1 from e1).trans c25_5
    refine lv_tableIn hx hb dX12_many_11 (by rw [c25_x]; decide) (by rw [c25_x]; decide) (off := 88) (by rw [c25_x]; rfl) (tgt := 99) rfl ?_
    refine lv_aload_n hx hb dX12_many_99 rfl (lv_at hl 0 rfl) ?_
    refine lv_bipush (v := 26) hx hb dX12_many_100 rfl ?_
    refine q_goIp (q_runV (As := [.int 26]) (rest := []) E hC23 hS23 (m_X12_allOf l X Γ H23 hC23 h0 g0 26 (a1 := 26) (by decide) ca gca uc (by omega) (by omega)) cw_X12_allOf cl_RX12_295 g0 ⟨rfl, rfl⟩ rfl hl.1 rfl (Nat.zero_le _) (by decide) dX12_many_102) hS23 (fun v31 locs31 hr31 hS31 => ?_)
    exact ret v31 H23 locs31 _ _ dX12_many_105 ⟨hKp23, trivial⟩ hC23 hS31
  by_cases c25_6 : a1 = 6
  · have c25_x := (show p1.toInt = a1 from e1).trans c25_6
    refine lv_tableIn hx hb dX12_many_11 (by rw [c25_x]; decide) (by rw [c25_x]; decide) (off := 95) (by rw [c25_x]; rfl) (tgt := 106) rfl ?_
    refine lv_aload_n hx hb dX12_many_106 rfl (lv_at hl 0 rfl) ?_
    refine lv_bipush (v := 62) hx hb dX12_many_107 rfl ?_
    refine q_goIp (q_runV (As := [.int 62]) (rest := []) E hC23 hS23 (m_X12_allOf l X Γ H23 hC23 h0 g0 62 (a1 := 62) (by decide) ca gca uc (by omega) (by omega)) cw_X12_allOf cl_RX12_295 g0 ⟨rfl, rfl⟩ rfl hl.1 rfl (Nat.zero_le _) (by decide) dX12_many_109) hS23 (fun v32 locs32 hr32 hS32 => ?_)
    exact ret v32 H23 locs32 _ _ dX12_many_112 ⟨hKp23, trivial⟩ hC23 hS32
  by_cases c25_7 : a1 = 7
  · have c25_x := (show p1.toInt = a1 from e1).trans c25_7
    refine lv_tableIn hx hb dX12_many_11 (by rw [c25_x]; decide) (by rw [c25_x]; decide) (off := 102) (by rw [c25_x]; rfl) (tgt := 113) rfl ?_
    refine lv_aload_n hx hb dX12_many_113 rfl (lv_at hl 0 rfl) ?_
    refine q_getC E hC23 g0 fa_RX12_35 uc dX12_many_114 ?_
    refine lv_iconst (v := 5) hx hb dX12_many_117 rfl ?_
    refine q_cald E hC23 (lo := -2147483648) (hi := 2147483647) gca (a := 5) (show (5 : Int32).toInt = 5 from by decide) (by omega) (by omega) (cr_c3 (by omega) (by omega)) dX12_many_118 (fun v33 ev33 _ _ => ?_)
    exact ret v33 H23 locs23 _ _ dX12_many_119 ⟨hKp23, trivial⟩ hC23 hS23
  by_cases c25_8 : a1 = 8
  · have c25_x := (show p1.toInt = a1 from e1).trans c25_8
    refine lv_tableIn hx hb dX12_many_11 (by rw [c25_x]; decide) (by rw [c25_x]; decide) (off := 109) (by rw [c25_x]; rfl) (tgt := 120) rfl ?_
    refine lv_aload_n hx hb dX12_many_120 rfl (lv_at hl 0 rfl) ?_
    refine q_getC E hC23 g0 fa_RX12_35 uc dX12_many_121 ?_
    refine lv_bipush (v := 6) hx hb dX12_many_124 rfl ?_
    refine q_cald E hC23 (lo := -2147483648) (hi := 2147483647) gca (a := 6) (show (6 : Int32).toInt = 6 from by decide) (by omega) (by omega) (cr_c3 (by omega) (by omega)) dX12_many_126 (fun v34 ev34 _ _ => ?_)
    exact ret v34 H23 locs23 _ _ dX12_many_127 ⟨hKp23, trivial⟩ hC23 hS23
  by_cases c25_9 : a1 = 9
  · have c25_x := (show p1.toInt = a1 from e1).trans c25_9
    refine lv_tableIn hx hb dX12_many_11 (by rw [c25_x]; decide) (by rw [c25_x]; decide) (off := 117) (by rw [c25_x]; rfl) (tgt := 128) rfl ?_
    refine lv_aload_n hx hb dX12_many_128 rfl (lv_at hl 0 rfl) ?_
    refine q_getC E hC23 g0 fa_RX12_35 uc dX12_many_129 ?_
    refine lv_bipush (v := 7) hx hb dX12_many_132 rfl ?_
    refine q_cald E hC23 (lo := -2147483648) (hi := 2147483647) gca (a := 7) (show (7 : Int32).toInt = 7 from by decide) (by omega) (by omega) (cr_c3 (by omega) (by omega)) dX12_many_134 (fun v35 ev35 _ _ => ?_)
    exact ret v35 H23 locs23 _ _ dX12_many_135 ⟨hKp23, trivial⟩ hC23 hS23
  refine lv_tableOut hx hb dX12_many_11 (by rw [show p1.toInt = a1 from e1]; omega) (tgt := 136) rfl ?_
  refine lv_aload_n hx hb dX12_many_136 rfl (lv_at hl 0 rfl) ?_
  refine lv_iconst (v := 5) hx hb dX12_many_137 rfl ?_
  refine q_goI (q_runV (As := [.int 5]) (rest := []) E hC23 hS23 (m_X12_refuse l X Γ H23 hC23 h0 g0 5 (a1 := 5) (by decide) ca gca uc) cw_X12_refuse cl_RX12_298 g0 ⟨rfl, rfl⟩ rfl hl.1 rfl (Nat.zero_le _) (by decide) dX12_many_138) hS23 (fun v36 H36 locs36 hr36 hC36 hS36 => ?_)
  obtain ⟨hp36, hr36⟩ := hr36
  have hKp36 := hKp23.tr (hp36.mono rfl)
  have f36_0 := hr36
  exact ret v36 H36 locs36 _ _ dX12_many_141 ⟨hKp36, trivial⟩ hC36 hS36
set_option maxRecDepth 100000 in
set_option maxHeartbeats 4000000 in
theorem m_X12_isCell (l : Launch) (X : xW) (Γ : Nat → Option Nat) (H0 : Heap) (hC0 : Conf X Γ H0) (h0 : Nat) (g0 : Γ h0 = some 11) (p1 : Int32) {a1 : Int} (e1 : p1.toInt = a1) (p2 : Int32) {a2 : Int} (e2 : p2.toInt = a2) (ca : Nat) (gca : Γ ca = some 64) (uc : ∀ a, Γ a = some 64 → a = ca) : Ctr l X Γ yX12_isCell cX12_isCell 3 (some .boolean) 1 [.ref h0, .int p1, .int p2] H0 (QI X Γ (fun v H1 => H1 = H0 ∧ ((v = 1 ∧ (0 ≤ a1 ∧ a1 ≤ 5 ∧ 0 ≤ a2 ∧ a2 ≤ 5 ∧ a1 < (sI H0 ca (0 : Int).toNat).toInt ∧ a2 < (sI H0 ca (1 : Int).toNat).toInt)) ∨ (v = 0 ∧ (a1 < 0 ∨ (sI H0 ca (0 : Int).toNat).toInt ≤ a1 ∨ a2 < 0 ∨ (sI H0 ca (1 : Int).toNat).toInt ≤ a2))))) := by
  refine q_enterZ (own := "SnowFortsModel") (by decide) rfl (Nat.le_of_ble_eq_true rfl) ?_
  intro p e s m args below meth c ls Qz E hl ret hS0
  have hx := E.1; have hb := E.2.1
  have hl : lv_has ls 3 [(0, .ref h0), (1, .int p1), (2, .int p2)] := hl
  obtain ⟨v21, ev21⟩ : ∃ z, sI H0 ca (0 : Int).toNat = z := ⟨_, rfl⟩
  have m22 : (sI H0 ca (0 : Int).toNat).toInt = v21.toInt := congrArg Int32.toInt ev21
  obtain ⟨v23, ev23⟩ : ∃ z, sI H0 ca (1 : Int).toNat = z := ⟨_, rfl⟩
  have m24 : (sI H0 ca (1 : Int).toNat).toInt = v23.toInt := congrArg Int32.toInt ev23
  refine lv_iload_n hx hb dX12_isCell_0 rfl (lv_at hl 1 rfl) ?_
  refine lv_i2l (v := p1.toInt64) hx hb dX12_isCell_1 rfl (lv_topl (fun v25 ev25 => ?_))
  have ev25i : v25.toInt = a1 := l_ofi ev25.symm e1
  refine lv_lconst (v := 0) hx hb dX12_isCell_2 rfl ?_
  refine lv_aload_n hx hb dX12_isCell_3 rfl (lv_at hl 0 rfl) ?_
  refine q_getC E hC0 g0 fa_RX12_35 uc dX12_isCell_4 ?_
  refine lv_iconst (v := 0) hx hb dX12_isCell_7 rfl ?_
  refine q_cald E hC0 (lo := 0) (hi := 6) gca (a := 0) (show (0 : Int32).toInt = 0 from by decide) (by omega) (by omega) (cr_c0 (by omega) (by omega)) dX12_isCell_8 (fun v26 ev26 lv26 uv26 => ?_)
  have qv26 := ev21.symm.trans ev26; subst qv26
  refine lv_iconst (v := 1) hx hb dX12_isCell_9 rfl ?_
  refine lv_isub hx hb dX12_isCell_10 (lv_topi (fun v27 ev27 => ?_))
  have ev27i : v27.toInt = (v21.toInt - 1) := i_sub ev27 rfl (by decide) (by omega) (by omega)
  refine lv_i2l (v := v27.toInt64) hx hb dX12_isCell_11 rfl (lv_topl (fun v28 ev28 => ?_))
  have ev28i : v28.toInt = (v21.toInt - 1) := l_ofi ev28.symm ev27i
  refine q_goIp (q_runS (As := [.long v25, .long 0, .long v28]) (rest := []) E hS0 (m_X12_isIn l X Γ H0 hC0 v25 (a0 := a1) ev25i 0 (a1 := 0) (show (0 : Int64).toInt = 0 from by decide) v28 (a2 := (v21.toInt - 1)) ev28i) cw_X12_isIn cl_RX12_104 rfl hl.1 rfl (Nat.zero_le _) (by decide) dX12_isCell_12) hS0 (fun v29 locs29 hr29 hS29 => ?_)
  rcases hr29 with ⟨rfl, f29a0, f29a1⟩ | ⟨rfl, f29b⟩
  · refine q_if_eq hx hb (a := 1) (by decide) (tgt := 40) dX12_isCell_15 rfl (fun c30 => absurd c30 (by omega)) (fun c30 => ?_)
    refine lv_iload_n hx hb dX12_isCell_18 rfl (lv_at hl 2 rfl) ?_
    refine lv_i2l (v := p2.toInt64) hx hb dX12_isCell_19 rfl (lv_topl (fun v31 ev31 => ?_))
    have ev31i : v31.toInt = a2 := l_ofi ev31.symm e2
    refine lv_lconst (v := 0) hx hb dX12_isCell_20 rfl ?_
    refine lv_aload_n hx hb dX12_isCell_21 rfl (lv_at hl 0 rfl) ?_
    refine q_getC E hC0 g0 fa_RX12_35 uc dX12_isCell_22 ?_
    refine lv_iconst (v := 1) hx hb dX12_isCell_25 rfl ?_
    refine q_cald E hC0 (lo := 0) (hi := 6) gca (a := 1) (show (1 : Int32).toInt = 1 from by decide) (by omega) (by omega) (cr_c0 (by omega) (by omega)) dX12_isCell_26 (fun v32 ev32 lv32 uv32 => ?_)
    have qv32 := ev23.symm.trans ev32; subst qv32
    refine lv_iconst (v := 1) hx hb dX12_isCell_27 rfl ?_
    refine lv_isub hx hb dX12_isCell_28 (lv_topi (fun v33 ev33 => ?_))
    have ev33i : v33.toInt = (v23.toInt - 1) := i_sub ev33 rfl (by decide) (by omega) (by omega)
    refine lv_i2l (v := v33.toInt64) hx hb dX12_isCell_29 rfl (lv_topl (fun v34 ev34 => ?_))
    have ev34i : v34.toInt = (v23.toInt - 1) := l_ofi ev34.symm ev33i
    refine q_goIp (q_runS (As := [.long v31, .long 0, .long v34]) (rest := []) E hS29 (m_X12_isIn l X Γ H0 hC0 v31 (a0 := a2) ev31i 0 (a1 := 0) (show (0 : Int64).toInt = 0 from by decide) v34 (a2 := (v23.toInt - 1)) ev34i) cw_X12_isIn cl_RX12_104 rfl hl.1 rfl (Nat.zero_le _) (by decide) dX12_isCell_30) hS29 (fun v35 locs35 hr35 hS35 => ?_)
    rcases hr35 with ⟨rfl, f35a0, f35a1⟩ | ⟨rfl, f35b⟩
    · refine q_if_eq hx hb (a := 1) (by decide) (tgt := 40) dX12_isCell_33 rfl (fun c36 => absurd c36 (by omega)) (fun c36 => ?_)
      refine lv_iconst (v := 1) hx hb dX12_isCell_36 rfl ?_
      refine lv_goto (tgt := 41) hx hb dX12_isCell_37 rfl ?_
      exact ret 1 H0 locs35 _ _ dX12_isCell_41 (Or.inr rfl) ⟨rfl, Or.inl ⟨rfl, by omega, by omega, by omega, by omega, by omega, by omega⟩⟩ hC0 hS35
    · refine q_if_eq hx hb (a := 0) (by decide) (tgt := 40) dX12_isCell_33 rfl (fun c37 => ?_) (fun c37 => absurd c37 (by omega))
      refine lv_iconst (v := 0) hx hb dX12_isCell_40 rfl ?_
      exact ret 0 H0 locs35 _ _ dX12_isCell_41 (Or.inl rfl) ⟨rfl, Or.inr ⟨rfl, by omega⟩⟩ hC0 hS35
  · refine q_if_eq hx hb (a := 0) (by decide) (tgt := 40) dX12_isCell_15 rfl (fun c38 => ?_) (fun c38 => absurd c38 (by omega))
    refine lv_iconst (v := 0) hx hb dX12_isCell_40 rfl ?_
    exact ret 0 H0 locs29 _ _ dX12_isCell_41 (Or.inl rfl) ⟨rfl, Or.inr ⟨rfl, by omega⟩⟩ hC0 hS29
set_option maxRecDepth 100000 in
set_option maxHeartbeats 4000000 in
theorem m_X12_at2 (l : Launch) (X : xW) (Γ : Nat → Option Nat) (H0 : Heap) (hC0 : Conf X Γ H0) (p0 : Int32) {a0 : Int} (e0 : p0.toInt = a0) (p1 : Int32) {a1 : Int} (e1 : p1.toInt = a1) (r0 : 0 ≤ a0) (r1 : a0 ≤ 5) (r2 : 0 ≤ a1) (r3 : a1 ≤ 5) : Ctr l X Γ yX12_at2 cX12_at2 2 (some .int) 0 [.int p0, .int p1] H0 (QI X Γ (fun v H1 => H1 = H0 ∧ ((v.toInt = 6 * a1 + a0)))) := by
  refine q_enterI (own := "SnowFortsModel") (by decide) rfl (Nat.le_of_ble_eq_true rfl) ?_
  intro p e s m args below meth c ls Qz E hl ret hS0
  have hx := E.1; have hb := E.2.1
  have hl : lv_has ls 2 [(0, .int p0), (1, .int p1)] := hl
  refine lv_bipush (v := 6) hx hb dX12_at2_0 rfl ?_
  refine lv_iload_n hx hb dX12_at2_2 rfl (lv_at hl 1 rfl) ?_
  refine lv_imul hx hb dX12_at2_3 (lv_topi (fun v21 ev21 => ?_))
  have ev21i : v21.toInt = (6 * a1) := i_mul ev21 (by decide) e1 (by omega) (by omega)
  refine lv_iload_n hx hb dX12_at2_4 rfl (lv_at hl 0 rfl) ?_
  refine lv_iadd hx hb dX12_at2_5 (lv_topi (fun v22 ev22 => ?_))
  have ev22i : v22.toInt = ((6 * a1) + a0) := i_add ev22 ev21i e0 (by omega) (by omega)
  have c23 : v22.toInt = ((6 * a1) + a0) := ev22i
  exact ret v22 H0 [] _ _ dX12_at2_6 ⟨rfl, by omega⟩ hC0 hS0
set_option maxRecDepth 100000 in
set_option maxHeartbeats 4000000 in
theorem m_X12_cell (l : Launch) (X : xW) (Γ : Nat → Option Nat) (H0 : Heap) (hC0 : Conf X Γ H0) (h0 : Nat) (g0 : Γ h0 = some 11) (p1 : Int32) {a1 : Int} (e1 : p1.toInt = a1) (p2 : Int32) {a2 : Int} (e2 : p2.toInt = a2) (p3 : Int32) {a3 : Int} (e3 : p3.toInt = a3) (ca : Nat) (gca : Γ ca = some 64) (uc : ∀ a, Γ a = some 64 → a = ca) : Ctr l X Γ yX12_cell cX12_cell 5 (some .int) 2 [.ref h0, .int p1, .int p2, .int p3] H0 (QI X Γ (fun v H1 => Kp X Γ [1, 6, 7, 8, 9, 10, 11, 12, 14, 15, 16, 17, 19, 22, 24, 26, 28] H0 H1 ∧ (True))) := by
  refine q_enterI (own := "SnowFortsModel") (by decide) rfl (Nat.le_of_ble_eq_true rfl) ?_
  intro p e s m args below meth c ls Qz E hl ret hS0
  have hx := E.1; have hb := E.2.1
  have hKp0 : Kp X Γ [1, 6, 7, 8, 9, 10, 11, 12, 14, 15, 16, 17, 19, 22, 24, 26, 28] H0 H0 := Kp.rf
  have hl : lv_has ls 5 [(0, .ref h0), (1, .int p1), (2, .int p2), (3, .int p3)] := hl
  refine lv_aload_n hx hb dX12_cell_0 rfl (lv_at hl 0 rfl) ?_
  refine lv_iconst (v := 0) hx hb dX12_cell_1 rfl ?_
  refine q_put E hC0 hS0 g0 fp_RX12_69 tv_F rfl rfl dX12_cell_2 (fun H21 locs21 hC21 hS21 U21 => ?_)
  have hKp21 := Kp.upO E g0 fp_RX12_69 rfl U21 hKp0
  have e22 := up_I U21
  refine lv_aload_n hx hb dX12_cell_5 rfl (lv_at hl 0 rfl) ?_
  refine lv_iconst (v := 0) hx hb dX12_cell_6 rfl ?_
  refine q_put E hC21 hS21 g0 fp_RX12_72 tv_F rfl rfl dX12_cell_7 (fun H23 locs23 hC23 hS23 U23 => ?_)
  have hKp23 := Kp.upO E g0 fp_RX12_72 rfl U23 hKp21
  have e24 := up_I U23
  refine lv_aload_n hx hb dX12_cell_10 rfl (lv_at hl 0 rfl) ?_
  refine lv_iload_n hx hb dX12_cell_11 rfl (lv_at hl 1 rfl) ?_
  refine lv_iload_n hx hb dX12_cell_12 rfl (lv_at hl 2 rfl) ?_
  refine q_goIp (q_runV (As := [.int p1, .int p2]) (rest := []) E hC23 hS23 (m_X12_isCell l X Γ H23 hC23 h0 g0 p1 (a1 := a1) e1 p2 (a2 := a2) e2 ca gca uc) cw_X12_isCell cl_RX12_301 g0 ⟨rfl, rfl⟩ rfl hl.1 rfl (Nat.zero_le _) (by decide) dX12_cell_13) hS23 (fun v25 locs25 hr25 hS25 => ?_)
  rcases hr25 with ⟨rfl, f25a0, f25a1, f25a2, f25a3, f25a4, f25a5⟩ | ⟨rfl, f25b⟩
  · refine q_if_ne hx hb (a := 1) (by decide) (tgt := 25) dX12_cell_16 rfl (fun c26 => ?_) (fun c26 => absurd c26 (by omega))
    refine lv_iload_n hx hb dX12_cell_25 rfl (lv_at hl 1 rfl) ?_
    refine lv_iload_n hx hb dX12_cell_26 rfl (lv_at hl 2 rfl) ?_
    refine q_goIp (q_runS (As := [.int p1, .int p2]) (rest := []) E hS25 (m_X12_at2 l X Γ H23 hC23 p1 (a0 := a1) e1 p2 (a1 := a2) e2 (by omega) (by omega) (by omega) (by omega)) cw_X12_at2 cl_RX12_292 rfl hl.1 rfl (Nat.zero_le _) (by decide) dX12_cell_27) hS25 (fun v27 locs27 hr27 hS27 => ?_)
    have f27_0 := hr27
    refine lv_istore hx hb dX12_cell_30 hl (by decide) rfl (fun ls hl => ?_)
    replace hl : lv_has ls 5 [(4, .int v27), (0, .ref h0), (1, .int p1), (2, .int p2), (3, .int p3)] := hl
    refine lv_iload_n hx hb dX12_cell_32 rfl (lv_at hl 4 rfl) ?_
    by_cases c28_0 : a3 = 0
    · have c28_x := (show p3.toInt = a3 from e3).trans c28_0
      refine lv_tableIn hx hb dX12_cell_33 (by rw [c28_x]; decide) (by rw [c28_x]; decide) (off := 39) (by rw [c28_x]; rfl) (tgt := 72) rfl ?_
      refine lv_aload_n hx hb dX12_cell_72 rfl (lv_at hl 1 rfl) ?_
      refine q_getC E hC23 g0 fa_RX12_35 uc dX12_cell_73 ?_
      refine lv_bipush (v := 26) hx hb dX12_cell_76 rfl ?_
      refine lv_iload hx hb dX12_cell_78 (lv_at hl 0 rfl) ?_
      refine lv_iadd hx hb dX12_cell_80 (lv_topi (fun v29 ev29 => ?_))
      have ev29i : v29.toInt = (26 + v27.toInt) := i_add ev29 (by decide) rfl (by omega) (by omega)
      refine q_cald E hC23 (lo := 0) (hi := 99) gca (a := (26 + v27.toInt)) ev29i (by omega) (by omega) (cr_c26 (by omega) (by omega)) dX12_cell_81 (fun v30 ev30 lv30 uv30 => ?_)
      exact ret v30 H23 locs27 _ _ dX12_cell_82 ⟨hKp23, trivial⟩ hC23 hS27
    by_cases c28_1 : a3 = 1
    · have c28_x := (show p3.toInt = a3 from e3).trans c28_1
      refine lv_tableIn hx hb dX12_cell_33 (by rw [c28_x]; decide) (by rw [c28_x]; decide) (off := 50) (by rw [c28_x]; rfl) (tgt := 83) rfl ?_
      refine lv_aload_n hx hb dX12_cell_83 rfl (lv_at hl 1 rfl) ?_
      refine q_getC E hC23 g0 fa_RX12_35 uc dX12_cell_84 ?_
      refine lv_bipush (v := 62) hx hb dX12_cell_87 rfl ?_
      refine lv_iload hx hb dX12_cell_89 (lv_at hl 0 rfl) ?_
      refine lv_iadd hx hb dX12_cell_91 (lv_topi (fun v31 ev31 => ?_))
      have ev31i : v31.toInt = (62 + v27.toInt) := i_add ev31 (by decide) rfl (by omega) (by omega)
      refine q_cald E hC23 (lo := 0) (hi := 99) gca (a := (62 + v27.toInt)) ev31i (by omega) (by omega) (cr_c26 (by omega) (by omega)) dX12_cell_92 (fun v32 ev32 lv32 uv32 => ?_)
      exact ret v32 H23 locs27 _ _ dX12_cell_93 ⟨hKp23, trivial⟩ hC23 hS27
    by_cases c28_2 : a3 = 2
    · have c28_x := (show p3.toInt = a3 from e3).trans c28_2
      refine lv_tableIn hx hb dX12_cell_33 (by rw [c28_x]; decide) (by rw [c28_x]; decide) (off := 61) (by rw [c28_x]; rfl) (tgt := 94) rfl ?_
      refine lv_aload_n hx hb dX12_cell_94 rfl (lv_at hl 1 rfl) ?_
      refine q_getC E hC23 g0 fa_RX12_35 uc dX12_cell_95 ?_
      refine lv_bipush (v := 98) hx hb dX12_cell_98 rfl ?_
      refine lv_iload hx hb dX12_cell_100 (lv_at hl 0 rfl) ?_
      refine lv_iadd hx hb dX12_cell_102 (lv_topi (fun v33 ev33 => ?_))
      have ev33i : v33.toInt = (98 + v27.toInt) := i_add ev33 (by decide) rfl (by omega) (by omega)
      refine q_cald E hC23 (lo := 0) (hi := 9) gca (a := (98 + v27.toInt)) ev33i (by omega) (by omega) (cr_c98 (by omega) (by omega)) dX12_cell_103 (fun v34 ev34 lv34 uv34 => ?_)
      exact ret v34 H23 locs27 _ _ dX12_cell_104 ⟨hKp23, trivial⟩ hC23 hS27
    by_cases c28_3 : a3 = 3
    · have c28_x := (show p3.toInt = a3 from e3).trans c28_3
      refine lv_tableIn hx hb dX12_cell_33 (by rw [c28_x]; decide) (by rw [c28_x]; decide) (off := 72) (by rw [c28_x]; rfl) (tgt := 105) rfl ?_
      refine lv_aload_n hx hb dX12_cell_105 rfl (lv_at hl 1 rfl) ?_
      refine q_getC E hC23 g0 fa_RX12_35 uc dX12_cell_106 ?_
      refine lv_sipush (v := 134) hx hb dX12_cell_109 rfl ?_
      refine lv_iload hx hb dX12_cell_112 (lv_at hl 0 rfl) ?_
      refine lv_iadd hx hb dX12_cell_114 (lv_topi (fun v35 ev35 => ?_))
      have ev35i : v35.toInt = (134 + v27.toInt) := i_add ev35 (by decide) rfl (by omega) (by omega)
      refine q_cald E hC23 (lo := -2147483648) (hi := 2147483647) gca (a := (134 + v27.toInt)) ev35i (by omega) (by omega) (cr_c134 (by omega) (by omega)) dX12_cell_115 (fun v36 ev36 _ _ => ?_)
      exact ret v36 H23 locs27 _ _ dX12_cell_116 ⟨hKp23, trivial⟩ hC23 hS27
    by_cases c28_4 : a3 = 4
    · have c28_x := (show p3.toInt = a3 from e3).trans c28_4
      refine lv_tableIn hx hb dX12_cell_33 (by rw [c28_x]; decide) (by rw [c28_x]; decide) (off := 84) (by rw [c28_x]; rfl) (tgt := 117) rfl ?_
      refine lv_aload_n hx hb dX12_cell_117 rfl (lv_at hl 1 rfl) ?_
      refine lv_iload_n hx hb dX12_cell_118 rfl (lv_at hl 2 rfl) ?_
      refine q_goIp (q_runV (As := [.int p1]) (rest := []) E hC23 hS27 (m_X12_halfOf l X Γ H23 hC23 h0 g0 p1 (a1 := a1) e1 ca gca uc) cw_X12_halfOf cl_RX12_270 g0 ⟨rfl, rfl⟩ rfl hl.1 rfl (Nat.zero_le _) (by decide) dX12_cell_119) hS27 (fun v37 locs37 hr37 hS37 => ?_)
      obtain ⟨f37_0, f37_1⟩ := hr37
      exact ret v37 H23 locs37 _ _ dX12_cell_122 ⟨hKp23, trivial⟩ hC23 hS37
    by_cases c28_5 : a3 = 5
    · have c28_x := (show p3.toInt = a3 from e3).trans c28_5
      refine lv_tableIn hx hb dX12_cell_33 (by rw [c28_x]; decide) (by rw [c28_x]; decide) (off := 90) (by rw [c28_x]; rfl) (tgt := 123) rfl ?_
      refine lv_aload_n hx hb dX12_cell_123 rfl (lv_at hl 1 rfl) ?_
      refine q_getC E hC23 g0 fa_RX12_35 uc dX12_cell_124 ?_
      refine lv_sipush (v := 170) hx hb dX12_cell_127 rfl ?_
      refine lv_iload hx hb dX12_cell_130 (lv_at hl 0 rfl) ?_
      refine lv_iadd hx hb dX12_cell_132 (lv_topi (fun v38 ev38 => ?_))
      have ev38i : v38.toInt = (170 + v27.toInt) := i_add ev38 (by decide) rfl (by omega) (by omega)
      refine q_cald E hC23 (lo := -2147483648) (hi := 2147483647) gca (a := (170 + v27.toInt)) ev38i (by omega) (by omega) (cr_c134 (by omega) (by omega)) dX12_cell_133 (fun v39 ev39 _ _ => ?_)
      exact ret v39 H23 locs27 _ _ dX12_cell_134 ⟨hKp23, trivial⟩ hC23 hS27
    refine lv_tableOut hx hb dX12_cell_33 (by rw [show p3.toInt = a3 from e3]; omega) (tgt := 135) rfl ?_
    refine lv_aload_n hx hb dX12_cell_135 rfl (lv_at hl 1 rfl) ?_
    refine lv_iconst (v := 5) hx hb dX12_cell_136 rfl ?_
    refine q_goI (q_runV (As := [.int 5]) (rest := []) E hC23 hS27 (m_X12_refuse l X Γ H23 hC23 h0 g0 5 (a1 := 5) (by decide) ca gca uc) cw_X12_refuse cl_RX12_298 g0 ⟨rfl, rfl⟩ rfl hl.1 rfl (Nat.zero_le _) (by decide) dX12_cell_137) hS27 (fun v40 H40 locs40 hr40 hC40 hS40 => ?_)
    obtain ⟨hp40, hr40⟩ := hr40
    have hKp40 := hKp23.tr (hp40.mono rfl)
    have f40_0 := hr40
    exact ret v40 H40 locs40 _ _ dX12_cell_140 ⟨hKp40, trivial⟩ hC40 hS40
  · refine q_if_ne hx hb (a := 0) (by decide) (tgt := 25) dX12_cell_16 rfl (fun c41 => absurd c41 (by omega)) (fun c41 => ?_)
    refine lv_aload_n hx hb dX12_cell_19 rfl (lv_at hl 0 rfl) ?_
    refine lv_iconst (v := 2) hx hb dX12_cell_20 rfl ?_
    refine q_goI (q_runV (As := [.int 2]) (rest := []) E hC23 hS25 (m_X12_refuse l X Γ H23 hC23 h0 g0 2 (a1 := 2) (by decide) ca gca uc) cw_X12_refuse cl_RX12_298 g0 ⟨rfl, rfl⟩ rfl hl.1 rfl (Nat.zero_le _) (by decide) dX12_cell_21) hS25 (fun v42 H42 locs42 hr42 hC42 hS42 => ?_)
    obtain ⟨hp42, hr42⟩ := hr42
    have hKp42 := hKp23.tr (hp42.mono rfl)
    have f42_0 := hr42
    exact ret v42 H42 locs42 _ _ dX12_cell_24 ⟨hKp42, trivial⟩ hC42 hS42
set_option maxRecDepth 100000 in
set_option maxHeartbeats 4000000 in
theorem m_X12_isSchoolAt (l : Launch) (X : xW) (Γ : Nat → Option Nat) (H0 : Heap) (hC0 : Conf X Γ H0) (h0 : Nat) (g0 : Γ h0 = some 11) (p1 : Int32) {a1 : Int} (e1 : p1.toInt = a1) (ca : Nat) (gca : Γ ca = some 64) (uc : ∀ a, Γ a = some 64 → a = ca) : Ctr l X Γ yX12_isSchoolAt cX12_isSchoolAt 2 (some .boolean) 1 [.ref h0, .int p1] H0 (QI X Γ (fun v H1 => H1 = H0 ∧ ((v = 1 ∧ (0 ≤ a1 ∧ a1 ≤ 1)) ∨ (v = 0 ∧ (True))))) := by
  refine q_enterZ (own := "SnowFortsModel") (by decide) rfl (Nat.le_of_ble_eq_true rfl) ?_
  intro p e s m args below meth c ls Qz E hl ret hS0
  have hx := E.1; have hb := E.2.1
  have hl : lv_has ls 2 [(0, .ref h0), (1, .int p1)] := hl
  refine lv_iload_n hx hb dX12_isSchoolAt_0 rfl (lv_at hl 1 rfl) ?_
  refine lv_i2l (v := p1.toInt64) hx hb dX12_isSchoolAt_1 rfl (lv_topl (fun v21 ev21 => ?_))
  have ev21i : v21.toInt = a1 := l_ofi ev21.symm e1
  refine lv_lconst (v := 0) hx hb dX12_isSchoolAt_2 rfl ?_
  refine lv_aload_n hx hb dX12_isSchoolAt_3 rfl (lv_at hl 0 rfl) ?_
  refine q_getC E hC0 g0 fa_RX12_35 uc dX12_isSchoolAt_4 ?_
  refine lv_iconst (v := 2) hx hb dX12_isSchoolAt_7 rfl ?_
  refine q_cald E hC0 (lo := 0) (hi := 2) gca (a := 2) (show (2 : Int32).toInt = 2 from by decide) (by omega) (by omega) (cr_c2 (by omega) (by omega)) dX12_isSchoolAt_8 (fun v22 ev22 lv22 uv22 => ?_)
  refine lv_iconst (v := 1) hx hb dX12_isSchoolAt_9 rfl ?_
  refine lv_isub hx hb dX12_isSchoolAt_10 (lv_topi (fun v23 ev23 => ?_))
  have ev23i : v23.toInt = (v22.toInt - 1) := i_sub ev23 rfl (by decide) (by omega) (by omega)
  refine lv_i2l (v := v23.toInt64) hx hb dX12_isSchoolAt_11 rfl (lv_topl (fun v24 ev24 => ?_))
  have ev24i : v24.toInt = (v22.toInt - 1) := l_ofi ev24.symm ev23i
  refine q_goIp (q_runS (As := [.long v21, .long 0, .long v24]) (rest := []) E hS0 (m_X12_isIn l X Γ H0 hC0 v21 (a0 := a1) ev21i 0 (a1 := 0) (show (0 : Int64).toInt = 0 from by decide) v24 (a2 := (v22.toInt - 1)) ev24i) cw_X12_isIn cl_RX12_104 rfl hl.1 rfl (Nat.zero_le _) (by decide) dX12_isSchoolAt_12) hS0 (fun v25 locs25 hr25 hS25 => ?_)
  rcases hr25 with ⟨rfl, f25a0, f25a1⟩ | ⟨rfl, f25b⟩
  · exact ret 1 H0 locs25 _ _ dX12_isSchoolAt_15 (Or.inr rfl) ⟨rfl, Or.inl ⟨rfl, by omega, by omega⟩⟩ hC0 hS25
  · exact ret 0 H0 locs25 _ _ dX12_isSchoolAt_15 (Or.inl rfl) ⟨rfl, Or.inr ⟨rfl, trivial⟩⟩ hC0 hS25
set_option maxRecDepth 100000 in
set_option maxHeartbeats 4000000 in
theorem m_X12_allOfHalf (l : Launch) (X : xW) (Γ : Nat → Option Nat) (H0 : Heap) (hC0 : Conf X Γ H0) (h0 : Nat) (g0 : Γ h0 = some 11) (p1 : Int32) {a1 : Int} (e1 : p1.toInt = a1) (p2 : Int32) {a2 : Int} (e2 : p2.toInt = a2) (ca : Nat) (gca : Γ ca = some 64) (uc : ∀ a, Γ a = some 64 → a = ca) (r0 : 0 ≤ a1) (r1 : a1 ≤ 2000) : Ctr l X Γ yX12_allOfHalf cX12_allOfHalf 6 (some .int) 1 [.ref h0, .int p1, .int p2] H0 (QI X Γ (fun v H1 => H1 = H0 ∧ (True))) := by
  refine q_enterI (own := "SnowFortsModel") (by decide) rfl (Nat.le_of_ble_eq_true rfl) ?_
  intro p e s m args below meth c ls Qz E hl ret hS0
  have hx := E.1; have hb := E.2.1
  have hl : lv_has ls 6 [(0, .ref h0), (1, .int p1), (2, .int p2)] := hl
  refine lv_iconst (v := 0) hx hb dX12_allOfHalf_0 rfl ?_
  refine lv_istore_n hx hb dX12_allOfHalf_1 rfl hl (by decide) rfl (fun ls hl => ?_)
  replace hl : lv_has ls 6 [(3, .int 0), (0, .ref h0), (1, .int p1), (2, .int p2)] := hl
  refine lv_iconst (v := 0) hx hb dX12_allOfHalf_2 rfl ?_
  refine lv_istore hx hb dX12_allOfHalf_3 hl (by decide) rfl (fun ls hl => ?_)
  replace hl : lv_has ls 6 [(4, .int 0), (3, .int 0), (0, .ref h0), (1, .int p1), (2, .int p2)] := hl
  have L5 : ∀ (n23 : Nat) (locs23 : List Loc) (v21 : Int32) (z21 : Int) (v22 : Int32) (z22 : Int) (ls : Array Slot), (6 - z21).toNat < n23 → v21.toInt = z21 → v22.toInt = z22 → z21 ≤ 6 → 0 ≤ z21 → va_S (AΓ Γ) H0 H0 locs23 → lv_has ls 6 [(4, .int v21), (3, .int v22), (0, .ref h0), (1, .int p1), (2, .int p2)] → W p l e (rmL 1) s m args below meth c H0 locs23 0 0 Qz (F0 m 5 ls []) := by
    intro n23
    induction n23 with
    | zero => intro locs23 v21 z21 v22 z22 ls hm23 ev21 ev22 iv23_0 iv23_1 hS23 hl; exact absurd hm23 (Nat.not_lt_zero _)
    | succ n23 ih23 =>
      intro locs23 v21 z21 v22 z22 ls hm23 ev21 ev22 iv23_0 iv23_1 hS23 hl
      refine lv_iload hx hb dX12_allOfHalf_5 (lv_at hl 0 rfl) ?_
      refine lv_aload_n hx hb dX12_allOfHalf_7 rfl (lv_at hl 2 rfl) ?_
      refine q_getC E hC0 g0 fa_RX12_35 uc dX12_allOfHalf_8 ?_
      refine lv_iconst (v := 1) hx hb dX12_allOfHalf_11 rfl ?_
      refine q_cald E hC0 (lo := 0) (hi := 6) gca (a := 1) (show (1 : Int32).toInt = 1 from by decide) (by omega) (by omega) (cr_c0 (by omega) (by omega)) dX12_allOfHalf_12 (fun v24 ev24 lv24 uv24 => ?_)
      refine q_icmp_ge hx hb (a := z21) (b := v24.toInt) ev21 rfl (tgt := 73) dX12_allOfHalf_13 rfl (fun c25 => ?_) (fun c25 => ?_)
      · refine lv_iload_n hx hb dX12_allOfHalf_73 rfl (lv_at hl 1 rfl) ?_
        exact ret v22 H0 locs23 _ _ dX12_allOfHalf_74 ⟨rfl, trivial⟩ hC0 hS23
      · refine lv_iconst (v := 0) hx hb dX12_allOfHalf_16 rfl ?_
        refine lv_istore hx hb dX12_allOfHalf_17 hl (by decide) rfl (fun ls hl => ?_)
        replace hl : lv_has ls 6 [(5, .int 0), (4, .int v21), (3, .int v22), (0, .ref h0), (1, .int p1), (2, .int p2)] := hl
        have L19 : ∀ (n28 : Nat) (locs28 : List Loc) (v26 : Int32) (z26 : Int) (v27 : Int32) (z27 : Int) (ls : Array Slot), (6 - z26).toNat < n28 → v26.toInt = z26 → v27.toInt = z27 → z26 ≤ 6 → 0 ≤ z26 → va_S (AΓ Γ) H0 H0 locs28 → lv_has ls 6 [(5, .int v26), (4, .int v21), (3, .int v27), (0, .ref h0), (1, .int p1), (2, .int p2)] → W p l e (rmL 1) s m args below meth c H0 locs28 0 0 Qz (F0 m 19 ls []) := by
          intro n28
          induction n28 with
          | zero => intro locs28 v26 z26 v27 z27 ls hm28 ev26 ev27 iv28_0 iv28_1 hS28 hl; exact absurd hm28 (Nat.not_lt_zero _)
          | succ n28 ih28 =>
            intro locs28 v26 z26 v27 z27 ls hm28 ev26 ev27 iv28_0 iv28_1 hS28 hl
            refine lv_iload hx hb dX12_allOfHalf_19 (lv_at hl 0 rfl) ?_
            refine lv_aload_n hx hb dX12_allOfHalf_21 rfl (lv_at hl 3 rfl) ?_
            refine q_getC E hC0 g0 fa_RX12_35 uc dX12_allOfHalf_22 ?_
            refine lv_iconst (v := 0) hx hb dX12_allOfHalf_25 rfl ?_
            refine q_cald E hC0 (lo := 0) (hi := 6) gca (a := 0) (show (0 : Int32).toInt = 0 from by decide) (by omega) (by omega) (cr_c0 (by omega) (by omega)) dX12_allOfHalf_26 (fun v29 ev29 lv29 uv29 => ?_)
            refine q_icmp_ge hx hb (a := z26) (b := v29.toInt) ev26 rfl (tgt := 67) dX12_allOfHalf_27 rfl (fun c30 => ?_) (fun c30 => ?_)
            · obtain ⟨v31, ev31⟩ : ∃ z, z = v21 + Int32.ofInt 1 := ⟨_, rfl⟩
              have ev31i : v31.toInt = (z21 + 1) := i_add ev31 ev21 (by decide) (by omega) (by omega)
              refine lv_iinc hx hb dX12_allOfHalf_67 hl (k := 1) rfl ev31.symm (by decide) rfl (fun ls hl => ?_)
              replace hl : lv_has ls 6 [(4, .int v31), (5, .int v26), (3, .int v27), (0, .ref h0), (1, .int p1), (2, .int p2)] := hl
              refine lv_goto (tgt := 5) hx hb dX12_allOfHalf_70 rfl ?_
              exact ih23 locs28 v31 ((z21 + 1)) v27 (z27) ls (by omega) ev31i ev27 (by omega) (by omega) hS28 (lv_sub hl [0, 2, 3, 4, 5] rfl)
            · refine lv_iload_n hx hb dX12_allOfHalf_30 rfl (lv_at hl 2 rfl) ?_
              refine lv_aload_n hx hb dX12_allOfHalf_31 rfl (lv_at hl 3 rfl) ?_
              refine lv_iload hx hb dX12_allOfHalf_32 (lv_at hl 0 rfl) ?_
              refine q_goIp (q_runV (As := [.int v26]) (rest := [.int v27]) E hC0 hS28 (m_X12_halfOf l X Γ H0 hC0 h0 g0 v26 (a1 := z26) ev26 ca gca uc) cw_X12_halfOf cl_RX12_270 g0 ⟨rfl, rfl⟩ rfl hl.1 rfl (show _ ≤ _ from by simp [Value.category]) (by decide) dX12_allOfHalf_34) hS28 (fun v32 locs32 hr32 hS32 => ?_)
              obtain ⟨f32_0, f32_1⟩ := hr32
              refine lv_iload_n hx hb dX12_allOfHalf_37 rfl (lv_at hl 5 rfl) ?_
              have c33 := i_rng p2; rw [show p2.toInt = a2 from e2] at c33
              refine q_icmp_ne hx hb (a := v32.toInt) (b := a2) rfl e2 (tgt := 58) dX12_allOfHalf_38 rfl (fun c34 => ?_) (fun c34 => ?_)
              · refine lv_iconst (v := 0) hx hb dX12_allOfHalf_58 rfl ?_
                refine lv_iadd hx hb dX12_allOfHalf_59 (lv_topi (fun v35 ev35 => ?_))
                have c36 := i_rng v27; rw [show v27.toInt = z27 from ev27] at c36
                have ev35i : v35.toInt = (z27 + 0) := i_add ev35 ev27 (by decide) (by omega) (by omega)
                refine lv_istore_n hx hb dX12_allOfHalf_60 rfl hl (by decide) rfl (fun ls hl => ?_)
                replace hl : lv_has ls 6 [(3, .int v35), (5, .int v26), (4, .int v21), (0, .ref h0), (1, .int p1), (2, .int p2)] := hl
                obtain ⟨v37, ev37⟩ : ∃ z, z = v26 + Int32.ofInt 1 := ⟨_, rfl⟩
                have ev37i : v37.toInt = (z26 + 1) := i_add ev37 ev26 (by decide) (by omega) (by omega)
                refine lv_iinc hx hb dX12_allOfHalf_61 hl (k := 1) rfl ev37.symm (by decide) rfl (fun ls hl => ?_)
                replace hl : lv_has ls 6 [(5, .int v37), (3, .int v35), (4, .int v21), (0, .ref h0), (1, .int p1), (2, .int p2)] := hl
                refine lv_goto (tgt := 19) hx hb dX12_allOfHalf_64 rfl ?_
                exact ih28 locs32 v37 ((z26 + 1)) v35 ((z27 + 0)) ls (by omega) ev37i ev35i (by omega) (by omega) hS32 (lv_sub hl [0, 2, 1, 3, 4, 5] rfl)
              · refine lv_aload_n hx hb dX12_allOfHalf_41 rfl (lv_at hl 3 rfl) ?_
                refine q_getC E hC0 g0 fa_RX12_35 uc dX12_allOfHalf_42 ?_
                refine lv_iload_n hx hb dX12_allOfHalf_45 rfl (lv_at hl 4 rfl) ?_
                refine lv_iload hx hb dX12_allOfHalf_46 (lv_at hl 0 rfl) ?_
                refine lv_iload hx hb dX12_allOfHalf_48 (lv_at hl 1 rfl) ?_
                refine q_goIp (q_runS (As := [.int v26, .int v21]) (rest := [.int p1, .ref ca, .int v27]) E hS32 (m_X12_at2 l X Γ H0 hC0 v26 (a0 := z26) ev26 v21 (a1 := z21) ev21 (by omega) (by omega) (by omega) (by omega)) cw_X12_at2 cl_RX12_292 rfl hl.1 rfl (show _ ≤ _ from by simp [Value.category]) (by decide) dX12_allOfHalf_50) hS32 (fun v38 locs38 hr38 hS38 => ?_)
                have f38_0 := hr38
                refine lv_iadd hx hb dX12_allOfHalf_53 (lv_topi (fun v39 ev39 => ?_))
                have ev39i : v39.toInt = (a1 + v38.toInt) := i_add ev39 e1 rfl (by omega) (by omega)
                refine q_cald E hC0 (lo := -2147483648) (hi := 2147483647) gca (a := (a1 + v38.toInt)) ev39i (by omega) (by omega) (fun _ h => cT_any h) dX12_allOfHalf_54 (fun v40 ev40 _ _ => ?_)
                refine lv_goto (tgt := 59) hx hb dX12_allOfHalf_55 rfl ?_
                refine lv_iadd hx hb dX12_allOfHalf_59 (lv_topi (fun v41 ev41 => ?_))
                refine lv_istore_n hx hb dX12_allOfHalf_60 rfl hl (by decide) rfl (fun ls hl => ?_)
                replace hl : lv_has ls 6 [(3, .int v41), (5, .int v26), (4, .int v21), (0, .ref h0), (1, .int p1), (2, .int p2)] := hl
                obtain ⟨v42, ev42⟩ : ∃ z, z = v26 + Int32.ofInt 1 := ⟨_, rfl⟩
                have ev42i : v42.toInt = (z26 + 1) := i_add ev42 ev26 (by decide) (by omega) (by omega)
                refine lv_iinc hx hb dX12_allOfHalf_61 hl (k := 1) rfl ev42.symm (by decide) rfl (fun ls hl => ?_)
                replace hl : lv_has ls 6 [(5, .int v42), (3, .int v41), (4, .int v21), (0, .ref h0), (1, .int p1), (2, .int p2)] := hl
                refine lv_goto (tgt := 19) hx hb dX12_allOfHalf_64 rfl ?_
                exact ih28 locs38 v42 ((z26 + 1)) v41 (v41.toInt) ls (by omega) ev42i rfl (by omega) (by omega) hS38 (lv_sub hl [0, 2, 1, 3, 4, 5] rfl)
        exact L19 _ locs23 0 0 v22 z22 ls (Nat.lt_succ_self _) (by decide) ev22 (by omega) (by omega) hS23 hl
  exact L5 _ [] 0 0 0 0 ls (Nat.lt_succ_self _) (by decide) (by decide) (by omega) (by omega) hS0 hl
set_option maxRecDepth 100000 in
set_option maxHeartbeats 4000000 in
theorem m_X12_school (l : Launch) (X : xW) (Γ : Nat → Option Nat) (H0 : Heap) (hC0 : Conf X Γ H0) (h0 : Nat) (g0 : Γ h0 = some 11) (p1 : Int32) {a1 : Int} (e1 : p1.toInt = a1) (p2 : Int32) {a2 : Int} (e2 : p2.toInt = a2) (ca : Nat) (gca : Γ ca = some 64) (uc : ∀ a, Γ a = some 64 → a = ca) : Ctr l X Γ yX12_school cX12_school 3 (some .int) 2 [.ref h0, .int p1, .int p2] H0 (QI X Γ (fun v H1 => Kp X Γ [1, 6, 7, 8, 9, 10, 11, 12, 14, 15, 16, 17, 19, 22, 24, 26, 28] H0 H1 ∧ (True))) := by
  refine q_enterI (own := "SnowFortsModel") (by decide) rfl (Nat.le_of_ble_eq_true rfl) ?_
  intro p e s m args below meth c ls Qz E hl ret hS0
  have hx := E.1; have hb := E.2.1
  have hKp0 : Kp X Γ [1, 6, 7, 8, 9, 10, 11, 12, 14, 15, 16, 17, 19, 22, 24, 26, 28] H0 H0 := Kp.rf
  have hl : lv_has ls 3 [(0, .ref h0), (1, .int p1), (2, .int p2)] := hl
  refine lv_aload_n hx hb dX12_school_0 rfl (lv_at hl 0 rfl) ?_
  refine lv_iconst (v := 0) hx hb dX12_school_1 rfl ?_
  refine q_put E hC0 hS0 g0 fp_RX12_69 tv_F rfl rfl dX12_school_2 (fun H21 locs21 hC21 hS21 U21 => ?_)
  have hKp21 := Kp.upO E g0 fp_RX12_69 rfl U21 hKp0
  have e22 := up_I U21
  refine lv_aload_n hx hb dX12_school_5 rfl (lv_at hl 0 rfl) ?_
  refine lv_iconst (v := 0) hx hb dX12_school_6 rfl ?_
  refine q_put E hC21 hS21 g0 fp_RX12_72 tv_F rfl rfl dX12_school_7 (fun H23 locs23 hC23 hS23 U23 => ?_)
  have hKp23 := Kp.upO E g0 fp_RX12_72 rfl U23 hKp21
  have e24 := up_I U23
  refine lv_aload_n hx hb dX12_school_10 rfl (lv_at hl 0 rfl) ?_
  refine lv_iload_n hx hb dX12_school_11 rfl (lv_at hl 1 rfl) ?_
  refine q_goIp (q_runV (As := [.int p1]) (rest := []) E hC23 hS23 (m_X12_isSchoolAt l X Γ H23 hC23 h0 g0 p1 (a1 := a1) e1 ca gca uc) cw_X12_isSchoolAt cl_RX12_304 g0 ⟨rfl, rfl⟩ rfl hl.1 rfl (Nat.zero_le _) (by decide) dX12_school_12) hS23 (fun v25 locs25 hr25 hS25 => ?_)
  rcases hr25 with ⟨rfl, f25a0, f25a1⟩ | ⟨rfl, -⟩
  · refine q_if_ne hx hb (a := 1) (by decide) (tgt := 24) dX12_school_15 rfl (fun c26 => ?_) (fun c26 => absurd c26 (by omega))
    refine lv_iload_n hx hb dX12_school_24 rfl (lv_at hl 2 rfl) ?_
    by_cases c27_0 : a2 = 0
    · have c27_x := (show p2.toInt = a2 from e2).trans c27_0
      refine lv_tableIn hx hb dX12_school_25 (by rw [c27_x]; decide) (by rw [c27_x]; decide) (off := 35) (by rw [c27_x]; rfl) (tgt := 60) rfl ?_
      refine lv_aload_n hx hb dX12_school_60 rfl (lv_at hl 0 rfl) ?_
      refine q_getC E hC23 g0 fa_RX12_35 uc dX12_school_61 ?_
      refine lv_bipush (v := 12) hx hb dX12_school_64 rfl ?_
      refine lv_iload_n hx hb dX12_school_66 rfl (lv_at hl 1 rfl) ?_
      refine lv_iadd hx hb dX12_school_67 (lv_topi (fun v28 ev28 => ?_))
      have ev28i : v28.toInt = (12 + a1) := i_add ev28 (by decide) e1 (by omega) (by omega)
      refine q_cald E hC23 (lo := 0) (hi := 40) gca (a := (12 + a1)) ev28i (by omega) (by omega) (cr_c12 (by omega) (by omega)) dX12_school_68 (fun v29 ev29 lv29 uv29 => ?_)
      exact ret v29 H23 locs25 _ _ dX12_school_69 ⟨hKp23, trivial⟩ hC23 hS25
    by_cases c27_1 : a2 = 1
    · have c27_x := (show p2.toInt = a2 from e2).trans c27_1
      refine lv_tableIn hx hb dX12_school_25 (by rw [c27_x]; decide) (by rw [c27_x]; decide) (off := 45) (by rw [c27_x]; rfl) (tgt := 70) rfl ?_
      refine lv_aload_n hx hb dX12_school_70 rfl (lv_at hl 0 rfl) ?_
      refine q_getC E hC23 g0 fa_RX12_35 uc dX12_school_71 ?_
      refine lv_bipush (v := 14) hx hb dX12_school_74 rfl ?_
      refine lv_iload_n hx hb dX12_school_76 rfl (lv_at hl 1 rfl) ?_
      refine lv_iadd hx hb dX12_school_77 (lv_topi (fun v30 ev30 => ?_))
      have ev30i : v30.toInt = (14 + a1) := i_add ev30 (by decide) e1 (by omega) (by omega)
      refine q_cald E hC23 (lo := 0) (hi := 40) gca (a := (14 + a1)) ev30i (by omega) (by omega) (cr_c12 (by omega) (by omega)) dX12_school_78 (fun v31 ev31 lv31 uv31 => ?_)
      exact ret v31 H23 locs25 _ _ dX12_school_79 ⟨hKp23, trivial⟩ hC23 hS25
    by_cases c27_2 : a2 = 2
    · have c27_x := (show p2.toInt = a2 from e2).trans c27_2
      refine lv_tableIn hx hb dX12_school_25 (by rw [c27_x]; decide) (by rw [c27_x]; decide) (off := 55) (by rw [c27_x]; rfl) (tgt := 80) rfl ?_
      refine lv_aload_n hx hb dX12_school_80 rfl (lv_at hl 0 rfl) ?_
      refine q_getC E hC23 g0 fa_RX12_35 uc dX12_school_81 ?_
      refine lv_bipush (v := 16) hx hb dX12_school_84 rfl ?_
      refine lv_iload_n hx hb dX12_school_86 rfl (lv_at hl 1 rfl) ?_
      refine lv_iadd hx hb dX12_school_87 (lv_topi (fun v32 ev32 => ?_))
      have ev32i : v32.toInt = (16 + a1) := i_add ev32 (by decide) e1 (by omega) (by omega)
      refine q_cald E hC23 (lo := -2147483648) (hi := 2147483647) gca (a := (16 + a1)) ev32i (by omega) (by omega) (cr_c16 (by omega) (by omega)) dX12_school_88 (fun v33 ev33 _ _ => ?_)
      exact ret v33 H23 locs25 _ _ dX12_school_89 ⟨hKp23, trivial⟩ hC23 hS25
    by_cases c27_3 : a2 = 3
    · have c27_x := (show p2.toInt = a2 from e2).trans c27_3
      refine lv_tableIn hx hb dX12_school_25 (by rw [c27_x]; decide) (by rw [c27_x]; decide) (off := 65) (by rw [c27_x]; rfl) (tgt := 90) rfl ?_
      refine lv_aload_n hx hb dX12_school_90 rfl (lv_at hl 0 rfl) ?_
      refine lv_sipush (v := 170) hx hb dX12_school_91 rfl ?_
      refine lv_iload_n hx hb dX12_school_94 rfl (lv_at hl 1 rfl) ?_
      refine q_goIp (q_runV (As := [.int 170, .int p1]) (rest := []) E hC23 hS25 (m_X12_allOfHalf l X Γ H23 hC23 h0 g0 170 (a1 := 170) (by decide) p1 (a2 := a1) e1 ca gca uc (by omega) (by omega)) cw_X12_allOfHalf cl_RX12_307 g0 ⟨rfl, rfl⟩ rfl hl.1 rfl (Nat.zero_le _) (by decide) dX12_school_95) hS25 (fun v34 locs34 hr34 hS34 => ?_)
      exact ret v34 H23 locs34 _ _ dX12_school_98 ⟨hKp23, trivial⟩ hC23 hS34
    by_cases c27_4 : a2 = 4
    · have c27_x := (show p2.toInt = a2 from e2).trans c27_4
      refine lv_tableIn hx hb dX12_school_25 (by rw [c27_x]; decide) (by rw [c27_x]; decide) (off := 74) (by rw [c27_x]; rfl) (tgt := 99) rfl ?_
      refine lv_aload_n hx hb dX12_school_99 rfl (lv_at hl 0 rfl) ?_
      refine lv_bipush (v := 62) hx hb dX12_school_100 rfl ?_
      refine lv_iload_n hx hb dX12_school_102 rfl (lv_at hl 1 rfl) ?_
      refine q_goIp (q_runV (As := [.int 62, .int p1]) (rest := []) E hC23 hS25 (m_X12_allOfHalf l X Γ H23 hC23 h0 g0 62 (a1 := 62) (by decide) p1 (a2 := a1) e1 ca gca uc (by omega) (by omega)) cw_X12_allOfHalf cl_RX12_307 g0 ⟨rfl, rfl⟩ rfl hl.1 rfl (Nat.zero_le _) (by decide) dX12_school_103) hS25 (fun v35 locs35 hr35 hS35 => ?_)
      exact ret v35 H23 locs35 _ _ dX12_school_106 ⟨hKp23, trivial⟩ hC23 hS35
    refine lv_tableOut hx hb dX12_school_25 (by rw [show p2.toInt = a2 from e2]; omega) (tgt := 107) rfl ?_
    refine lv_aload_n hx hb dX12_school_107 rfl (lv_at hl 0 rfl) ?_
    refine lv_iconst (v := 5) hx hb dX12_school_108 rfl ?_
    refine q_goI (q_runV (As := [.int 5]) (rest := []) E hC23 hS25 (m_X12_refuse l X Γ H23 hC23 h0 g0 5 (a1 := 5) (by decide) ca gca uc) cw_X12_refuse cl_RX12_298 g0 ⟨rfl, rfl⟩ rfl hl.1 rfl (Nat.zero_le _) (by decide) dX12_school_109) hS25 (fun v36 H36 locs36 hr36 hC36 hS36 => ?_)
    obtain ⟨hp36, hr36⟩ := hr36
    have hKp36 := hKp23.tr (hp36.mono rfl)
    have f36_0 := hr36
    exact ret v36 H36 locs36 _ _ dX12_school_112 ⟨hKp36, trivial⟩ hC36 hS36
  · refine q_if_ne hx hb (a := 0) (by decide) (tgt := 24) dX12_school_15 rfl (fun c37 => absurd c37 (by omega)) (fun c37 => ?_)
    refine lv_aload_n hx hb dX12_school_18 rfl (lv_at hl 0 rfl) ?_
    refine lv_iconst (v := 2) hx hb dX12_school_19 rfl ?_
    refine q_goI (q_runV (As := [.int 2]) (rest := []) E hC23 hS25 (m_X12_refuse l X Γ H23 hC23 h0 g0 2 (a1 := 2) (by decide) ca gca uc) cw_X12_refuse cl_RX12_298 g0 ⟨rfl, rfl⟩ rfl hl.1 rfl (Nat.zero_le _) (by decide) dX12_school_20) hS25 (fun v38 H38 locs38 hr38 hC38 hS38 => ?_)
    obtain ⟨hp38, hr38⟩ := hr38
    have hKp38 := hKp23.tr (hp38.mono rfl)
    have f38_0 := hr38
    exact ret v38 H38 locs38 _ _ dX12_school_23 ⟨hKp38, trivial⟩ hC38 hS38
set_option maxRecDepth 100000 in
set_option maxHeartbeats 4000000 in
theorem m_X12_article (l : Launch) (X : xW) (Γ : Nat → Option Nat) (H0 : Heap) (hC0 : Conf X Γ H0) (h0 : Nat) (g0 : Γ h0 = some 11) (p1 : Int32) {a1 : Int} (e1 : p1.toInt = a1) (ca : Nat) (gca : Γ ca = some 64) (uc : ∀ a, Γ a = some 64 → a = ca) : Ctr l X Γ yX12_article cX12_article 2 (some .int) 1 [.ref h0, .int p1] H0 (QI X Γ (fun v H1 => Kp X Γ [1, 6, 7, 8, 9, 10, 11, 12, 14, 15, 16, 17, 19, 22, 24, 26, 28] H0 H1 ∧ (True))) := by
  refine q_enterI (own := "SnowFortsModel") (by decide) rfl (Nat.le_of_ble_eq_true rfl) ?_
  intro p e s m args below meth c ls Qz E hl ret hS0
  have hx := E.1; have hb := E.2.1
  have hKp0 : Kp X Γ [1, 6, 7, 8, 9, 10, 11, 12, 14, 15, 16, 17, 19, 22, 24, 26, 28] H0 H0 := Kp.rf
  have hl : lv_has ls 2 [(0, .ref h0), (1, .int p1)] := hl
  refine lv_aload_n hx hb dX12_article_0 rfl (lv_at hl 0 rfl) ?_
  refine lv_iconst (v := 0) hx hb dX12_article_1 rfl ?_
  refine q_put E hC0 hS0 g0 fp_RX12_69 tv_F rfl rfl dX12_article_2 (fun H21 locs21 hC21 hS21 U21 => ?_)
  have hKp21 := Kp.upO E g0 fp_RX12_69 rfl U21 hKp0
  have e22 := up_I U21
  refine lv_aload_n hx hb dX12_article_5 rfl (lv_at hl 0 rfl) ?_
  refine lv_iconst (v := 0) hx hb dX12_article_6 rfl ?_
  refine q_put E hC21 hS21 g0 fp_RX12_72 tv_F rfl rfl dX12_article_7 (fun H23 locs23 hC23 hS23 U23 => ?_)
  have hKp23 := Kp.upO E g0 fp_RX12_72 rfl U23 hKp21
  have e24 := up_I U23
  refine lv_iload_n hx hb dX12_article_10 rfl (lv_at hl 1 rfl) ?_
  refine lv_i2l (v := p1.toInt64) hx hb dX12_article_11 rfl (lv_topl (fun v25 ev25 => ?_))
  have ev25i : v25.toInt = a1 := l_ofi ev25.symm e1
  refine lv_lconst (v := 0) hx hb dX12_article_12 rfl ?_
  refine lv_ldc2 (v := 3) hx hb E.2.2.2.1 (E.2.2.2.2.1 _ w_1716) dX12_article_13 ?_
  refine q_goIp (q_runS (As := [.long v25, .long 0, .long 3]) (rest := []) E hS23 (m_X12_isIn l X Γ H23 hC23 v25 (a0 := a1) ev25i 0 (a1 := 0) (show (0 : Int64).toInt = 0 from by decide) 3 (a2 := 3) (show (3 : Int64).toInt = 3 from by decide)) cw_X12_isIn cl_RX12_104 rfl hl.1 rfl (Nat.zero_le _) (by decide) dX12_article_16) hS23 (fun v26 locs26 hr26 hS26 => ?_)
  rcases hr26 with ⟨rfl, f26a0, f26a1⟩ | ⟨rfl, f26b⟩
  · refine q_if_ne hx hb (a := 1) (by decide) (tgt := 28) dX12_article_19 rfl (fun c27 => ?_) (fun c27 => absurd c27 (by omega))
    refine lv_aload_n hx hb dX12_article_28 rfl (lv_at hl 0 rfl) ?_
    refine q_getC E hC23 g0 fa_RX12_35 uc dX12_article_29 ?_
    refine lv_bipush (v := 18) hx hb dX12_article_32 rfl ?_
    refine lv_iload_n hx hb dX12_article_34 rfl (lv_at hl 1 rfl) ?_
    refine lv_iadd hx hb dX12_article_35 (lv_topi (fun v28 ev28 => ?_))
    have ev28i : v28.toInt = (18 + a1) := i_add ev28 (by decide) e1 (by omega) (by omega)
    refine q_cald E hC23 (lo := -2147483648) (hi := 2147483647) gca (a := (18 + a1)) ev28i (by omega) (by omega) (cr_c16 (by omega) (by omega)) dX12_article_36 (fun v29 ev29 _ _ => ?_)
    refine q_if_ne hx hb (a := v29.toInt) rfl (tgt := 49) dX12_article_37 rfl (fun c30 => ?_) (fun c30 => ?_)
    · refine lv_aload_n hx hb dX12_article_49 rfl (lv_at hl 0 rfl) ?_
      refine q_getC E hC23 g0 fa_RX12_35 uc dX12_article_50 ?_
      refine lv_bipush (v := 22) hx hb dX12_article_53 rfl ?_
      refine lv_iload_n hx hb dX12_article_55 rfl (lv_at hl 1 rfl) ?_
      refine lv_iadd hx hb dX12_article_56 (lv_topi (fun v31 ev31 => ?_))
      have ev31i : v31.toInt = (22 + a1) := i_add ev31 (by decide) e1 (by omega) (by omega)
      refine q_cald E hC23 (lo := -2147483648) (hi := 2147483647) gca (a := (22 + a1)) ev31i (by omega) (by omega) (cr_c16 (by omega) (by omega)) dX12_article_57 (fun v32 ev32 _ _ => ?_)
      exact ret v32 H23 locs26 _ _ dX12_article_58 ⟨hKp23, trivial⟩ hC23 hS26
    · refine lv_aload_n hx hb dX12_article_40 rfl (lv_at hl 0 rfl) ?_
      refine lv_bipush (v := 8) hx hb dX12_article_41 rfl ?_
      refine q_goI (q_runV (As := [.int 8]) (rest := []) E hC23 hS26 (m_X12_refuse l X Γ H23 hC23 h0 g0 8 (a1 := 8) (by decide) ca gca uc) cw_X12_refuse cl_RX12_298 g0 ⟨rfl, rfl⟩ rfl hl.1 rfl (Nat.zero_le _) (by decide) dX12_article_43) hS26 (fun v33 H33 locs33 hr33 hC33 hS33 => ?_)
      obtain ⟨hp33, hr33⟩ := hr33
      have hKp33 := hKp23.tr (hp33.mono rfl)
      have f33_0 := hr33
      refine lv_goto (tgt := 58) hx hb dX12_article_46 rfl ?_
      exact ret v33 H33 locs33 _ _ dX12_article_58 ⟨hKp33, trivial⟩ hC33 hS33
  · refine q_if_ne hx hb (a := 0) (by decide) (tgt := 28) dX12_article_19 rfl (fun c34 => absurd c34 (by omega)) (fun c34 => ?_)
    refine lv_aload_n hx hb dX12_article_22 rfl (lv_at hl 0 rfl) ?_
    refine lv_iconst (v := 5) hx hb dX12_article_23 rfl ?_
    refine q_goI (q_runV (As := [.int 5]) (rest := []) E hC23 hS26 (m_X12_refuse l X Γ H23 hC23 h0 g0 5 (a1 := 5) (by decide) ca gca uc) cw_X12_refuse cl_RX12_298 g0 ⟨rfl, rfl⟩ rfl hl.1 rfl (Nat.zero_le _) (by decide) dX12_article_24) hS26 (fun v35 H35 locs35 hr35 hC35 hS35 => ?_)
    obtain ⟨hp35, hr35⟩ := hr35
    have hKp35 := hKp23.tr (hp35.mono rfl)
    have f35_0 := hr35
    exact ret v35 H35 locs35 _ _ dX12_article_27 ⟨hKp35, trivial⟩ hC35 hS35
set_option maxRecDepth 100000 in
set_option maxHeartbeats 4000000 in
theorem m_X12_breach (l : Launch) (X : xW) (Γ : Nat → Option Nat) (H0 : Heap) (hC0 : Conf X Γ H0) (h0 : Nat) (g0 : Γ h0 = some 11) (p1 : Int32) {a1 : Int} (e1 : p1.toInt = a1) (ca : Nat) (gca : Γ ca = some 64) (uc : ∀ a, Γ a = some 64 → a = ca) : Ctr l X Γ yX12_breach cX12_breach 2 (some .int) 1 [.ref h0, .int p1] H0 (QI X Γ (fun v H1 => Kp X Γ [1, 6, 7, 8, 9, 10, 11, 12, 14, 15, 16, 17, 19, 22, 24, 26, 28] H0 H1 ∧ (True))) := by
  refine q_enterI (own := "SnowFortsModel") (by decide) rfl (Nat.le_of_ble_eq_true rfl) ?_
  intro p e s m args below meth c ls Qz E hl ret hS0
  have hx := E.1; have hb := E.2.1
  have hKp0 : Kp X Γ [1, 6, 7, 8, 9, 10, 11, 12, 14, 15, 16, 17, 19, 22, 24, 26, 28] H0 H0 := Kp.rf
  have hl : lv_has ls 2 [(0, .ref h0), (1, .int p1)] := hl
  refine lv_aload_n hx hb dX12_breach_0 rfl (lv_at hl 0 rfl) ?_
  refine lv_iconst (v := 0) hx hb dX12_breach_1 rfl ?_
  refine q_put E hC0 hS0 g0 fp_RX12_69 tv_F rfl rfl dX12_breach_2 (fun H21 locs21 hC21 hS21 U21 => ?_)
  have hKp21 := Kp.upO E g0 fp_RX12_69 rfl U21 hKp0
  have e22 := up_I U21
  refine lv_aload_n hx hb dX12_breach_5 rfl (lv_at hl 0 rfl) ?_
  refine lv_iconst (v := 0) hx hb dX12_breach_6 rfl ?_
  refine q_put E hC21 hS21 g0 fp_RX12_72 tv_F rfl rfl dX12_breach_7 (fun H23 locs23 hC23 hS23 U23 => ?_)
  have hKp23 := Kp.upO E g0 fp_RX12_72 rfl U23 hKp21
  have e24 := up_I U23
  refine lv_iload_n hx hb dX12_breach_10 rfl (lv_at hl 1 rfl) ?_
  refine lv_i2l (v := p1.toInt64) hx hb dX12_breach_11 rfl (lv_topl (fun v25 ev25 => ?_))
  have ev25i : v25.toInt = a1 := l_ofi ev25.symm e1
  refine lv_lconst (v := 0) hx hb dX12_breach_12 rfl ?_
  refine lv_ldc2 (v := 4) hx hb E.2.2.2.1 (E.2.2.2.2.1 _ w_1721) dX12_breach_13 ?_
  refine q_goIp (q_runS (As := [.long v25, .long 0, .long 4]) (rest := []) E hS23 (m_X12_isIn l X Γ H23 hC23 v25 (a0 := a1) ev25i 0 (a1 := 0) (show (0 : Int64).toInt = 0 from by decide) 4 (a2 := 4) (show (4 : Int64).toInt = 4 from by decide)) cw_X12_isIn cl_RX12_104 rfl hl.1 rfl (Nat.zero_le _) (by decide) dX12_breach_16) hS23 (fun v26 locs26 hr26 hS26 => ?_)
  rcases hr26 with ⟨rfl, f26a0, f26a1⟩ | ⟨rfl, f26b⟩
  · refine q_if_ne hx hb (a := 1) (by decide) (tgt := 28) dX12_breach_19 rfl (fun c27 => ?_) (fun c27 => absurd c27 (by omega))
    refine lv_aload_n hx hb dX12_breach_28 rfl (lv_at hl 0 rfl) ?_
    refine q_getC E hC23 g0 fa_RX12_35 uc dX12_breach_29 ?_
    refine lv_iconst (v := 4) hx hb dX12_breach_32 rfl ?_
    refine q_cald E hC23 (lo := -2147483648) (hi := 2147483647) gca (a := 4) (show (4 : Int32).toInt = 4 from by decide) (by omega) (by omega) (cr_c3 (by omega) (by omega)) dX12_breach_33 (fun v28 ev28 _ _ => ?_)
    refine q_if_ne hx hb (a := v28.toInt) rfl (tgt := 44) dX12_breach_34 rfl (fun c29 => ?_) (fun c29 => ?_)
    · refine lv_iload_n hx hb dX12_breach_44 rfl (lv_at hl 1 rfl) ?_
      refine lv_iconst (v := 3) hx hb dX12_breach_45 rfl ?_
      refine q_icmp_ge hx hb (a := a1) (b := 3) e1 (by decide) (tgt := 61) dX12_breach_46 rfl (fun c30 => ?_) (fun c30 => ?_)
      · refine lv_iload_n hx hb dX12_breach_61 rfl (lv_at hl 1 rfl) ?_
        refine lv_iconst (v := 3) hx hb dX12_breach_62 rfl ?_
        refine q_icmp_ne hx hb (a := a1) (b := 3) e1 (by decide) (tgt := 79) dX12_breach_63 rfl (fun c31 => ?_) (fun c31 => ?_)
        · refine lv_aload_n hx hb dX12_breach_79 rfl (lv_at hl 0 rfl) ?_
          refine q_getC E hC23 g0 fa_RX12_35 uc dX12_breach_80 ?_
          refine lv_bipush (v := 11) hx hb dX12_breach_83 rfl ?_
          refine q_cald E hC23 (lo := -2147483648) (hi := 2147483647) gca (a := 11) (show (11 : Int32).toInt = 11 from by decide) (by omega) (by omega) (cr_c3 (by omega) (by omega)) dX12_breach_85 (fun v32 ev32 _ _ => ?_)
          refine lv_bipush (v := 6) hx hb dX12_breach_86 rfl ?_
          refine lv_idiv hx hb dX12_breach_88 (by decide) (lv_topi (fun v33 ev33 => ?_))
          exact ret v33 H23 locs26 _ _ dX12_breach_89 ⟨hKp23, trivial⟩ hC23 hS26
        · refine lv_aload_n hx hb dX12_breach_66 rfl (lv_at hl 0 rfl) ?_
          refine q_getC E hC23 g0 fa_RX12_35 uc dX12_breach_67 ?_
          refine lv_bipush (v := 11) hx hb dX12_breach_70 rfl ?_
          refine q_cald E hC23 (lo := -2147483648) (hi := 2147483647) gca (a := 11) (show (11 : Int32).toInt = 11 from by decide) (by omega) (by omega) (cr_c3 (by omega) (by omega)) dX12_breach_72 (fun v34 ev34 _ _ => ?_)
          refine lv_bipush (v := 6) hx hb dX12_breach_73 rfl ?_
          refine lv_irem hx hb dX12_breach_75 (by decide) (lv_topi (fun v35 ev35 => ?_))
          have ev35b := i_remB ev35 rfl (show (6 : Int32).toInt = 6 from by decide) (by decide)
          refine lv_goto (tgt := 89) hx hb dX12_breach_76 rfl ?_
          exact ret v35 H23 locs26 _ _ dX12_breach_89 ⟨hKp23, trivial⟩ hC23 hS26
      · refine lv_aload_n hx hb dX12_breach_49 rfl (lv_at hl 0 rfl) ?_
        refine q_getC E hC23 g0 fa_RX12_35 uc dX12_breach_50 ?_
        refine lv_bipush (v := 8) hx hb dX12_breach_53 rfl ?_
        refine lv_iload_n hx hb dX12_breach_55 rfl (lv_at hl 1 rfl) ?_
        refine lv_iadd hx hb dX12_breach_56 (lv_topi (fun v36 ev36 => ?_))
        have ev36i : v36.toInt = (8 + a1) := i_add ev36 (by decide) e1 (by omega) (by omega)
        refine q_cald E hC23 (lo := -2147483648) (hi := 2147483647) gca (a := (8 + a1)) ev36i (by omega) (by omega) (cr_c3 (by omega) (by omega)) dX12_breach_57 (fun v37 ev37 _ _ => ?_)
        refine lv_goto (tgt := 89) hx hb dX12_breach_58 rfl ?_
        exact ret v37 H23 locs26 _ _ dX12_breach_89 ⟨hKp23, trivial⟩ hC23 hS26
    · refine lv_aload_n hx hb dX12_breach_37 rfl (lv_at hl 0 rfl) ?_
      refine lv_bipush (v := 8) hx hb dX12_breach_38 rfl ?_
      refine q_goI (q_runV (As := [.int 8]) (rest := []) E hC23 hS26 (m_X12_refuse l X Γ H23 hC23 h0 g0 8 (a1 := 8) (by decide) ca gca uc) cw_X12_refuse cl_RX12_298 g0 ⟨rfl, rfl⟩ rfl hl.1 rfl (Nat.zero_le _) (by decide) dX12_breach_40) hS26 (fun v38 H38 locs38 hr38 hC38 hS38 => ?_)
      obtain ⟨hp38, hr38⟩ := hr38
      have hKp38 := hKp23.tr (hp38.mono rfl)
      have f38_0 := hr38
      exact ret v38 H38 locs38 _ _ dX12_breach_43 ⟨hKp38, trivial⟩ hC38 hS38
  · refine q_if_ne hx hb (a := 0) (by decide) (tgt := 28) dX12_breach_19 rfl (fun c39 => absurd c39 (by omega)) (fun c39 => ?_)
    refine lv_aload_n hx hb dX12_breach_22 rfl (lv_at hl 0 rfl) ?_
    refine lv_iconst (v := 5) hx hb dX12_breach_23 rfl ?_
    refine q_goI (q_runV (As := [.int 5]) (rest := []) E hC23 hS26 (m_X12_refuse l X Γ H23 hC23 h0 g0 5 (a1 := 5) (by decide) ca gca uc) cw_X12_refuse cl_RX12_298 g0 ⟨rfl, rfl⟩ rfl hl.1 rfl (Nat.zero_le _) (by decide) dX12_breach_24) hS26 (fun v40 H40 locs40 hr40 hC40 hS40 => ?_)
    obtain ⟨hp40, hr40⟩ := hr40
    have hKp40 := hKp23.tr (hp40.mono rfl)
    have f40_0 := hr40
    exact ret v40 H40 locs40 _ _ dX12_breach_27 ⟨hKp40, trivial⟩ hC40 hS40
set_option maxRecDepth 100000 in
set_option maxHeartbeats 4000000 in
theorem m_X12_falls (l : Launch) (X : xW) (Γ : Nat → Option Nat) (H0 : Heap) (hC0 : Conf X Γ H0) (h0 : Nat) (g0 : Γ h0 = some 11) (p1 : Int32) {a1 : Int} (e1 : p1.toInt = a1) (ca : Nat) (gca : Γ ca = some 64) (uc : ∀ a, Γ a = some 64 → a = ca) (r0 : 0 ≤ a1) (r1 : a1 ≤ 80) : Ctr l X Γ yX12_falls cX12_falls 7 (some .int) 1 [.ref h0, .int p1] H0 (QI X Γ (fun v H1 => Kp X Γ [1, 6, 7, 8, 9, 10, 11, 12, 14, 16, 17, 19, 22, 24, 26, 28] H0 H1 ∧ (True))) := by
  refine q_enterI (own := "SnowFortsModel") (by decide) rfl (Nat.le_of_ble_eq_true rfl) ?_
  intro p e s m args below meth c ls Qz E hl ret hS0
  have hx := E.1; have hb := E.2.1
  have hKp0 : Kp X Γ [1, 6, 7, 8, 9, 10, 11, 12, 14, 16, 17, 19, 22, 24, 26, 28] H0 H0 := Kp.rf
  have hl : lv_has ls 7 [(0, .ref h0), (1, .int p1)] := hl
  refine lv_iconst (v := 0) hx hb dX12_falls_0 rfl ?_
  refine lv_istore_n hx hb dX12_falls_1 rfl hl (by decide) rfl (fun ls hl => ?_)
  replace hl : lv_has ls 7 [(2, .int 0), (0, .ref h0), (1, .int p1)] := hl
  refine lv_iconst (v := 0) hx hb dX12_falls_2 rfl ?_
  refine lv_istore_n hx hb dX12_falls_3 rfl hl (by decide) rfl (fun ls hl => ?_)
  replace hl : lv_has ls 7 [(3, .int 0), (2, .int 0), (0, .ref h0), (1, .int p1)] := hl
  have L4 : ∀ (n23 : Nat) (H23 : Heap) (locs23 : List Loc) (v21 : Int32) (z21 : Int) (v22 : Int32) (z22 : Int) (ls : Array Slot), (6 - z21).toNat < n23 → v21.toInt = z21 → v22.toInt = z22 → z21 ≤ 6 → 0 ≤ z21 → Conf X Γ H23 → va_S (AΓ Γ) H0 H23 locs23 → Kp X Γ [1, 6, 7, 8, 9, 10, 11, 12, 14, 16, 17, 19, 22, 24, 26, 28] H0 H23 → lv_has ls 7 [(3, .int v21), (2, .int v22), (0, .ref h0), (1, .int p1)] → W p l e (rmL 1) s m args below meth c H23 locs23 0 0 Qz (F0 m 4 ls []) := by
    intro n23
    induction n23 with
    | zero => intro H23 locs23 v21 z21 v22 z22 ls hm23 ev21 ev22 iv23_0 iv23_1 hC23 hS23 hKp23 hl; exact absurd hm23 (Nat.not_lt_zero _)
    | succ n23 ih23 =>
      intro H23 locs23 v21 z21 v22 z22 ls hm23 ev21 ev22 iv23_0 iv23_1 hC23 hS23 hKp23 hl
      refine lv_iload_n hx hb dX12_falls_4 rfl (lv_at hl 0 rfl) ?_
      refine lv_aload_n hx hb dX12_falls_5 rfl (lv_at hl 2 rfl) ?_
      refine q_getC E hC23 g0 fa_RX12_35 uc dX12_falls_6 ?_
      refine lv_iconst (v := 1) hx hb dX12_falls_9 rfl ?_
      refine q_cald E hC23 (lo := 0) (hi := 6) gca (a := 1) (show (1 : Int32).toInt = 1 from by decide) (by omega) (by omega) (cr_c0 (by omega) (by omega)) dX12_falls_10 (fun v24 ev24 lv24 uv24 => ?_)
      refine q_icmp_ge hx hb (a := z21) (b := v24.toInt) ev21 rfl (tgt := 99) dX12_falls_11 rfl (fun c25 => ?_) (fun c25 => ?_)
      · refine lv_aload_n hx hb dX12_falls_99 rfl (lv_at hl 2 rfl) ?_
        refine q_getC E hC23 g0 fa_RX12_35 uc dX12_falls_100 ?_
        refine lv_bipush (v := 6) hx hb dX12_falls_103 rfl ?_
        refine lv_dup2_11 hx hb dX12_falls_105 rfl rfl ?_
        refine q_cald E hC23 (lo := -2147483648) (hi := 2147483647) gca (a := 6) (show (6 : Int32).toInt = 6 from by decide) (by omega) (by omega) (cr_c3 (by omega) (by omega)) dX12_falls_106 (fun v26 ev26 _ _ => ?_)
        refine lv_iload_n hx hb dX12_falls_107 rfl (lv_at hl 1 rfl) ?_
        refine lv_iadd hx hb dX12_falls_108 (lv_topi (fun v27 ev27 => ?_))
        refine q_cast E hC23 hS23 gca (a := 6) (show (6 : Int32).toInt = 6 from by decide) (by omega) (by omega) (cs_c3 (a := 6) (by omega) (by omega)) dX12_falls_109 (fun H28 locs28 hC28 hS28 U28 => ?_)
        have hKp28 := Kp.upD gca rfl rfl (fun _ => ⟨fun _ => nd1 (by omega) (by omega), fun _ => by unfold dpu; omega, fun _ => by unfold dpn; omega⟩) U28 hKp23
        have e29 := up_I U28
        refine lv_iload_n hx hb dX12_falls_110 rfl (lv_at hl 1 rfl) ?_
        exact ret v22 H28 locs28 _ _ dX12_falls_111 ⟨hKp28, trivial⟩ hC28 hS28
      · refine lv_iconst (v := 0) hx hb dX12_falls_14 rfl ?_
        refine lv_istore hx hb dX12_falls_15 hl (by decide) rfl (fun ls hl => ?_)
        replace hl : lv_has ls 7 [(4, .int 0), (3, .int v21), (2, .int v22), (0, .ref h0), (1, .int p1)] := hl
        have L17 : ∀ (n32 : Nat) (H32 : Heap) (locs32 : List Loc) (v30 : Int32) (z30 : Int) (v31 : Int32) (z31 : Int) (ls : Array Slot), (6 - z30).toNat < n32 → v30.toInt = z30 → v31.toInt = z31 → z30 ≤ 6 → 0 ≤ z30 → Conf X Γ H32 → va_S (AΓ Γ) H0 H32 locs32 → Kp X Γ [1, 6, 7, 8, 9, 10, 11, 12, 14, 16, 17, 19, 22, 24, 26, 28] H0 H32 → lv_has ls 7 [(4, .int v30), (3, .int v21), (2, .int v31), (0, .ref h0), (1, .int p1)] → W p l e (rmL 1) s m args below meth c H32 locs32 0 0 Qz (F0 m 17 ls []) := by
          intro n32
          induction n32 with
          | zero => intro H32 locs32 v30 z30 v31 z31 ls hm32 ev30 ev31 iv32_0 iv32_1 hC32 hS32 hKp32 hl; exact absurd hm32 (Nat.not_lt_zero _)
          | succ n32 ih32 =>
            intro H32 locs32 v30 z30 v31 z31 ls hm32 ev30 ev31 iv32_0 iv32_1 hC32 hS32 hKp32 hl
            refine lv_iload hx hb dX12_falls_17 (lv_at hl 0 rfl) ?_
            refine lv_aload_n hx hb dX12_falls_19 rfl (lv_at hl 3 rfl) ?_
            refine q_getC E hC32 g0 fa_RX12_35 uc dX12_falls_20 ?_
            refine lv_iconst (v := 0) hx hb dX12_falls_23 rfl ?_
            refine q_cald E hC32 (lo := 0) (hi := 6) gca (a := 0) (show (0 : Int32).toInt = 0 from by decide) (by omega) (by omega) (cr_c0 (by omega) (by omega)) dX12_falls_24 (fun v33 ev33 lv33 uv33 => ?_)
            refine q_icmp_ge hx hb (a := z30) (b := v33.toInt) ev30 rfl (tgt := 93) dX12_falls_25 rfl (fun c34 => ?_) (fun c34 => ?_)
            · obtain ⟨v35, ev35⟩ : ∃ z, z = v21 + Int32.ofInt 1 := ⟨_, rfl⟩
              have ev35i : v35.toInt = (z21 + 1) := i_add ev35 ev21 (by decide) (by omega) (by omega)
              refine lv_iinc hx hb dX12_falls_93 hl (k := 1) rfl ev35.symm (by decide) rfl (fun ls hl => ?_)
              replace hl : lv_has ls 7 [(3, .int v35), (4, .int v30), (2, .int v31), (0, .ref h0), (1, .int p1)] := hl
              refine lv_goto (tgt := 4) hx hb dX12_falls_96 rfl ?_
              exact ih23 H32 locs32 v35 ((z21 + 1)) v31 (z31) ls (by omega) ev35i ev31 (by omega) (by omega) hC32 hS32 hKp32 (lv_sub hl [0, 2, 3, 4] rfl)
            · refine lv_bipush (v := 26) hx hb dX12_falls_28 rfl ?_
              refine lv_iload hx hb dX12_falls_30 (lv_at hl 0 rfl) ?_
              refine lv_iload_n hx hb dX12_falls_32 rfl (lv_at hl 1 rfl) ?_
              refine q_goIp (q_runS (As := [.int v30, .int v21]) (rest := [.int 26]) E hS32 (m_X12_at2 l X Γ H32 hC32 v30 (a0 := z30) ev30 v21 (a1 := z21) ev21 (by omega) (by omega) (by omega) (by omega)) cw_X12_at2 cl_RX12_292 rfl hl.1 rfl (show _ ≤ _ from by simp [Value.category]) (by decide) dX12_falls_33) hS32 (fun v36 locs36 hr36 hS36 => ?_)
              have f36_0 := hr36
              refine lv_iadd hx hb dX12_falls_36 (lv_topi (fun v37 ev37 => ?_))
              have ev37i : v37.toInt = (26 + v36.toInt) := i_add ev37 (by decide) rfl (by omega) (by omega)
              refine lv_istore hx hb dX12_falls_37 hl (by decide) rfl (fun ls hl => ?_)
              replace hl : lv_has ls 7 [(5, .int v37), (4, .int v30), (3, .int v21), (2, .int v31), (0, .ref h0), (1, .int p1)] := hl
              refine lv_iconst (v := 0) hx hb dX12_falls_39 rfl ?_
              refine lv_aload_n hx hb dX12_falls_40 rfl (lv_at hl 4 rfl) ?_
              refine q_getC E hC32 g0 fa_RX12_35 uc dX12_falls_41 ?_
              refine lv_iload hx hb dX12_falls_44 (lv_at hl 0 rfl) ?_
              refine q_cald E hC32 (lo := 0) (hi := 99) gca (a := (26 + v36.toInt)) ev37i (by omega) (by omega) (cr_c26 (by omega) (by omega)) dX12_falls_46 (fun v38 ev38 lv38 uv38 => ?_)
              refine lv_iload_n hx hb dX12_falls_47 rfl (lv_at hl 5 rfl) ?_
              refine lv_iadd hx hb dX12_falls_48 (lv_topi (fun v39 ev39 => ?_))
              have ev39i : v39.toInt = (v38.toInt + a1) := i_add ev39 rfl e1 (by omega) (by omega)
              refine lv_bipush (v := 99) hx hb dX12_falls_49 rfl ?_
              refine lv_isub hx hb dX12_falls_51 (lv_topi (fun v40 ev40 => ?_))
              have ev40i : v40.toInt = ((v38.toInt + a1) - 99) := i_sub ev40 ev39i (by decide) (by omega) (by omega)
              refine q_mmax E hl.1 w_1731 mathw_max (a := 0) (b := ((v38.toInt + a1) - 99)) (show (0 : Int32).toInt = 0 from by decide) ev40i (by decide) (Nat.zero_le _) dX12_falls_52 (fun v41 mv41a mv41b mv41c => ?_)
              refine lv_istore hx hb dX12_falls_55 hl (by decide) rfl (fun ls hl => ?_)
              replace hl : lv_has ls 7 [(6, .int v41), (5, .int v37), (4, .int v30), (3, .int v21), (2, .int v31), (0, .ref h0), (1, .int p1)] := hl
              refine lv_aload_n hx hb dX12_falls_57 rfl (lv_at hl 5 rfl) ?_
              refine q_getC E hC32 g0 fa_RX12_35 uc dX12_falls_58 ?_
              refine lv_iload hx hb dX12_falls_61 (lv_at hl 1 rfl) ?_
              refine lv_dup2_11 hx hb dX12_falls_63 rfl rfl ?_
              refine q_cald E hC32 (lo := 0) (hi := 99) gca (a := (26 + v36.toInt)) ev37i (by omega) (by omega) (cr_c26 (by omega) (by omega)) dX12_falls_64 (fun v42 ev42 lv42 uv42 => ?_)
              have qv42 := ev38.symm.trans ev42; subst qv42
              refine lv_iload_n hx hb dX12_falls_65 rfl (lv_at hl 6 rfl) ?_
              refine lv_iload hx hb dX12_falls_66 (lv_at hl 0 rfl) ?_
              refine lv_isub hx hb dX12_falls_68 (lv_topi (fun v43 ev43 => ?_))
              have ev43i : v43.toInt = (a1 - v41.toInt) := i_sub ev43 e1 rfl (by omega) (by omega)
              refine lv_iadd hx hb dX12_falls_69 (lv_topi (fun v44 ev44 => ?_))
              have ev44i : v44.toInt = (v38.toInt + (a1 - v41.toInt)) := i_add ev44 rfl ev43i (by omega) (by omega)
              refine q_cast E hC32 hS36 gca (a := (26 + v36.toInt)) ev37i (by omega) (by omega) (cs_c26 (a := (26 + v36.toInt)) (b := (v38.toInt + (a1 - v41.toInt))) (by omega) (by omega) ev44i (by omega) (by omega)) dX12_falls_70 (fun H45 locs45 hC45 hS45 U45 => ?_)
              have hKp45 := Kp.upD gca rfl rfl (fun _ => ⟨fun _ => nd2 (by omega) (by omega), fun _ => by unfold dpu; omega, fun _ => by unfold dpn; omega⟩) U45 hKp32
              have e46 := up_I U45
              refine lv_iload_n hx hb dX12_falls_71 rfl (lv_at hl 4 rfl) ?_
              refine lv_iload hx hb dX12_falls_72 (lv_at hl 0 rfl) ?_
              refine lv_iadd hx hb dX12_falls_74 (lv_topi (fun v47 ev47 => ?_))
              refine lv_istore_n hx hb dX12_falls_75 rfl hl (by decide) rfl (fun ls hl => ?_)
              replace hl : lv_has ls 7 [(2, .int v47), (6, .int v41), (5, .int v37), (4, .int v30), (3, .int v21), (0, .ref h0), (1, .int p1)] := hl
              refine lv_aload_n hx hb dX12_falls_76 rfl (lv_at hl 5 rfl) ?_
              refine q_getC E hC45 g0 fa_RX12_35 uc dX12_falls_77 ?_
              refine lv_bipush (v := 7) hx hb dX12_falls_80 rfl ?_
              refine lv_dup2_11 hx hb dX12_falls_82 rfl rfl ?_
              refine q_cald E hC45 (lo := -2147483648) (hi := 2147483647) gca (a := 7) (show (7 : Int32).toInt = 7 from by decide) (by omega) (by omega) (cr_c3 (by omega) (by omega)) dX12_falls_83 (fun v48 ev48 _ _ => ?_)
              refine lv_iload_n hx hb dX12_falls_84 rfl (lv_at hl 6 rfl) ?_
              refine lv_iadd hx hb dX12_falls_85 (lv_topi (fun v49 ev49 => ?_))
              refine q_cast E hC45 hS45 gca (a := 7) (show (7 : Int32).toInt = 7 from by decide) (by omega) (by omega) (cs_c3 (a := 7) (by omega) (by omega)) dX12_falls_86 (fun H50 locs50 hC50 hS50 U50 => ?_)
              have hKp50 := Kp.upD gca rfl rfl (fun _ => ⟨fun _ => nd1 (by omega) (by omega), fun _ => by unfold dpu; omega, fun _ => by unfold dpn; omega⟩) U50 hKp45
              have e51 := up_I U50
              obtain ⟨v52, ev52⟩ : ∃ z, z = v30 + Int32.ofInt 1 := ⟨_, rfl⟩
              have ev52i : v52.toInt = (z30 + 1) := i_add ev52 ev30 (by decide) (by omega) (by omega)
              refine lv_iinc hx hb dX12_falls_87 hl (k := 3) rfl ev52.symm (by decide) rfl (fun ls hl => ?_)
              replace hl : lv_has ls 7 [(4, .int v52), (2, .int v47), (6, .int v41), (5, .int v37), (3, .int v21), (0, .ref h0), (1, .int p1)] := hl
              refine lv_goto (tgt := 17) hx hb dX12_falls_90 rfl ?_
              exact ih32 H50 locs50 v52 ((z30 + 1)) v47 (v47.toInt) ls (by omega) ev52i rfl (by omega) (by omega) hC50 hS50 hKp50 (lv_sub hl [0, 4, 1, 5, 6] rfl)
        exact L17 _ H23 locs23 0 0 v22 z22 ls (Nat.lt_succ_self _) (by decide) ev22 (by omega) (by omega) hC23 hS23 hKp23 hl
  exact L4 _ H0 [] 0 0 0 0 ls (Nat.lt_succ_self _) (by decide) (by decide) (by omega) (by omega) hC0 hS0 hKp0 hl
