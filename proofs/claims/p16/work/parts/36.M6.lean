set_option maxRecDepth 100000 in
set_option maxHeartbeats 40000000 in
theorem m_X12_yard (l : Launch) (X : xW) (Γ : Nat → Option Nat) (H0 : Heap) (hC0 : Conf X Γ H0) (h0 : Nat) (g0 : Γ h0 = some 11) (p1 : Int32) {a1 : Int} (e1 : p1.toInt = a1) (ca : Nat) (gca : Γ ca = some 64) (uc : ∀ a, Γ a = some 64 → a = ca) (tq : Nat) (htq : sR H0 h0 (X.1.2 11 7) = some tq) (gtq : Γ tq = some 63) (kd vl w3 : Nat → Int) (pos : Nat → Nat) (N : Nat) (hks : 0 ≤ a1 → a1 ≤ (sI H0 h0 (X.1.2 11 8)).toInt → TKS (bf H0 tq) (a1).toNat N pos kd vl w3) : Ctr l X Γ yX12_yard cX12_yard 4 (some .int) 5 [.ref h0, .int p1] H0 (QI X Γ (fun v H1 => Kp X Γ [1, 6, 8, 9, 11, 12, 14, 19, 22, 24, 26, 28, 30, 38] H0 H1 ∧ ((KD H0 H1 ca 0 0 ∨ (KD H0 H1 ca 0 520 ∧ YI H1 ca)) ∧ (((a1 < 0 ∨ (sI H0 h0 (X.1.2 11 8)).toInt < a1) ∧ (sI H1 h0 (X.1.2 11 8)).toInt = (sI H0 h0 (X.1.2 11 8)).toInt) ∨ (0 ≤ a1 ∧ a1 ≤ (sI H0 h0 (X.1.2 11 8)).toInt ∧ (sI H1 h0 (X.1.2 11 8)).toInt = 0)) ∧ (YMR (sI H0 h0 (X.1.2 11 8)).toInt a1 kd vl v.toInt (KD H0 H1 ca 0 0) (QYA H1 ca kd vl))))) := by
  refine q_enterI (own := "SnowFortsModel") (by decide) rfl (Nat.le_of_ble_eq_true rfl) ?_
  intro p e s m args below meth c ls Qz E hl ret hS0
  have hx := E.1; have hb := E.2.1
  have hKp0 : Kp X Γ [1, 6, 8, 9, 11, 12, 14, 19, 22, 24, 26, 28, 30, 38] H0 H0 := Kp.rf
  have hl : lv_has ls 4 [(0, .ref h0), (1, .int p1)] := hl
  have hz7 := f_bd hC0 g0 (ci := 11) (k := 8) rfl rfl
  have kdd : KD H0 H0 ca 0 0 := KD.rf
  have kd2 : KD H0 H0 ca 0 520 := KD.rf
  have tqt : ∀ j, sI H0 tq j = sI H0 tq j := fun _ => rfl
  refine lv_aload_n hx hb dX12_yard_0 rfl (lv_at hl 0 rfl) ?_
  refine lv_iconst (v := 0) hx hb dX12_yard_1 rfl ?_
  refine q_put E hC0 hS0 g0 fp_RX12_69 tv_F rfl rfl dX12_yard_2 (fun H21 locs21 hC21 hS21 U21 => ?_)
  have hKp21 := Kp.upO E g0 fp_RX12_69 rfl U21 hKp0
  have e22 := up_I U21
  have kdd : KD H0 H21 ca 0 0 := KD.ne kdd U21 (nek g0 gca (by decide))
  have kd2 : KD H0 H21 ca 0 520 := KD.ne kd2 U21 (nek g0 gca (by decide))
  have tqt : ∀ j, sI H21 tq j = sI H0 tq j := fun j => (up_nI U21 (ne_k gtq g0 (by decide))).trans (tqt j)
  have m23 : (sI H21 h0 (X.1.2 11 12)).toInt = (sI H0 h0 (X.1.2 11 12)).toInt := congrArg Int32.toInt (up_nI U21 (ne_f E 11 12 1 rfl (by decide) (by decide) (by decide)))
  have m24 : (sI H21 h0 (X.1.2 11 14)).toInt = (sI H0 h0 (X.1.2 11 14)).toInt := congrArg Int32.toInt (up_nI U21 (ne_f E 11 14 1 rfl (by decide) (by decide) (by decide)))
  have m25 := congrArg tk m24
  have m26 : (sI H21 h0 (X.1.2 11 16)).toInt = (sI H0 h0 (X.1.2 11 16)).toInt := congrArg Int32.toInt (up_nI U21 (ne_f E 11 16 1 rfl (by decide) (by decide) (by decide)))
  have m27 : (sI H21 h0 (X.1.2 11 8)).toInt = (sI H0 h0 (X.1.2 11 8)).toInt := congrArg Int32.toInt (up_nI U21 (ne_f E 11 8 1 rfl (by decide) (by decide) (by decide)))
  have m28 : (sI H21 h0 (X.1.2 11 9)).toInt = (sI H0 h0 (X.1.2 11 9)).toInt := congrArg Int32.toInt (up_nI U21 (ne_f E 11 9 1 rfl (by decide) (by decide) (by decide)))
  have m29 : (sI H21 h0 (X.1.2 11 17)).toInt = (sI H0 h0 (X.1.2 11 17)).toInt := congrArg Int32.toInt (up_nI U21 (ne_f E 11 17 1 rfl (by decide) (by decide) (by decide)))
  refine lv_aload_n hx hb dX12_yard_5 rfl (lv_at hl 0 rfl) ?_
  refine lv_iconst (v := 0) hx hb dX12_yard_6 rfl ?_
  refine q_put E hC21 hS21 g0 fp_RX12_72 tv_F rfl rfl dX12_yard_7 (fun H30 locs30 hC30 hS30 U30 => ?_)
  have hKp30 := Kp.upO E g0 fp_RX12_72 rfl U30 hKp21
  have e31 := up_I U30
  have kdd : KD H0 H30 ca 0 0 := KD.ne kdd U30 (nek g0 gca (by decide))
  have kd2 : KD H0 H30 ca 0 520 := KD.ne kd2 U30 (nek g0 gca (by decide))
  have tqt : ∀ j, sI H30 tq j = sI H0 tq j := fun j => (up_nI U30 (ne_k gtq g0 (by decide))).trans (tqt j)
  have m32 : (sI H30 h0 (X.1.2 11 12)).toInt = (sI H21 h0 (X.1.2 11 12)).toInt := congrArg Int32.toInt (up_nI U30 (ne_f E 11 12 0 rfl (by decide) (by decide) (by decide)))
  have m33 : (sI H30 h0 (X.1.2 11 14)).toInt = (sI H21 h0 (X.1.2 11 14)).toInt := congrArg Int32.toInt (up_nI U30 (ne_f E 11 14 0 rfl (by decide) (by decide) (by decide)))
  have m34 := congrArg tk m33
  have m35 : (sI H30 h0 (X.1.2 11 16)).toInt = (sI H21 h0 (X.1.2 11 16)).toInt := congrArg Int32.toInt (up_nI U30 (ne_f E 11 16 0 rfl (by decide) (by decide) (by decide)))
  have m36 : (sI H30 h0 (X.1.2 11 8)).toInt = (sI H21 h0 (X.1.2 11 8)).toInt := congrArg Int32.toInt (up_nI U30 (ne_f E 11 8 0 rfl (by decide) (by decide) (by decide)))
  have m37 : (sI H30 h0 (X.1.2 11 9)).toInt = (sI H21 h0 (X.1.2 11 9)).toInt := congrArg Int32.toInt (up_nI U30 (ne_f E 11 9 0 rfl (by decide) (by decide) (by decide)))
  have m38 : (sI H30 h0 (X.1.2 11 17)).toInt = (sI H21 h0 (X.1.2 11 17)).toInt := congrArg Int32.toInt (up_nI U30 (ne_f E 11 17 0 rfl (by decide) (by decide) (by decide)))
  refine lv_aload_n hx hb dX12_yard_10 rfl (lv_at hl 0 rfl) ?_
  refine lv_iload_n hx hb dX12_yard_11 rfl (lv_at hl 1 rfl) ?_
  refine lv_sipush (v := 900) hx hb dX12_yard_12 rfl ?_
  have tby := bf_eq tqt
  refine q_goI (q_runV (As := [.int p1, .int 900]) (rest := []) E hC30 hS30 (m_X12_opens l X Γ H30 hC30 h0 g0 p1 (a1 := a1) e1 900 (a2 := 900) (by decide) ca gca uc tq ((kp_R hKp30 g0 (ci := 11) (k := 7) rfl (by decide) rfl).trans htq) gtq) cw_X12_opens cl_RX12_251 g0 ⟨rfl, rfl⟩ rfl hl.1 rfl (Nat.zero_le _) (by decide) dX12_yard_15) hS30 (fun v39 H39 locs39 hr39 hC39 hS39 => ?_)
  obtain ⟨hp39, hr39⟩ := hr39
  have hKp39 := hKp30.tr (hp39.mono rfl)
  have kdd : KD H0 H39 ca 0 0 := KD.kp kdd hp39 gca rfl rfl
  have kd2 : KD H0 H39 ca 0 520 := KD.kp kd2 hp39 gca rfl rfl
  have tqt : ∀ j, sI H39 tq j = sI H0 tq j := fun j => (kp_aI hp39 j gtq rfl rfl).trans (tqt j)
  rcases hr39 with ⟨rfl, ho0, ho1, ho2, ho3, ho4, ho5, ho6⟩ | ⟨rfl, hn0, hn1⟩
  · have tb1 := bf_eq tqt
    have hs0 := hks (by omega) (by omega)
    clear hks
    have mc0 : MC X H39 h0 tq kd vl w3 pos N 0 := MC.first (n := (a1).toNat) (by rw [tb1]; exact hs0) (by omega) (by rw [tb1, ← tby, show (((a1).toNat : Nat) : Int) = a1 by omega]; exact ho6)
    have hN9 := hs0.N900 (by omega)
    have mc := mc0
    refine q_if_ne hx hb (a := 1) (by decide) (tgt := 23) dX12_yard_18 rfl (fun c40 => ?_) (fun c40 => absurd c40 (by omega))
    refine lv_iconst (v := 0) hx hb dX12_yard_23 rfl ?_
    refine lv_istore_n hx hb dX12_yard_24 rfl hl (by decide) rfl (fun ls hl => ?_)
    have hl : lv_has ls 4 [(2, .int 0), (0, .ref h0), (1, .int p1)] := hl
    have L25 : ∀ (n42 : Nat) (H42 : Heap) (locs42 : List Loc) (v41 : Int32) (z41 : Int) (ls : Array Slot), (520 - z41).toNat < n42 → v41.toInt = z41 → z41 ≤ 520 → 0 ≤ z41 → (sI H42 h0 (X.1.2 11 8)).toInt = 0 → (sI H42 h0 (X.1.2 11 12)).toInt = 0 → MC X H42 h0 tq kd vl w3 pos N 0 → CZ H42 ca z41 → Conf X Γ H42 → va_S (AΓ Γ) H0 H42 locs42 → Kp X Γ [1, 6, 8, 9, 11, 12, 14, 19, 22, 24, 26, 28, 30, 38] H0 H42 → (KD H0 H42 ca 0 0) → (KD H0 H42 ca 0 520) → (∀ j, sI H42 tq j = sI H0 tq j) → lv_has ls 4 [(2, .int v41), (0, .ref h0), (1, .int p1)] → W p l e (rmL 5) s m args below meth c H42 locs42 0 0 Qz (F0 m 25 ls []) := by
      intro n42
      induction n42 with
      | zero => intro H42 locs42 v41 z41 ls hm42 ev41 iv42_0 iv42_1 iv42_2 iv42_3 iv42_4 iv42_5 hC42 hS42 hKp42 kdd kd2 tqt hl; exact absurd hm42 (Nat.not_lt_zero _)
      | succ n42 ih42 =>
        intro H42 locs42 v41 z41 ls hm42 ev41 iv42_0 iv42_1 iv42_2 iv42_3 iv42_4 iv42_5 hC42 hS42 hKp42 kdd kd2 tqt hl
        have mc := iv42_4
        have cz := iv42_5
        have mc := mc
        refine lv_iload_n hx hb dX12_yard_25 rfl (lv_at hl 0 rfl) ?_
        refine lv_sipush (v := 520) hx hb dX12_yard_26 rfl ?_
        refine q_icmp_ge hx hb (a := z41) (b := 520) ev41 (by decide) (tgt := 49) dX12_yard_29 rfl (fun c43 => ?_) (fun c43 => ?_)
        · have cz := cz.le (k' := 520) (by omega)
          refine lv_iconst (v := 0) hx hb dX12_yard_49 rfl ?_
          refine lv_istore_n hx hb dX12_yard_50 rfl hl (by decide) rfl (fun ls hl => ?_)
          have hl : lv_has ls 4 [(2, .int 0), (0, .ref h0), (1, .int p1)] := hl
          have L51 : ∀ (n45 : Nat) (H45 : Heap) (locs45 : List Loc) (v44 : Int32) (z44 : Int) (ls : Array Slot), (108 - z44).toNat < n45 → v44.toInt = z44 → z44 ≤ 108 → 0 ≤ z44 → (sI H45 h0 (X.1.2 11 8)).toInt = 0 → (sI H45 h0 (X.1.2 11 12)).toInt = 0 → MC X H45 h0 tq kd vl w3 pos N 0 → CZ H45 ca 520 → TZM X Γ H45 h0 z44 → Conf X Γ H45 → va_S (AΓ Γ) H0 H45 locs45 → Kp X Γ [1, 6, 8, 9, 11, 12, 14, 19, 22, 24, 26, 28, 30, 38] H0 H45 → (KD H0 H45 ca 0 0) → (KD H0 H45 ca 0 520) → (∀ j, sI H45 tq j = sI H0 tq j) → lv_has ls 4 [(2, .int v44), (0, .ref h0), (1, .int p1)] → W p l e (rmL 5) s m args below meth c H45 locs45 0 0 Qz (F0 m 51 ls []) := by
            intro n45
            induction n45 with
            | zero => intro H45 locs45 v44 z44 ls hm45 ev44 iv45_0 iv45_1 iv45_2 iv45_3 iv45_4 iv45_5 iv45_6 hC45 hS45 hKp45 kdd kd2 tqt hl; exact absurd hm45 (Nat.not_lt_zero _)
            | succ n45 ih45 =>
              intro H45 locs45 v44 z44 ls hm45 ev44 iv45_0 iv45_1 iv45_2 iv45_3 iv45_4 iv45_5 iv45_6 hC45 hS45 hKp45 kdd kd2 tqt hl
              have mc := iv45_4
              have cz := iv45_5
              have tz := iv45_6
              have mc := mc
              have cz := cz
              refine lv_iload_n hx hb dX12_yard_51 rfl (lv_at hl 0 rfl) ?_
              refine lv_bipush (v := 108) hx hb dX12_yard_52 rfl ?_
              refine q_icmp_ge hx hb (a := z44) (b := 108) ev44 (by decide) (tgt := 70) dX12_yard_54 rfl (fun c46 => ?_) (fun c46 => ?_)
              · have tzf : TZM X Γ H45 h0 108 := by obtain ⟨tc, t1, t2, t3⟩ := tz; exact ⟨tc, t1, t2, fun j hj => t3 j (by omega)⟩
                have hd := HD.of (by omega) mc (YSM.start (r := h0) hC45 g0 cz tzf)
                refine lv_aload_n hx hb dX12_yard_70 rfl (lv_at hl 1 rfl) ?_
                refine lv_aload_n hx hb dX12_yard_71 rfl (lv_at hl 1 rfl) ?_
                refine q_goIp (q_runV (As := []) (rest := [.ref h0]) E hC45 hS45 (m_X12_isWide l X Γ H45 hC45 h0 g0 ca gca uc) cw_X12_isWide cl_RX12_166 g0 ⟨rfl, rfl⟩ rfl hl.1 rfl (show _ ≤ _ from by simp [Value.category]) (by decide) dX12_yard_72) hS45 (fun v47 locs47 hr47 hS47 => ?_)
                have hbz : (v47.toInt = 1 ∧ _) ∨ (v47.toInt = 0 ∧ _) := hr47.imp (fun h => ⟨by rw [h.1]; decide, h.2⟩) (fun h => ⟨by rw [h.1]; decide, h.2⟩)
                have b47 : 0 ≤ v47.toInt ∧ v47.toInt ≤ 1 := by rcases hbz with q | q <;> (have q1 := q.1; omega)
                clear hr47
                refine q_goV (q_runV (As := [.int v47]) (rest := []) E hC45 hS47 (m_X12_must l X Γ H45 hC45 h0 g0 v47 (a1 := v47.toInt) rfl ca gca uc tq ((kp_R hKp45 g0 (ci := 11) (k := 7) rfl (by decide) rfl).trans htq) gtq (by omega) (by omega)) cw_X12_must cl_RX12_244 g0 ⟨rfl, rfl⟩ rfl hl.1 rfl (Nat.zero_le _) (by decide) dX12_yard_75) hS47 (fun H48 locs48 hr48 hC48 hS48 => ?_)
                obtain ⟨hp48, hr48⟩ := hr48
                have hKp48 := hKp45.tr (hp48.mono rfl)
                have kdd : KD H0 H48 ca 0 0 := KD.kp kdd hp48 gca rfl rfl
                have kd2 : KD H0 H48 ca 0 520 := KD.kp kd2 hp48 gca rfl rfl
                have tqt : ∀ j, sI H48 tq j = sI H0 tq j := fun j => (kp_aI hp48 j gtq rfl rfl).trans (tqt j)
                have m49 : (sI H48 h0 (X.1.2 11 8)).toInt = (sI H45 h0 (X.1.2 11 8)).toInt := congrArg Int32.toInt (kp_I hp48 g0 (k := 8) rfl (by decide) rfl)
                obtain ⟨f48_0, f48_1, f48_2, f48_3, f48_4, f48_5⟩ := hr48
                have hd := HD.must hd hp48 g0 gca (by first | exact hbz | exact Or.inl ⟨rfl, hw⟩ | exact Or.inr ⟨rfl, hw⟩) f48_5 f48_2 (by omega) rfl rfl (by decide)
                try clear hbz
                refine lv_aload_n hx hb dX12_yard_78 rfl (lv_at hl 1 rfl) ?_
                refine q_getI E hC48 g0 fa_RX12_114 dX12_yard_79 (fun v50 ev50 lv50 uv50 => ?_)
                refine lv_istore_n hx hb dX12_yard_82 rfl hl (by decide) rfl (fun ls hl => ?_)
                have hl : lv_has ls 4 [(2, .int v50), (0, .ref h0), (1, .int p1)] := hl
                refine lv_aload_n hx hb dX12_yard_83 rfl (lv_at hl 1 rfl) ?_
                refine q_getC E hC48 g0 fa_RX12_35 uc dX12_yard_84 ?_
                refine lv_sipush (v := 2080) hx hb dX12_yard_87 rfl ?_
                refine lv_aload_n hx hb dX12_yard_90 rfl (lv_at hl 1 rfl) ?_
                refine lv_iconst (v := 2) hx hb dX12_yard_91 rfl ?_
                refine lv_bipush (v := 6) hx hb dX12_yard_92 rfl ?_
                refine q_goI (q_runV (As := [.int 2, .int 6]) (rest := [.int 2080, .ref ca]) E hC48 hS48 (m_X12_count l X Γ H48 hC48 h0 g0 2 (a1 := 2) (by decide) 6 (a2 := 6) (by decide) ca gca uc tq ((kp_R hKp48 g0 (ci := 11) (k := 7) rfl (by decide) rfl).trans htq) gtq (by omega) (by omega) (by omega) (by omega)) cw_X12_count cl_RX12_248 g0 ⟨rfl, rfl⟩ rfl hl.1 rfl (show _ ≤ _ from by simp [Value.category]) (by decide) dX12_yard_94) hS48 (fun v51 H51 locs51 hr51 hC51 hS51 => ?_)
                obtain ⟨hp51, hr51⟩ := hr51
                have hKp51 := hKp48.tr (hp51.mono rfl)
                have kdd : KD H0 H51 ca 0 0 := KD.kp kdd hp51 gca rfl rfl
                have kd2 : KD H0 H51 ca 0 520 := KD.kp kd2 hp51 gca rfl rfl
                have tqt : ∀ j, sI H51 tq j = sI H0 tq j := fun j => (kp_aI hp51 j gtq rfl rfl).trans (tqt j)
                have m52 : (sI H51 h0 (X.1.2 11 8)).toInt = (sI H48 h0 (X.1.2 11 8)).toInt := congrArg Int32.toInt (kp_I hp51 g0 (k := 8) rfl (by decide) rfl)
                obtain ⟨f51_0, f51_1, f51_2, f51_3, f51_4, f51_5, f51_6, f51_7, f51_8⟩ := hr51
                have hdc := HD.count hd hp51 g0 gca f51_8 f51_2 (by omega) rfl rfl
                have hd := hdc.1
                have hv1 : IFZ (sI H51 h0 (X.1.2 11 12)).toInt (v51.toInt = vl 1) := hdc.2
                clear hdc
                refine q_cast E hC51 hS51 gca (a := 2080) (show (2080 : Int32).toInt = 2080 from by decide) (by omega) (by omega) (cs_n0 (a := 2080) (b := v51.toInt) (by omega) (by omega) rfl (by omega) (by omega)) dX12_yard_97 (fun H53 locs53 hC53 hS53 U53 => ?_)
                have hKp53 := Kp.upD gca rfl rfl (fun _ => ⟨fun h => absurd h (by decide), fun h => absurd h (by decide), fun h => absurd h (by decide)⟩) U53 hKp51
                have kdd : KD H0 H53 ca 0 0 := KD.up kdd U53 (by omega) (by omega)
                have kd2 : KD H0 H53 ca 0 520 := KD.up kd2 U53 (by omega) (by omega)
                have tqt : ∀ j, sI H53 tq j = sI H0 tq j := fun j => (up_nI U53 (ne_k gtq gca (by decide))).trans (tqt j)
                have m54 : (sI H53 h0 (X.1.2 11 12)).toInt = (sI H51 h0 (X.1.2 11 12)).toInt := congrArg Int32.toInt (up_nI U53 (ne_k g0 gca (by decide)))
                have m55 : (sI H53 h0 (X.1.2 11 14)).toInt = (sI H51 h0 (X.1.2 11 14)).toInt := congrArg Int32.toInt (up_nI U53 (ne_k g0 gca (by decide)))
                have m56 := congrArg tk m55
                have m57 : (sI H53 h0 (X.1.2 11 16)).toInt = (sI H51 h0 (X.1.2 11 16)).toInt := congrArg Int32.toInt (up_nI U53 (ne_k g0 gca (by decide)))
                have m58 : (sI H53 h0 (X.1.2 11 8)).toInt = (sI H51 h0 (X.1.2 11 8)).toInt := congrArg Int32.toInt (up_nI U53 (ne_k g0 gca (by decide)))
                have m59 : (sI H53 h0 (X.1.2 11 9)).toInt = (sI H51 h0 (X.1.2 11 9)).toInt := congrArg Int32.toInt (up_nI U53 (ne_k g0 gca (by decide)))
                have m60 : (sI H53 h0 (X.1.2 11 17)).toInt = (sI H51 h0 (X.1.2 11 17)).toInt := congrArg Int32.toInt (up_nI U53 (ne_k g0 gca (by decide)))
                have hd := HD.map hd (congrArg Int32.toInt (up_nI U53 (ne_k g0 gca (by decide)))) (fun hb0 mc ym => ⟨mc.ne U53 g0 gtq gca (by decide), ym.wide U53 g0 gca rfl (z := vl 1) (rfl.trans (hv1 hb0))⟩)
                obtain ⟨xx, hxx⟩ : ∃ z, v51.toInt = z := ⟨_, rfl⟩
                have n0 : EQ H53 ca 2080 xx := (congrArg Int32.toInt (up_I U53)).trans (rfl.trans hxx)
                have hxv : IFZ (sI H53 h0 (X.1.2 11 12)).toInt (xx = vl 1) := fun q => by have := hv1 (by omega); omega
                have e61 := up_I U53
                refine lv_aload_n hx hb dX12_yard_98 rfl (lv_at hl 1 rfl) ?_
                refine q_getI E hC53 g0 fa_RX12_218 dX12_yard_99 (fun v62 ev62 lv62 uv62 => ?_)
                have m63 : (sI H53 h0 (X.1.2 11 12)).toInt = v62.toInt := (congrArg Int32.toInt ev62).trans rfl
                refine q_if_ne hx hb (a := v62.toInt) rfl (tgt := 125) dX12_yard_102 rfl (fun c64 => ?_) (fun c64 => ?_)
                · have n09 := n0; unfold EQ at n09
                  have hpar : PARN vl (sI H53 h0 (X.1.2 11 12)).toInt := by by_cases hz9 : (sI H53 h0 (X.1.2 11 12)).toInt = 0; exact Or.inl (by have q2 := hxv (by omega); omega); exact Or.inr hz9
                  refine lv_aload_n hx hb dX12_yard_125 rfl (lv_at hl 1 rfl) ?_
                  refine lv_aload_n hx hb dX12_yard_126 rfl (lv_at hl 1 rfl) ?_
                  refine q_goIp (q_runV (As := []) (rest := [.ref h0]) E hC53 hS53 (m_X12_isHigh l X Γ H53 hC53 h0 g0 ca gca uc) cw_X12_isHigh cl_RX12_169 g0 ⟨rfl, rfl⟩ rfl hl.1 rfl (show _ ≤ _ from by simp [Value.category]) (by decide) dX12_yard_127) hS53 (fun v65 locs65 hr65 hS65 => ?_)
                  have hbz : (v65.toInt = 1 ∧ _) ∨ (v65.toInt = 0 ∧ _) := hr65.imp (fun h => ⟨by rw [h.1]; decide, h.2⟩) (fun h => ⟨by rw [h.1]; decide, h.2⟩)
                  have b65 : 0 ≤ v65.toInt ∧ v65.toInt ≤ 1 := by rcases hbz with q | q <;> (have q1 := q.1; omega)
                  clear hr65
                  refine q_goV (q_runV (As := [.int v65]) (rest := []) E hC53 hS65 (m_X12_must l X Γ H53 hC53 h0 g0 v65 (a1 := v65.toInt) rfl ca gca uc tq ((kp_R hKp53 g0 (ci := 11) (k := 7) rfl (by decide) rfl).trans htq) gtq (by omega) (by omega)) cw_X12_must cl_RX12_244 g0 ⟨rfl, rfl⟩ rfl hl.1 rfl (Nat.zero_le _) (by decide) dX12_yard_130) hS65 (fun H66 locs66 hr66 hC66 hS66 => ?_)
                  obtain ⟨hp66, hr66⟩ := hr66
                  have hKp66 := hKp53.tr (hp66.mono rfl)
                  have kdd : KD H0 H66 ca 0 0 := KD.kp kdd hp66 gca rfl rfl
                  have kd2 : KD H0 H66 ca 0 520 := KD.kp kd2 hp66 gca rfl rfl
                  have tqt : ∀ j, sI H66 tq j = sI H0 tq j := fun j => (kp_aI hp66 j gtq rfl rfl).trans (tqt j)
                  have n0 : EQ H66 ca 2080 xx := EQ.kn n0 hp66 gca rfl (by unfold dpn; omega)
                  have m67 : (sI H66 h0 (X.1.2 11 8)).toInt = (sI H53 h0 (X.1.2 11 8)).toInt := congrArg Int32.toInt (kp_I hp66 g0 (k := 8) rfl (by decide) rfl)
                  obtain ⟨f66_0, f66_1, f66_2, f66_3, f66_4, f66_5⟩ := hr66
                  have hd := HD.must hd hp66 g0 gca (by first | exact hbz | exact Or.inl ⟨rfl, hw⟩ | exact Or.inr ⟨rfl, hw⟩) f66_5 f66_2 (by omega) rfl rfl (by decide)
                  try clear hbz
                  refine lv_aload_n hx hb dX12_yard_133 rfl (lv_at hl 1 rfl) ?_
                  refine q_getC E hC66 g0 fa_RX12_35 uc dX12_yard_134 ?_
                  refine lv_sipush (v := 2081) hx hb dX12_yard_137 rfl ?_
                  refine lv_aload_n hx hb dX12_yard_140 rfl (lv_at hl 1 rfl) ?_
                  refine lv_iconst (v := 1) hx hb dX12_yard_141 rfl ?_
                  refine lv_bipush (v := 6) hx hb dX12_yard_142 rfl ?_
                  refine q_goI (q_runV (As := [.int 1, .int 6]) (rest := [.int 2081, .ref ca]) E hC66 hS66 (m_X12_count l X Γ H66 hC66 h0 g0 1 (a1 := 1) (by decide) 6 (a2 := 6) (by decide) ca gca uc tq ((kp_R hKp66 g0 (ci := 11) (k := 7) rfl (by decide) rfl).trans htq) gtq (by omega) (by omega) (by omega) (by omega)) cw_X12_count cl_RX12_248 g0 ⟨rfl, rfl⟩ rfl hl.1 rfl (show _ ≤ _ from by simp [Value.category]) (by decide) dX12_yard_144) hS66 (fun v68 H68 locs68 hr68 hC68 hS68 => ?_)
                  obtain ⟨hp68, hr68⟩ := hr68
                  have hKp68 := hKp66.tr (hp68.mono rfl)
                  have kdd : KD H0 H68 ca 0 0 := KD.kp kdd hp68 gca rfl rfl
                  have kd2 : KD H0 H68 ca 0 520 := KD.kp kd2 hp68 gca rfl rfl
                  have tqt : ∀ j, sI H68 tq j = sI H0 tq j := fun j => (kp_aI hp68 j gtq rfl rfl).trans (tqt j)
                  have n0 : EQ H68 ca 2080 xx := EQ.kn n0 hp68 gca rfl (by unfold dpn; omega)
                  have m69 : (sI H68 h0 (X.1.2 11 8)).toInt = (sI H66 h0 (X.1.2 11 8)).toInt := congrArg Int32.toInt (kp_I hp68 g0 (k := 8) rfl (by decide) rfl)
                  obtain ⟨f68_0, f68_1, f68_2, f68_3, f68_4, f68_5, f68_6, f68_7, f68_8⟩ := hr68
                  have hdc := HD.count hd hp68 g0 gca f68_8 f68_2 (by omega) rfl rfl
                  have hd := hdc.1
                  have hv2 : IFZ (sI H68 h0 (X.1.2 11 12)).toInt (v68.toInt = vl 3) := by first | exact hdc.2 | exact fun q => absurd q (by omega)
                  clear hdc
                  refine q_cast E hC68 hS68 gca (a := 2081) (show (2081 : Int32).toInt = 2081 from by decide) (by omega) (by omega) (cs_n0 (a := 2081) (b := v68.toInt) (by omega) (by omega) rfl (by omega) (by omega)) dX12_yard_147 (fun H70 locs70 hC70 hS70 U70 => ?_)
                  have hKp70 := Kp.upD gca rfl rfl (fun _ => ⟨fun h => absurd h (by decide), fun h => absurd h (by decide), fun h => absurd h (by decide)⟩) U70 hKp68
                  have kdd : KD H0 H70 ca 0 0 := KD.up kdd U70 (by omega) (by omega)
                  have kd2 : KD H0 H70 ca 0 520 := KD.up kd2 U70 (by omega) (by omega)
                  have tqt : ∀ j, sI H70 tq j = sI H0 tq j := fun j => (up_nI U70 (ne_k gtq gca (by decide))).trans (tqt j)
                  have n0 : EQ H70 ca 2080 xx := EQ.up n0 U70 ⟨by omega, by omega⟩ (by omega)
                  have m71 : (sI H70 h0 (X.1.2 11 12)).toInt = (sI H68 h0 (X.1.2 11 12)).toInt := congrArg Int32.toInt (up_nI U70 (ne_k g0 gca (by decide)))
                  have m72 : (sI H70 h0 (X.1.2 11 14)).toInt = (sI H68 h0 (X.1.2 11 14)).toInt := congrArg Int32.toInt (up_nI U70 (ne_k g0 gca (by decide)))
                  have m73 := congrArg tk m72
                  have m74 : (sI H70 h0 (X.1.2 11 16)).toInt = (sI H68 h0 (X.1.2 11 16)).toInt := congrArg Int32.toInt (up_nI U70 (ne_k g0 gca (by decide)))
                  have m75 : (sI H70 h0 (X.1.2 11 8)).toInt = (sI H68 h0 (X.1.2 11 8)).toInt := congrArg Int32.toInt (up_nI U70 (ne_k g0 gca (by decide)))
                  have m76 : (sI H70 h0 (X.1.2 11 9)).toInt = (sI H68 h0 (X.1.2 11 9)).toInt := congrArg Int32.toInt (up_nI U70 (ne_k g0 gca (by decide)))
                  have m77 : (sI H70 h0 (X.1.2 11 17)).toInt = (sI H68 h0 (X.1.2 11 17)).toInt := congrArg Int32.toInt (up_nI U70 (ne_k g0 gca (by decide)))
                  have hd := HD.map hd (congrArg Int32.toInt (up_nI U70 (ne_k g0 gca (by decide)))) (fun hb0 mc ym => ⟨mc.ne U70 g0 gtq gca (by decide), ym.high U70 g0 gca rfl (z := vl 3) (rfl.trans (hv2 hb0))⟩)
                  obtain ⟨yy, hyy⟩ : ∃ z, v68.toInt = z := ⟨_, rfl⟩
                  have n1 : EQ H70 ca 2081 yy := (congrArg Int32.toInt (up_I U70)).trans (rfl.trans hyy)
                  have hyv : IFZ (sI H70 h0 (X.1.2 11 12)).toInt (yy = vl 3) := fun q => by have := hv2 (by omega); omega
                  have e78 := up_I U70
                  refine lv_aload_n hx hb dX12_yard_148 rfl (lv_at hl 1 rfl) ?_
                  refine lv_aload_n hx hb dX12_yard_149 rfl (lv_at hl 1 rfl) ?_
                  refine lv_bipush (v := 59) hx hb dX12_yard_150 rfl ?_
                  refine q_goIp (q_runV (As := [.int 59]) (rest := [.ref h0]) E hC70 hS70 (m_X12_isSign l X Γ H70 hC70 h0 g0 59 (a1 := 59) (by decide) ca gca uc) cw_X12_isSign cl_RX12_255 g0 ⟨rfl, rfl⟩ rfl hl.1 rfl (show _ ≤ _ from by simp [Value.category]) (by decide) dX12_yard_152) hS70 (fun v79 locs79 hr79 hS79 => ?_)
                  have hbz : (v79.toInt = 1 ∧ _) ∨ (v79.toInt = 0 ∧ _) := hr79.imp (fun h => ⟨by rw [h.1]; decide, h.2⟩) (fun h => ⟨by rw [h.1]; decide, h.2⟩)
                  have b79 : 0 ≤ v79.toInt ∧ v79.toInt ≤ 1 := by rcases hbz with q | q <;> (have q1 := q.1; omega)
                  clear hr79
                  have hb0 := f_bd hC70 g0 (ci := 11) (k := 16) rfl rfl
                  refine q_goV (q_runV (As := [.int v79]) (rest := []) E hC70 hS79 (m_X12_must l X Γ H70 hC70 h0 g0 v79 (a1 := v79.toInt) rfl ca gca uc tq ((kp_R hKp70 g0 (ci := 11) (k := 7) rfl (by decide) rfl).trans htq) gtq (by omega) (by omega)) cw_X12_must cl_RX12_244 g0 ⟨rfl, rfl⟩ rfl hl.1 rfl (Nat.zero_le _) (by decide) dX12_yard_155) hS79 (fun H80 locs80 hr80 hC80 hS80 => ?_)
                  obtain ⟨hp80, hr80⟩ := hr80
                  have hKp80 := hKp70.tr (hp80.mono rfl)
                  have kdd : KD H0 H80 ca 0 0 := KD.kp kdd hp80 gca rfl rfl
                  have kd2 : KD H0 H80 ca 0 520 := KD.kp kd2 hp80 gca rfl rfl
                  have tqt : ∀ j, sI H80 tq j = sI H0 tq j := fun j => (kp_aI hp80 j gtq rfl rfl).trans (tqt j)
                  have n0 : EQ H80 ca 2080 xx := EQ.kn n0 hp80 gca rfl (by unfold dpn; omega)
                  have n1 : EQ H80 ca 2081 yy := EQ.kn n1 hp80 gca rfl (by unfold dpn; omega)
                  have m81 : (sI H80 h0 (X.1.2 11 8)).toInt = (sI H70 h0 (X.1.2 11 8)).toInt := congrArg Int32.toInt (kp_I hp80 g0 (k := 8) rfl (by decide) rfl)
                  obtain ⟨f80_0, f80_1, f80_2, f80_3, f80_4, f80_5⟩ := hr80
                  have hd := HD.sign hd hp80 g0 gca hbz f80_5 f80_2 (by omega) rfl rfl
                  try clear hbz
                  have hpar2 : PARN vl (sI H80 h0 (X.1.2 11 12)).toInt := by rcases hpar with q | q; exact Or.inl q; exact Or.inr (by omega)
                  have L158 : ∀ (n82 : Nat) (H82 : Heap) (locs82 : List Loc) (ls : Array Slot), 0 < n82 ∧ ((sI H82 h0 (X.1.2 11 12)).toInt ≠ 0 ∨ 902 - (sI H82 h0 (X.1.2 11 16)).toInt < n82) → ((sI H82 h0 (X.1.2 11 12)).toInt = 0 → 2 ≤ xx ∧ 1 ≤ yy) → (sI H82 h0 (X.1.2 11 8)).toInt = 0 → XYV (sI H82 h0 (X.1.2 11 12)).toInt xx yy vl → YIV X Γ H82 h0 tq ca kd vl w3 pos N → Conf X Γ H82 → va_S (AΓ Γ) H0 H82 locs82 → Kp X Γ [1, 6, 8, 9, 11, 12, 14, 19, 22, 24, 26, 28, 30, 38] H0 H82 → (KD H0 H82 ca 0 0) → (KD H0 H82 ca 0 520) → (∀ j, sI H82 tq j = sI H0 tq j) → (EQ H82 ca 2080 xx) → (EQ H82 ca 2081 yy) → lv_has ls 4 [(2, .int v50), (0, .ref h0), (1, .int p1)] → W p l e (rmL 5) s m args below meth c H82 locs82 0 0 Qz (F0 m 158 ls []) := by
                    intro n82
                    induction n82 with
                    | zero => intro H82 locs82 ls hm82 iv82_0 iv82_1 iv82_2 iv82_3 hC82 hS82 hKp82 kdd kd2 tqt n0 n1 hl; exact absurd hm82 (by omega)
                    | succ n82 ih82 =>
                      intro H82 locs82 ls hm82 iv82_0 iv82_1 iv82_2 iv82_3 hC82 hS82 hKp82 kdd kd2 tqt n0 n1 hl
                      have hb1 := f_bd hC82 g0 (ci := 11) (k := 16) rfl rfl
                      have hb2 := f_bd hC82 g0 (ci := 11) (k := 12) rfl rfl
                      have yiv := iv82_3
                      have hxy9 := iv82_2
                      refine lv_aload_n hx hb dX12_yard_158 rfl (lv_at hl 1 rfl) ?_
                      refine q_getI E hC82 g0 fa_RX12_218 dX12_yard_159 (fun v83 ev83 lv83 uv83 => ?_)
                      have m84 : (sI H82 h0 (X.1.2 11 12)).toInt = v83.toInt := (congrArg Int32.toInt ev83).trans rfl
                      refine q_if_ne hx hb (a := v83.toInt) rfl (tgt := 262) dX12_yard_162 rfl (fun c85 => ?_) (fun c85 => ?_)
                      · have hres : RESY kd vl (sI H82 h0 (X.1.2 11 12)).toInt := by by_cases hz9 : (sI H82 h0 (X.1.2 11 12)).toInt = 0 <;> first | exact Or.inr ⟨hz9, yiv.2 hz9⟩ | exact Or.inl ⟨hz9, YIV.fin hgh mc (mc.tok.1.mp (by omega)) hga hgf⟩ | (exfalso; omega)
                        obtain ⟨b9, hb9⟩ : ∃ z, (sI H82 h0 (X.1.2 11 12)).toInt = z := ⟨_, rfl⟩
                        have an : ANC H82 ca b9 kd vl := by first | (have hgt9 := hgt; exact fun _ => YIV.fin2 mc ym (mc.tok.1.mp (by omega)) hgf hgt9) | exact fun q => absurd q (by omega)
                        refine lv_aload_n hx hb dX12_yard_262 rfl (lv_at hl 1 rfl) ?_
                        refine q_goI (q_runV (As := []) (rest := []) E hC82 hS82 (m_X12_isWell l X Γ H82 hC82 h0 g0 ca gca uc) cw_X12_isWell cl_RX12_267 g0 ⟨rfl, rfl⟩ rfl hl.1 rfl (Nat.zero_le _) (by decide) dX12_yard_263) hS82 (fun v86 H86 locs86 hr86 hC86 hS86 => ?_)
                        obtain ⟨hp86, hr86⟩ := hr86
                        have hKp86 := hKp82.tr (hp86.mono rfl)
                        have kdd : KD H0 H86 ca 0 0 := KD.kp kdd hp86 gca rfl rfl
                        have kd2 : KD H0 H86 ca 0 520 := KD.kp kd2 hp86 gca rfl rfl
                        have tqt : ∀ j, sI H86 tq j = sI H0 tq j := fun j => (kp_aI hp86 j gtq rfl rfl).trans (tqt j)
                        have n0 : EQ H86 ca 2080 xx := EQ.kn n0 hp86 gca rfl (by unfold dpn; omega)
                        have n1 : EQ H86 ca 2081 yy := EQ.kn n1 hp86 gca rfl (by unfold dpn; omega)
                        have an : ANC H86 ca b9 kd vl := an.kp hp86 gca rfl
                        have m87 : (sI H86 h0 (X.1.2 11 12)).toInt = (sI H82 h0 (X.1.2 11 12)).toInt := congrArg Int32.toInt (kp_I hp86 g0 (k := 12) rfl (by decide) rfl)
                        have m88 : (sI H86 h0 (X.1.2 11 14)).toInt = (sI H82 h0 (X.1.2 11 14)).toInt := congrArg Int32.toInt (kp_I hp86 g0 (k := 14) rfl (by decide) rfl)
                        have m89 : (sI H86 h0 (X.1.2 11 16)).toInt = (sI H82 h0 (X.1.2 11 16)).toInt := congrArg Int32.toInt (kp_I hp86 g0 (k := 16) rfl (by decide) rfl)
                        have m90 : (sI H86 h0 (X.1.2 11 8)).toInt = (sI H82 h0 (X.1.2 11 8)).toInt := congrArg Int32.toInt (kp_I hp86 g0 (k := 8) rfl (by decide) rfl)
                        have m91 : (sI H86 h0 (X.1.2 11 9)).toInt = (sI H82 h0 (X.1.2 11 9)).toInt := congrArg Int32.toInt (kp_I hp86 g0 (k := 9) rfl (by decide) rfl)
                        have m92 : (sI H86 h0 (X.1.2 11 17)).toInt = (sI H82 h0 (X.1.2 11 17)).toInt := congrArg Int32.toInt (kp_I hp86 g0 (k := 17) rfl (by decide) rfl)
                        rcases hr86 with ⟨rfl, hiw⟩ | ⟨rfl, hiw⟩
                        · have hgy := (Or.resolve_right hres (fun q => absurd q.1 (by omega))).2
                          clear hres
                          have hxx9 := hxy9 (by omega)
                          have hb90 : b9 = 0 := by omega
                          refine q_if_ne hx hb (a := 1) (by decide) (tgt := 271) dX12_yard_266 rfl (fun c93 => ?_) (fun c93 => absurd c93 (by omega))
                          have hxy : 2 ≤ xx ∧ 1 ≤ yy := by omega
                          refine lv_iconst (v := 0) hx hb dX12_yard_271 rfl ?_
                          refine lv_istore_n hx hb dX12_yard_272 rfl hl (by decide) rfl (fun ls hl => ?_)
                          have hl : lv_has ls 4 [(3, .int 0), (2, .int v50), (0, .ref h0), (1, .int p1)] := hl
                          have L273 : ∀ (n95 : Nat) (H95 : Heap) (locs95 : List Loc) (v94 : Int32) (z94 : Int) (ls : Array Slot), (36 - z94).toNat < n95 → v94.toInt = z94 → z94 ≤ 36 → 0 ≤ z94 → (sI H95 h0 (X.1.2 11 8)).toInt = 0 → Conf X Γ H95 → va_S (AΓ Γ) H0 H95 locs95 → Kp X Γ [1, 6, 8, 9, 11, 12, 14, 19, 22, 24, 26, 28, 30, 38] H0 H95 → (KD H0 H95 ca 0 0) → (KD H0 H95 ca 0 520) → (∀ j, sI H95 tq j = sI H0 tq j) → (EQ H95 ca 2080 xx) → (EQ H95 ca 2081 yy) → (ANC H95 ca b9 kd vl) → lv_has ls 4 [(3, .int v94), (2, .int v50), (0, .ref h0), (1, .int p1)] → W p l e (rmL 5) s m args below meth c H95 locs95 0 0 Qz (F0 m 273 ls []) := by
                            intro n95
                            induction n95 with
                            | zero => intro H95 locs95 v94 z94 ls hm95 ev94 iv95_0 iv95_1 iv95_2 hC95 hS95 hKp95 kdd kd2 tqt n0 n1 an hl; exact absurd hm95 (Nat.not_lt_zero _)
                            | succ n95 ih95 =>
                              intro H95 locs95 v94 z94 ls hm95 ev94 iv95_0 iv95_1 iv95_2 hC95 hS95 hKp95 kdd kd2 tqt n0 n1 an hl
                              refine lv_iload_n hx hb dX12_yard_273 rfl (lv_at hl 0 rfl) ?_
                              refine lv_bipush (v := 36) hx hb dX12_yard_274 rfl ?_
                              refine q_icmp_ge hx hb (a := z94) (b := 36) ev94 (by decide) (tgt := 305) dX12_yard_276 rfl (fun c96 => ?_) (fun c96 => ?_)
                              · refine lv_iconst (v := 0) hx hb dX12_yard_305 rfl ?_
                                refine lv_istore_n hx hb dX12_yard_306 rfl hl (by decide) rfl (fun ls hl => ?_)
                                have hl : lv_has ls 4 [(3, .int 0), (2, .int v50), (0, .ref h0), (1, .int p1)] := hl
                                have L307 : ∀ (n98 : Nat) (H98 : Heap) (locs98 : List Loc) (v97 : Int32) (z97 : Int) (ls : Array Slot), (520 - z97).toNat < n98 → v97.toInt = z97 → z97 ≤ 520 → 0 ≤ z97 → CPd H98 ca 2080 0 z97 → (sI H98 h0 (X.1.2 11 8)).toInt = 0 → Conf X Γ H98 → va_S (AΓ Γ) H0 H98 locs98 → Kp X Γ [1, 6, 8, 9, 11, 12, 14, 19, 22, 24, 26, 28, 30, 38] H0 H98 → (KD H0 H98 ca 0 520) → (∀ j, sI H98 tq j = sI H0 tq j) → (EQ H98 ca 2080 xx) → (EQ H98 ca 2081 yy) → (ANC H98 ca b9 kd vl) → lv_has ls 4 [(3, .int v97), (2, .int v50), (0, .ref h0), (1, .int p1)] → W p l e (rmL 5) s m args below meth c H98 locs98 0 0 Qz (F0 m 307 ls []) := by
                                  intro n98
                                  induction n98 with
                                  | zero => intro H98 locs98 v97 z97 ls hm98 ev97 iv98_0 iv98_1 iv98_2 iv98_3 hC98 hS98 hKp98 kd2 tqt n0 n1 an hl; exact absurd hm98 (Nat.not_lt_zero _)
                                  | succ n98 ih98 =>
                                    intro H98 locs98 v97 z97 ls hm98 ev97 iv98_0 iv98_1 iv98_2 iv98_3 hC98 hS98 hKp98 kd2 tqt n0 n1 an hl
                                    have cpd := iv98_2
                                    refine lv_iload_n hx hb dX12_yard_307 rfl (lv_at hl 0 rfl) ?_
                                    refine lv_sipush (v := 520) hx hb dX12_yard_308 rfl ?_
                                    refine q_icmp_ge hx hb (a := z97) (b := 520) ev97 (by decide) (tgt := 336) dX12_yard_311 rfl (fun c99 => ?_) (fun c99 => ?_)
                                    · refine lv_aload_n hx hb dX12_yard_336 rfl (lv_at hl 2 rfl) ?_
                                      refine q_getC E hC98 g0 fa_RX12_35 uc dX12_yard_337 ?_
                                      refine lv_iconst (v := 0) hx hb dX12_yard_340 rfl ?_
                                      refine q_cald E hC98 (lo := 0) (hi := 6) gca (a := 0) (show (0 : Int32).toInt = 0 from by decide) (by omega) (by omega) (cr_c0 (by omega) (by omega)) dX12_yard_341 (fun v100 ev100 lv100 uv100 => ?_)
                                      have m101 : (sI H98 ca (0 : Int).toNat).toInt = v100.toInt := congrArg Int32.toInt ev100
                                      refine lv_aload_n hx hb dX12_yard_342 rfl (lv_at hl 2 rfl) ?_
                                      refine q_getC E hC98 g0 fa_RX12_35 uc dX12_yard_343 ?_
                                      refine lv_iconst (v := 1) hx hb dX12_yard_346 rfl ?_
                                      refine q_cald E hC98 (lo := 0) (hi := 6) gca (a := 1) (show (1 : Int32).toInt = 1 from by decide) (by omega) (by omega) (cr_c0 (by omega) (by omega)) dX12_yard_347 (fun v102 ev102 lv102 uv102 => ?_)
                                      have m103 : (sI H98 ca (1 : Int).toNat).toInt = v102.toInt := congrArg Int32.toInt ev102
                                      refine lv_imul hx hb dX12_yard_348 (lv_topi (fun v104 ev104 => ?_))
                                      have h90 : sI H98 ca (0 : Int).toNat = sI H98 ca (2080 : Int).toNat := cpd 0 (by decide) (by omega); have h91 : sI H98 ca (1 : Int).toNat = sI H98 ca (2081 : Int).toNat := cpd 1 (by decide) (by omega); have n09 := n0; unfold EQ at n09; have n19 := n1; unfold EQ at n19; rw [← h90] at n09; rw [← h91] at n19; have hmul := mul_small ev104 (a := vl 1) (b := vl 3) (by omega) (by omega) (gYard_bd hgy)
                                      have hpost : KD H0 H98 ca 0 0 ∨ (KD H0 H98 ca 0 520 ∧ YI H98 ca) := Or.inr ⟨kd2, YI.mk hC98 gca cpd (by omega) n0 n1 hxy⟩
                                      obtain ⟨T9, hfT9, an9⟩ := an hb90
                                      have hym : YMR (sI H0 h0 (X.1.2 11 8)).toInt a1 kd vl (v104 : Int32).toInt (KD H0 H98 ca 0 0) (QYA H98 ca kd vl) := Or.inr ⟨by omega, by omega, Or.inl ⟨vl 1, vl 3, hgy, rfl.trans hmul, T9, hfT9, an9.fin cpd (by omega)⟩⟩
                                      have c105 : v104.toInt = v104.toInt := rfl
                                      exact ret v104 H98 locs98 _ _ dX12_yard_349 ⟨hKp98, ⟨hpost, by omega, hym⟩⟩ hC98 hS98
                                    · refine lv_aload_n hx hb dX12_yard_314 rfl (lv_at hl 2 rfl) ?_
                                      refine q_getC E hC98 g0 fa_RX12_35 uc dX12_yard_315 ?_
                                      refine lv_iload_n hx hb dX12_yard_318 rfl (lv_at hl 0 rfl) ?_
                                      refine lv_aload_n hx hb dX12_yard_319 rfl (lv_at hl 2 rfl) ?_
                                      refine q_getC E hC98 g0 fa_RX12_35 uc dX12_yard_320 ?_
                                      refine lv_sipush (v := 2080) hx hb dX12_yard_323 rfl ?_
                                      refine lv_iload_n hx hb dX12_yard_326 rfl (lv_at hl 0 rfl) ?_
                                      refine lv_iadd hx hb dX12_yard_327 (lv_topi (fun v106 ev106 => ?_))
                                      have ev106i : v106.toInt = (2080 + z97) := i_add ev106 (by decide) ev97 (by omega) (by omega)
                                      refine q_craw E hC98 gca (a := (2080 + z97)) ev106i (by omega) (by omega) dX12_yard_328 (fun v107 ev107 tv107 => ?_)
                                      refine q_cast E hC98 hS98 gca (a := z97) ev97 (by omega) (by omega) (cT_nb (k := z97) rfl rfl (by omega) (by omega) tv107) dX12_yard_329 (fun H108 locs108 hC108 hS108 U108 => ?_)
                                      have hKp108 := Kp.upD gca rfl rfl (fun _ => ⟨fun h => absurd h (by decide), fun h => absurd h (by decide), fun h => absurd h (by decide)⟩) U108 hKp98
                                      have kd2 : KD H0 H108 ca 0 520 := KD.up kd2 U108 (by omega) (by omega)
                                      have tqt : ∀ j, sI H108 tq j = sI H0 tq j := fun j => (up_nI U108 (ne_k gtq gca (by decide))).trans (tqt j)
                                      have n0 : EQ H108 ca 2080 xx := EQ.up n0 U108 ⟨by omega, by omega⟩ (by omega)
                                      have n1 : EQ H108 ca 2081 yy := EQ.up n1 U108 ⟨by omega, by omega⟩ (by omega)
                                      have an : ANC H108 ca b9 kd vl := an.up U108 (by omega)
                                      have m109 : (sI H108 h0 (X.1.2 11 12)).toInt = (sI H98 h0 (X.1.2 11 12)).toInt := congrArg Int32.toInt (up_nI U108 (ne_k g0 gca (by decide)))
                                      have m110 : (sI H108 h0 (X.1.2 11 14)).toInt = (sI H98 h0 (X.1.2 11 14)).toInt := congrArg Int32.toInt (up_nI U108 (ne_k g0 gca (by decide)))
                                      have m111 := congrArg tk m110
                                      have m112 : (sI H108 h0 (X.1.2 11 16)).toInt = (sI H98 h0 (X.1.2 11 16)).toInt := congrArg Int32.toInt (up_nI U108 (ne_k g0 gca (by decide)))
                                      have m113 : (sI H108 h0 (X.1.2 11 8)).toInt = (sI H98 h0 (X.1.2 11 8)).toInt := congrArg Int32.toInt (up_nI U108 (ne_k g0 gca (by decide)))
                                      have m114 : (sI H108 h0 (X.1.2 11 9)).toInt = (sI H98 h0 (X.1.2 11 9)).toInt := congrArg Int32.toInt (up_nI U108 (ne_k g0 gca (by decide)))
                                      have m115 : (sI H108 h0 (X.1.2 11 17)).toInt = (sI H98 h0 (X.1.2 11 17)).toInt := congrArg Int32.toInt (up_nI U108 (ne_k g0 gca (by decide)))
                                      have cpd : CPd H108 ca 2080 0 (z97 + 1) := CPd.step cpd (a := z97) (by omega) U108 ev107 (by omega) (by omega) (by omega)
                                      have e116 := up_I U108
                                      obtain ⟨v117, ev117⟩ : ∃ z, z = v97 + Int32.ofInt 1 := ⟨_, rfl⟩
                                      have ev117i : v117.toInt = (z97 + 1) := i_add ev117 ev97 (by decide) (by omega) (by omega)
                                      refine lv_iinc hx hb dX12_yard_330 hl (k := 0) rfl ev117.symm (by decide) rfl (fun ls hl => ?_)
                                      have hl : lv_has ls 4 [(3, .int v117), (2, .int v50), (0, .ref h0), (1, .int p1)] := hl
                                      refine lv_goto (tgt := 307) hx hb dX12_yard_333 rfl ?_
                                      exact ih98 H108 locs108 v117 ((z97 + 1)) ls (by omega) ev117i (by omega) (by omega) (cpd) (by omega) hC108 hS108 hKp108 kd2 tqt n0 n1 an hl
                                exact L307 _ H95 locs95 0 0 ls (Nat.lt_succ_self _) (by decide) (by omega) (by omega) (CPd.nil (by omega)) (by omega) hC95 hS95 hKp95 kd2 tqt n0 n1 an hl
                              · refine lv_aload_n hx hb dX12_yard_279 rfl (lv_at hl 2 rfl) ?_
                                refine q_getC E hC95 g0 fa_RX12_35 uc dX12_yard_280 ?_
                                refine lv_sipush (v := 2214) hx hb dX12_yard_283 rfl ?_
                                refine lv_iload_n hx hb dX12_yard_286 rfl (lv_at hl 0 rfl) ?_
                                refine lv_iadd hx hb dX12_yard_287 (lv_topi (fun v118 ev118 => ?_))
                                have ev118i : v118.toInt = (2214 + z94) := i_add ev118 (by decide) ev94 (by omega) (by omega)
                                refine lv_aload_n hx hb dX12_yard_288 rfl (lv_at hl 2 rfl) ?_
                                refine q_getC E hC95 g0 fa_RX12_35 uc dX12_yard_289 ?_
                                refine lv_sipush (v := 2142) hx hb dX12_yard_292 rfl ?_
                                refine lv_iload_n hx hb dX12_yard_295 rfl (lv_at hl 0 rfl) ?_
                                refine lv_iadd hx hb dX12_yard_296 (lv_topi (fun v119 ev119 => ?_))
                                have ev119i : v119.toInt = (2142 + z94) := i_add ev119 (by decide) ev94 (by omega) (by omega)
                                refine q_cald E hC95 (lo := 0) (hi := 99) gca (a := (2142 + z94)) ev119i (by omega) (by omega) (cr_n26 (by omega) (by omega)) dX12_yard_297 (fun v120 ev120 lv120 uv120 => ?_)
                                have m121 : (sI H95 ca ((2142 + z94) : Int).toNat).toInt = v120.toInt := congrArg Int32.toInt ev120
                                refine q_cast E hC95 hS95 gca (a := (2214 + z94)) ev118i (by omega) (by omega) (cs_n134 (a := (2214 + z94)) (by omega) (by omega)) dX12_yard_298 (fun H122 locs122 hC122 hS122 U122 => ?_)
                                have hKp122 := Kp.upD gca rfl rfl (fun _ => ⟨fun h => absurd h (by decide), fun h => absurd h (by decide), fun h => absurd h (by decide)⟩) U122 hKp95
                                have kdd : KD H0 H122 ca 0 0 := KD.up kdd U122 (by omega) (by omega)
                                have kd2 : KD H0 H122 ca 0 520 := KD.up kd2 U122 (by omega) (by omega)
                                have tqt : ∀ j, sI H122 tq j = sI H0 tq j := fun j => (up_nI U122 (ne_k gtq gca (by decide))).trans (tqt j)
                                have n0 : EQ H122 ca 2080 xx := EQ.up n0 U122 ⟨by omega, by omega⟩ (by omega)
                                have n1 : EQ H122 ca 2081 yy := EQ.up n1 U122 ⟨by omega, by omega⟩ (by omega)
                                have an : ANC H122 ca b9 kd vl := an.up U122 (by omega)
                                have m123 : (sI H122 h0 (X.1.2 11 12)).toInt = (sI H95 h0 (X.1.2 11 12)).toInt := congrArg Int32.toInt (up_nI U122 (ne_k g0 gca (by decide)))
                                have m124 : (sI H122 h0 (X.1.2 11 14)).toInt = (sI H95 h0 (X.1.2 11 14)).toInt := congrArg Int32.toInt (up_nI U122 (ne_k g0 gca (by decide)))
                                have m125 := congrArg tk m124
                                have m126 : (sI H122 h0 (X.1.2 11 16)).toInt = (sI H95 h0 (X.1.2 11 16)).toInt := congrArg Int32.toInt (up_nI U122 (ne_k g0 gca (by decide)))
                                have m127 : (sI H122 h0 (X.1.2 11 8)).toInt = (sI H95 h0 (X.1.2 11 8)).toInt := congrArg Int32.toInt (up_nI U122 (ne_k g0 gca (by decide)))
                                have m128 : (sI H122 h0 (X.1.2 11 9)).toInt = (sI H95 h0 (X.1.2 11 9)).toInt := congrArg Int32.toInt (up_nI U122 (ne_k g0 gca (by decide)))
                                have m129 : (sI H122 h0 (X.1.2 11 17)).toInt = (sI H95 h0 (X.1.2 11 17)).toInt := congrArg Int32.toInt (up_nI U122 (ne_k g0 gca (by decide)))
                                have e130 := up_I U122
                                obtain ⟨v131, ev131⟩ : ∃ z, z = v94 + Int32.ofInt 1 := ⟨_, rfl⟩
                                have ev131i : v131.toInt = (z94 + 1) := i_add ev131 ev94 (by decide) (by omega) (by omega)
                                refine lv_iinc hx hb dX12_yard_299 hl (k := 0) rfl ev131.symm (by decide) rfl (fun ls hl => ?_)
                                have hl : lv_has ls 4 [(3, .int v131), (2, .int v50), (0, .ref h0), (1, .int p1)] := hl
                                refine lv_goto (tgt := 273) hx hb dX12_yard_302 rfl ?_
                                exact ih95 H122 locs122 v131 ((z94 + 1)) ls (by omega) ev131i (by omega) (by omega) (by omega) hC122 hS122 hKp122 kdd kd2 tqt n0 n1 an hl
                          exact L273 _ H86 locs86 0 0 ls (Nat.lt_succ_self _) (by decide) (by omega) (by omega) (by omega) hC86 hS86 hKp86 kdd kd2 tqt n0 n1 an hl
                        · have hno : ∀ w h, ¬ gYard kd vl w h := (Or.resolve_left hres (fun q => absurd q.1 (by omega))).2
                          clear hres
                          refine q_if_ne hx hb (a := 0) (by decide) (tgt := 271) dX12_yard_266 rfl (fun c132 => absurd c132 (by omega)) (fun c132 => ?_)
                          refine lv_iconst (v := (-1)) hx hb dX12_yard_269 rfl ?_
                          have e133 := (kp_I hp86 g0 (k := 12) rfl (by decide) rfl).trans ev83
                          have m134 : (sI H86 h0 (X.1.2 11 12)).toInt = v83.toInt := (congrArg Int32.toInt e133).trans rfl
                          have hpost : KD H0 H86 ca 0 0 ∨ (KD H0 H86 ca 0 520 ∧ YI H86 ca) := Or.inl kdd
                          have hym : YMR (sI H0 h0 (X.1.2 11 8)).toInt a1 kd vl ((-1) : Int32).toInt (KD H0 H86 ca 0 0) (QYA H86 ca kd vl) := Or.inr ⟨by omega, by omega, Or.inr ⟨hno, by decide, kdd⟩⟩
                          have c135 : ((-1) : Int32).toInt = (-1) := (by decide)
                          exact ret (-1) H86 locs86 _ _ dX12_yard_270 ⟨hKp86, ⟨hpost, by omega, hym⟩⟩ hC86 hS86
                      · obtain ⟨hgh, S, i, f, mc, ym, e91, e92, hga0, hgf, hgt⟩ := yiv.1 (by omega)
                        have hga : IFFP (gAcc kd vl f S i) (gAcc kd vl 1000 (Si0 vl) 5) := hga0
                        clear hga0
                        have mc := mc
                        have ym := ym
                        refine lv_aload_n hx hb dX12_yard_165 rfl (lv_at hl 1 rfl) ?_
                        refine q_getI E hC82 g0 fa_RX12_120 dX12_yard_166 (fun v136 ev136 _ _ => ?_)
                        have m137 : (sI H82 h0 (X.1.2 11 14)).toInt = v136.toInt := (congrArg Int32.toInt ev136).trans rfl
                        refine q_if_eq hx hb (a := v136.toInt) rfl (tgt := 262) dX12_yard_169 rfl (fun c138 => ?_) (fun c138 => ?_)
                        · have hres : RESY kd vl (sI H82 h0 (X.1.2 11 12)).toInt := by by_cases hz9 : (sI H82 h0 (X.1.2 11 12)).toInt = 0 <;> first | exact Or.inr ⟨hz9, yiv.2 hz9⟩ | exact Or.inl ⟨hz9, YIV.fin hgh mc (mc.tok.1.mp (by omega)) hga hgf⟩ | (exfalso; omega)
                          obtain ⟨b9, hb9⟩ : ∃ z, (sI H82 h0 (X.1.2 11 12)).toInt = z := ⟨_, rfl⟩
                          have an : ANC H82 ca b9 kd vl := by first | (have hgt9 := hgt; exact fun _ => YIV.fin2 mc ym (mc.tok.1.mp (by omega)) hgf hgt9) | exact fun q => absurd q (by omega)
                          refine lv_aload_n hx hb dX12_yard_262 rfl (lv_at hl 1 rfl) ?_
                          refine q_goI (q_runV (As := []) (rest := []) E hC82 hS82 (m_X12_isWell l X Γ H82 hC82 h0 g0 ca gca uc) cw_X12_isWell cl_RX12_267 g0 ⟨rfl, rfl⟩ rfl hl.1 rfl (Nat.zero_le _) (by decide) dX12_yard_263) hS82 (fun v139 H139 locs139 hr139 hC139 hS139 => ?_)
                          obtain ⟨hp139, hr139⟩ := hr139
                          have hKp139 := hKp82.tr (hp139.mono rfl)
                          have kdd : KD H0 H139 ca 0 0 := KD.kp kdd hp139 gca rfl rfl
                          have kd2 : KD H0 H139 ca 0 520 := KD.kp kd2 hp139 gca rfl rfl
                          have tqt : ∀ j, sI H139 tq j = sI H0 tq j := fun j => (kp_aI hp139 j gtq rfl rfl).trans (tqt j)
                          have n0 : EQ H139 ca 2080 xx := EQ.kn n0 hp139 gca rfl (by unfold dpn; omega)
                          have n1 : EQ H139 ca 2081 yy := EQ.kn n1 hp139 gca rfl (by unfold dpn; omega)
                          have an : ANC H139 ca b9 kd vl := an.kp hp139 gca rfl
                          have m140 : (sI H139 h0 (X.1.2 11 12)).toInt = (sI H82 h0 (X.1.2 11 12)).toInt := congrArg Int32.toInt (kp_I hp139 g0 (k := 12) rfl (by decide) rfl)
                          have m141 : (sI H139 h0 (X.1.2 11 14)).toInt = (sI H82 h0 (X.1.2 11 14)).toInt := congrArg Int32.toInt (kp_I hp139 g0 (k := 14) rfl (by decide) rfl)
                          have m142 : (sI H139 h0 (X.1.2 11 16)).toInt = (sI H82 h0 (X.1.2 11 16)).toInt := congrArg Int32.toInt (kp_I hp139 g0 (k := 16) rfl (by decide) rfl)
                          have m143 : (sI H139 h0 (X.1.2 11 8)).toInt = (sI H82 h0 (X.1.2 11 8)).toInt := congrArg Int32.toInt (kp_I hp139 g0 (k := 8) rfl (by decide) rfl)
                          have m144 : (sI H139 h0 (X.1.2 11 9)).toInt = (sI H82 h0 (X.1.2 11 9)).toInt := congrArg Int32.toInt (kp_I hp139 g0 (k := 9) rfl (by decide) rfl)
                          have m145 : (sI H139 h0 (X.1.2 11 17)).toInt = (sI H82 h0 (X.1.2 11 17)).toInt := congrArg Int32.toInt (kp_I hp139 g0 (k := 17) rfl (by decide) rfl)
                          rcases hr139 with ⟨rfl, hiw⟩ | ⟨rfl, hiw⟩
                          · have hgy := (Or.resolve_right hres (fun q => absurd q.1 (by omega))).2
                            clear hres
                            have hxx9 := hxy9 (by omega)
                            have hb90 : b9 = 0 := by omega
                            refine q_if_ne hx hb (a := 1) (by decide) (tgt := 271) dX12_yard_266 rfl (fun c146 => ?_) (fun c146 => absurd c146 (by omega))
                            have hxy : 2 ≤ xx ∧ 1 ≤ yy := by omega
                            refine lv_iconst (v := 0) hx hb dX12_yard_271 rfl ?_
                            refine lv_istore_n hx hb dX12_yard_272 rfl hl (by decide) rfl (fun ls hl => ?_)
                            have hl : lv_has ls 4 [(3, .int 0), (2, .int v50), (0, .ref h0), (1, .int p1)] := hl
                            have L273 : ∀ (n148 : Nat) (H148 : Heap) (locs148 : List Loc) (v147 : Int32) (z147 : Int) (ls : Array Slot), (36 - z147).toNat < n148 → v147.toInt = z147 → z147 ≤ 36 → 0 ≤ z147 → (sI H148 h0 (X.1.2 11 8)).toInt = 0 → Conf X Γ H148 → va_S (AΓ Γ) H0 H148 locs148 → Kp X Γ [1, 6, 8, 9, 11, 12, 14, 19, 22, 24, 26, 28, 30, 38] H0 H148 → (KD H0 H148 ca 0 0) → (KD H0 H148 ca 0 520) → (∀ j, sI H148 tq j = sI H0 tq j) → (EQ H148 ca 2080 xx) → (EQ H148 ca 2081 yy) → (ANC H148 ca b9 kd vl) → lv_has ls 4 [(3, .int v147), (2, .int v50), (0, .ref h0), (1, .int p1)] → W p l e (rmL 5) s m args below meth c H148 locs148 0 0 Qz (F0 m 273 ls []) := by
                              intro n148
                              induction n148 with
                              | zero => intro H148 locs148 v147 z147 ls hm148 ev147 iv148_0 iv148_1 iv148_2 hC148 hS148 hKp148 kdd kd2 tqt n0 n1 an hl; exact absurd hm148 (Nat.not_lt_zero _)
                              | succ n148 ih148 =>
                                intro H148 locs148 v147 z147 ls hm148 ev147 iv148_0 iv148_1 iv148_2 hC148 hS148 hKp148 kdd kd2 tqt n0 n1 an hl
                                refine lv_iload_n hx hb dX12_yard_273 rfl (lv_at hl 0 rfl) ?_
                                refine lv_bipush (v := 36) hx hb dX12_yard_274 rfl ?_
                                refine q_icmp_ge hx hb (a := z147) (b := 36) ev147 (by decide) (tgt := 305) dX12_yard_276 rfl (fun c149 => ?_) (fun c149 => ?_)
                                · refine lv_iconst (v := 0) hx hb dX12_yard_305 rfl ?_
                                  refine lv_istore_n hx hb dX12_yard_306 rfl hl (by decide) rfl (fun ls hl => ?_)
                                  have hl : lv_has ls 4 [(3, .int 0), (2, .int v50), (0, .ref h0), (1, .int p1)] := hl
                                  have L307 : ∀ (n151 : Nat) (H151 : Heap) (locs151 : List Loc) (v150 : Int32) (z150 : Int) (ls : Array Slot), (520 - z150).toNat < n151 → v150.toInt = z150 → z150 ≤ 520 → 0 ≤ z150 → CPd H151 ca 2080 0 z150 → (sI H151 h0 (X.1.2 11 8)).toInt = 0 → Conf X Γ H151 → va_S (AΓ Γ) H0 H151 locs151 → Kp X Γ [1, 6, 8, 9, 11, 12, 14, 19, 22, 24, 26, 28, 30, 38] H0 H151 → (KD H0 H151 ca 0 520) → (∀ j, sI H151 tq j = sI H0 tq j) → (EQ H151 ca 2080 xx) → (EQ H151 ca 2081 yy) → (ANC H151 ca b9 kd vl) → lv_has ls 4 [(3, .int v150), (2, .int v50), (0, .ref h0), (1, .int p1)] → W p l e (rmL 5) s m args below meth c H151 locs151 0 0 Qz (F0 m 307 ls []) := by
                                    intro n151
                                    induction n151 with
                                    | zero => intro H151 locs151 v150 z150 ls hm151 ev150 iv151_0 iv151_1 iv151_2 iv151_3 hC151 hS151 hKp151 kd2 tqt n0 n1 an hl; exact absurd hm151 (Nat.not_lt_zero _)
                                    | succ n151 ih151 =>
                                      intro H151 locs151 v150 z150 ls hm151 ev150 iv151_0 iv151_1 iv151_2 iv151_3 hC151 hS151 hKp151 kd2 tqt n0 n1 an hl
                                      have cpd := iv151_2
                                      refine lv_iload_n hx hb dX12_yard_307 rfl (lv_at hl 0 rfl) ?_
                                      refine lv_sipush (v := 520) hx hb dX12_yard_308 rfl ?_
                                      refine q_icmp_ge hx hb (a := z150) (b := 520) ev150 (by decide) (tgt := 336) dX12_yard_311 rfl (fun c152 => ?_) (fun c152 => ?_)
                                      · refine lv_aload_n hx hb dX12_yard_336 rfl (lv_at hl 2 rfl) ?_
                                        refine q_getC E hC151 g0 fa_RX12_35 uc dX12_yard_337 ?_
                                        refine lv_iconst (v := 0) hx hb dX12_yard_340 rfl ?_
                                        refine q_cald E hC151 (lo := 0) (hi := 6) gca (a := 0) (show (0 : Int32).toInt = 0 from by decide) (by omega) (by omega) (cr_c0 (by omega) (by omega)) dX12_yard_341 (fun v153 ev153 lv153 uv153 => ?_)
                                        have m154 : (sI H151 ca (0 : Int).toNat).toInt = v153.toInt := congrArg Int32.toInt ev153
                                        refine lv_aload_n hx hb dX12_yard_342 rfl (lv_at hl 2 rfl) ?_
                                        refine q_getC E hC151 g0 fa_RX12_35 uc dX12_yard_343 ?_
                                        refine lv_iconst (v := 1) hx hb dX12_yard_346 rfl ?_
                                        refine q_cald E hC151 (lo := 0) (hi := 6) gca (a := 1) (show (1 : Int32).toInt = 1 from by decide) (by omega) (by omega) (cr_c0 (by omega) (by omega)) dX12_yard_347 (fun v155 ev155 lv155 uv155 => ?_)
                                        have m156 : (sI H151 ca (1 : Int).toNat).toInt = v155.toInt := congrArg Int32.toInt ev155
                                        refine lv_imul hx hb dX12_yard_348 (lv_topi (fun v157 ev157 => ?_))
                                        have h90 : sI H151 ca (0 : Int).toNat = sI H151 ca (2080 : Int).toNat := cpd 0 (by decide) (by omega); have h91 : sI H151 ca (1 : Int).toNat = sI H151 ca (2081 : Int).toNat := cpd 1 (by decide) (by omega); have n09 := n0; unfold EQ at n09; have n19 := n1; unfold EQ at n19; rw [← h90] at n09; rw [← h91] at n19; have hmul := mul_small ev157 (a := vl 1) (b := vl 3) (by omega) (by omega) (gYard_bd hgy)
                                        have hpost : KD H0 H151 ca 0 0 ∨ (KD H0 H151 ca 0 520 ∧ YI H151 ca) := Or.inr ⟨kd2, YI.mk hC151 gca cpd (by omega) n0 n1 hxy⟩
                                        obtain ⟨T9, hfT9, an9⟩ := an hb90
                                        have hym : YMR (sI H0 h0 (X.1.2 11 8)).toInt a1 kd vl (v157 : Int32).toInt (KD H0 H151 ca 0 0) (QYA H151 ca kd vl) := Or.inr ⟨by omega, by omega, Or.inl ⟨vl 1, vl 3, hgy, rfl.trans hmul, T9, hfT9, an9.fin cpd (by omega)⟩⟩
                                        have c158 : v157.toInt = v157.toInt := rfl
                                        exact ret v157 H151 locs151 _ _ dX12_yard_349 ⟨hKp151, ⟨hpost, by omega, hym⟩⟩ hC151 hS151
                                      · refine lv_aload_n hx hb dX12_yard_314 rfl (lv_at hl 2 rfl) ?_
                                        refine q_getC E hC151 g0 fa_RX12_35 uc dX12_yard_315 ?_
                                        refine lv_iload_n hx hb dX12_yard_318 rfl (lv_at hl 0 rfl) ?_
                                        refine lv_aload_n hx hb dX12_yard_319 rfl (lv_at hl 2 rfl) ?_
                                        refine q_getC E hC151 g0 fa_RX12_35 uc dX12_yard_320 ?_
                                        refine lv_sipush (v := 2080) hx hb dX12_yard_323 rfl ?_
                                        refine lv_iload_n hx hb dX12_yard_326 rfl (lv_at hl 0 rfl) ?_
                                        refine lv_iadd hx hb dX12_yard_327 (lv_topi (fun v159 ev159 => ?_))
                                        have ev159i : v159.toInt = (2080 + z150) := i_add ev159 (by decide) ev150 (by omega) (by omega)
                                        refine q_craw E hC151 gca (a := (2080 + z150)) ev159i (by omega) (by omega) dX12_yard_328 (fun v160 ev160 tv160 => ?_)
                                        refine q_cast E hC151 hS151 gca (a := z150) ev150 (by omega) (by omega) (cT_nb (k := z150) rfl rfl (by omega) (by omega) tv160) dX12_yard_329 (fun H161 locs161 hC161 hS161 U161 => ?_)
                                        have hKp161 := Kp.upD gca rfl rfl (fun _ => ⟨fun h => absurd h (by decide), fun h => absurd h (by decide), fun h => absurd h (by decide)⟩) U161 hKp151
                                        have kd2 : KD H0 H161 ca 0 520 := KD.up kd2 U161 (by omega) (by omega)
                                        have tqt : ∀ j, sI H161 tq j = sI H0 tq j := fun j => (up_nI U161 (ne_k gtq gca (by decide))).trans (tqt j)
                                        have n0 : EQ H161 ca 2080 xx := EQ.up n0 U161 ⟨by omega, by omega⟩ (by omega)
                                        have n1 : EQ H161 ca 2081 yy := EQ.up n1 U161 ⟨by omega, by omega⟩ (by omega)
                                        have an : ANC H161 ca b9 kd vl := an.up U161 (by omega)
                                        have m162 : (sI H161 h0 (X.1.2 11 12)).toInt = (sI H151 h0 (X.1.2 11 12)).toInt := congrArg Int32.toInt (up_nI U161 (ne_k g0 gca (by decide)))
                                        have m163 : (sI H161 h0 (X.1.2 11 14)).toInt = (sI H151 h0 (X.1.2 11 14)).toInt := congrArg Int32.toInt (up_nI U161 (ne_k g0 gca (by decide)))
                                        have m164 := congrArg tk m163
                                        have m165 : (sI H161 h0 (X.1.2 11 16)).toInt = (sI H151 h0 (X.1.2 11 16)).toInt := congrArg Int32.toInt (up_nI U161 (ne_k g0 gca (by decide)))
                                        have m166 : (sI H161 h0 (X.1.2 11 8)).toInt = (sI H151 h0 (X.1.2 11 8)).toInt := congrArg Int32.toInt (up_nI U161 (ne_k g0 gca (by decide)))
                                        have m167 : (sI H161 h0 (X.1.2 11 9)).toInt = (sI H151 h0 (X.1.2 11 9)).toInt := congrArg Int32.toInt (up_nI U161 (ne_k g0 gca (by decide)))
                                        have m168 : (sI H161 h0 (X.1.2 11 17)).toInt = (sI H151 h0 (X.1.2 11 17)).toInt := congrArg Int32.toInt (up_nI U161 (ne_k g0 gca (by decide)))
                                        have cpd : CPd H161 ca 2080 0 (z150 + 1) := CPd.step cpd (a := z150) (by omega) U161 ev160 (by omega) (by omega) (by omega)
                                        have e169 := up_I U161
                                        obtain ⟨v170, ev170⟩ : ∃ z, z = v150 + Int32.ofInt 1 := ⟨_, rfl⟩
                                        have ev170i : v170.toInt = (z150 + 1) := i_add ev170 ev150 (by decide) (by omega) (by omega)
                                        refine lv_iinc hx hb dX12_yard_330 hl (k := 0) rfl ev170.symm (by decide) rfl (fun ls hl => ?_)
                                        have hl : lv_has ls 4 [(3, .int v170), (2, .int v50), (0, .ref h0), (1, .int p1)] := hl
                                        refine lv_goto (tgt := 307) hx hb dX12_yard_333 rfl ?_
                                        exact ih151 H161 locs161 v170 ((z150 + 1)) ls (by omega) ev170i (by omega) (by omega) (cpd) (by omega) hC161 hS161 hKp161 kd2 tqt n0 n1 an hl
                                  exact L307 _ H148 locs148 0 0 ls (Nat.lt_succ_self _) (by decide) (by omega) (by omega) (CPd.nil (by omega)) (by omega) hC148 hS148 hKp148 kd2 tqt n0 n1 an hl
                                · refine lv_aload_n hx hb dX12_yard_279 rfl (lv_at hl 2 rfl) ?_
                                  refine q_getC E hC148 g0 fa_RX12_35 uc dX12_yard_280 ?_
                                  refine lv_sipush (v := 2214) hx hb dX12_yard_283 rfl ?_
                                  refine lv_iload_n hx hb dX12_yard_286 rfl (lv_at hl 0 rfl) ?_
                                  refine lv_iadd hx hb dX12_yard_287 (lv_topi (fun v171 ev171 => ?_))
                                  have ev171i : v171.toInt = (2214 + z147) := i_add ev171 (by decide) ev147 (by omega) (by omega)
                                  refine lv_aload_n hx hb dX12_yard_288 rfl (lv_at hl 2 rfl) ?_
                                  refine q_getC E hC148 g0 fa_RX12_35 uc dX12_yard_289 ?_
                                  refine lv_sipush (v := 2142) hx hb dX12_yard_292 rfl ?_
                                  refine lv_iload_n hx hb dX12_yard_295 rfl (lv_at hl 0 rfl) ?_
                                  refine lv_iadd hx hb dX12_yard_296 (lv_topi (fun v172 ev172 => ?_))
                                  have ev172i : v172.toInt = (2142 + z147) := i_add ev172 (by decide) ev147 (by omega) (by omega)
                                  refine q_cald E hC148 (lo := 0) (hi := 99) gca (a := (2142 + z147)) ev172i (by omega) (by omega) (cr_n26 (by omega) (by omega)) dX12_yard_297 (fun v173 ev173 lv173 uv173 => ?_)
                                  have m174 : (sI H148 ca ((2142 + z147) : Int).toNat).toInt = v173.toInt := congrArg Int32.toInt ev173
                                  refine q_cast E hC148 hS148 gca (a := (2214 + z147)) ev171i (by omega) (by omega) (cs_n134 (a := (2214 + z147)) (by omega) (by omega)) dX12_yard_298 (fun H175 locs175 hC175 hS175 U175 => ?_)
                                  have hKp175 := Kp.upD gca rfl rfl (fun _ => ⟨fun h => absurd h (by decide), fun h => absurd h (by decide), fun h => absurd h (by decide)⟩) U175 hKp148
                                  have kdd : KD H0 H175 ca 0 0 := KD.up kdd U175 (by omega) (by omega)
                                  have kd2 : KD H0 H175 ca 0 520 := KD.up kd2 U175 (by omega) (by omega)
                                  have tqt : ∀ j, sI H175 tq j = sI H0 tq j := fun j => (up_nI U175 (ne_k gtq gca (by decide))).trans (tqt j)
                                  have n0 : EQ H175 ca 2080 xx := EQ.up n0 U175 ⟨by omega, by omega⟩ (by omega)
                                  have n1 : EQ H175 ca 2081 yy := EQ.up n1 U175 ⟨by omega, by omega⟩ (by omega)
                                  have an : ANC H175 ca b9 kd vl := an.up U175 (by omega)
                                  have m176 : (sI H175 h0 (X.1.2 11 12)).toInt = (sI H148 h0 (X.1.2 11 12)).toInt := congrArg Int32.toInt (up_nI U175 (ne_k g0 gca (by decide)))
                                  have m177 : (sI H175 h0 (X.1.2 11 14)).toInt = (sI H148 h0 (X.1.2 11 14)).toInt := congrArg Int32.toInt (up_nI U175 (ne_k g0 gca (by decide)))
                                  have m178 := congrArg tk m177
                                  have m179 : (sI H175 h0 (X.1.2 11 16)).toInt = (sI H148 h0 (X.1.2 11 16)).toInt := congrArg Int32.toInt (up_nI U175 (ne_k g0 gca (by decide)))
                                  have m180 : (sI H175 h0 (X.1.2 11 8)).toInt = (sI H148 h0 (X.1.2 11 8)).toInt := congrArg Int32.toInt (up_nI U175 (ne_k g0 gca (by decide)))
                                  have m181 : (sI H175 h0 (X.1.2 11 9)).toInt = (sI H148 h0 (X.1.2 11 9)).toInt := congrArg Int32.toInt (up_nI U175 (ne_k g0 gca (by decide)))
                                  have m182 : (sI H175 h0 (X.1.2 11 17)).toInt = (sI H148 h0 (X.1.2 11 17)).toInt := congrArg Int32.toInt (up_nI U175 (ne_k g0 gca (by decide)))
                                  have e183 := up_I U175
                                  obtain ⟨v184, ev184⟩ : ∃ z, z = v147 + Int32.ofInt 1 := ⟨_, rfl⟩
                                  have ev184i : v184.toInt = (z147 + 1) := i_add ev184 ev147 (by decide) (by omega) (by omega)
                                  refine lv_iinc hx hb dX12_yard_299 hl (k := 0) rfl ev184.symm (by decide) rfl (fun ls hl => ?_)
                                  have hl : lv_has ls 4 [(3, .int v184), (2, .int v50), (0, .ref h0), (1, .int p1)] := hl
                                  refine lv_goto (tgt := 273) hx hb dX12_yard_302 rfl ?_
                                  exact ih148 H175 locs175 v184 ((z147 + 1)) ls (by omega) ev184i (by omega) (by omega) (by omega) hC175 hS175 hKp175 kdd kd2 tqt n0 n1 an hl
                            exact L273 _ H139 locs139 0 0 ls (Nat.lt_succ_self _) (by decide) (by omega) (by omega) (by omega) hC139 hS139 hKp139 kdd kd2 tqt n0 n1 an hl
                          · have hno : ∀ w h, ¬ gYard kd vl w h := (Or.resolve_left hres (fun q => absurd q.1 (by omega))).2
                            clear hres
                            refine q_if_ne hx hb (a := 0) (by decide) (tgt := 271) dX12_yard_266 rfl (fun c185 => absurd c185 (by omega)) (fun c185 => ?_)
                            refine lv_iconst (v := (-1)) hx hb dX12_yard_269 rfl ?_
                            have e186 := (kp_I hp139 g0 (k := 12) rfl (by decide) rfl).trans ev83
                            have m187 : (sI H139 h0 (X.1.2 11 12)).toInt = v83.toInt := (congrArg Int32.toInt e186).trans rfl
                            have e188 := (kp_I hp139 g0 (k := 14) rfl (by decide) rfl).trans ev136
                            have m189 : (sI H139 h0 (X.1.2 11 14)).toInt = v136.toInt := (congrArg Int32.toInt e188).trans rfl
                            have hpost : KD H0 H139 ca 0 0 ∨ (KD H0 H139 ca 0 520 ∧ YI H139 ca) := Or.inl kdd
                            have hym : YMR (sI H0 h0 (X.1.2 11 8)).toInt a1 kd vl ((-1) : Int32).toInt (KD H0 H139 ca 0 0) (QYA H139 ca kd vl) := Or.inr ⟨by omega, by omega, Or.inr ⟨hno, by decide, kdd⟩⟩
                            have c190 : ((-1) : Int32).toInt = (-1) := (by decide)
                            exact ret (-1) H139 locs139 _ _ dX12_yard_270 ⟨hKp139, ⟨hpost, by omega, hym⟩⟩ hC139 hS139
                        · have hk0 : kd i ≠ 0 := fun q => absurd (mc.tok.1.mpr q) (by omega)
                          have mc9 := mc
                          refine lv_aload_n hx hb dX12_yard_172 rfl (lv_at hl 1 rfl) ?_
                          refine q_goIp (q_runV (As := []) (rest := []) E hC82 hS82 (m_X12_isSchool l X Γ H82 hC82 h0 g0 ca gca uc) cw_X12_isSchool cl_RX12_172 g0 ⟨rfl, rfl⟩ rfl hl.1 rfl (Nat.zero_le _) (by decide) dX12_yard_173) hS82 (fun v191 locs191 hr191 hS191 => ?_)
                          rcases hr191 with ⟨rfl, hw⟩ | ⟨rfl, hw⟩
                          · have hw2 := hw
                            refine q_if_eq hx hb (a := 1) (by decide) (tgt := 186) dX12_yard_176 rfl (fun c192 => absurd c192 (by omega)) (fun c192 => ?_)
                            refine lv_aload_n hx hb dX12_yard_179 rfl (lv_at hl 1 rfl) ?_
                            refine q_goV (q_runV (As := []) (rest := []) E hC82 hS191 (m_X12_readSchool l X Γ H82 hC82 h0 g0 ca gca uc tq ((kp_R hKp82 g0 (ci := 11) (k := 7) rfl (by decide) rfl).trans htq) gtq kd vl w3 pos N _ S mc ym (by omega) ((mc.word (by decide)).mp hw2)) cw_X12_readSchool cl_RX12_258 g0 ⟨rfl, rfl⟩ rfl hl.1 rfl (Nat.zero_le _) (by decide) dX12_yard_180) hS191 (fun H193 locs193 hr193 hC193 hS193 => ?_)
                            obtain ⟨hp193, hr193⟩ := hr193
                            have hKp193 := hKp82.tr (hp193.mono rfl)
                            have kdd : KD H0 H193 ca 0 0 := KD.kp kdd hp193 gca rfl rfl
                            have kd2 : KD H0 H193 ca 0 520 := KD.kp kd2 hp193 gca rfl rfl
                            have tqt : ∀ j, sI H193 tq j = sI H0 tq j := fun j => (kp_aI hp193 j gtq rfl rfl).trans (tqt j)
                            have n0 : EQ H193 ca 2080 xx := EQ.kn n0 hp193 gca rfl (by unfold dpn; omega)
                            have n1 : EQ H193 ca 2081 yy := EQ.kn n1 hp193 gca rfl (by unfold dpn; omega)
                            have m194 : (sI H193 h0 (X.1.2 11 8)).toInt = (sI H82 h0 (X.1.2 11 8)).toInt := congrArg Int32.toInt (kp_I hp193 g0 (k := 8) rfl (by decide) rfl)
                            obtain ⟨f193_0, f193_1, f193_2, f193_3, f193_4⟩ := hr193
                            have hpt := PTR.school f193_4 ((mc9.word (by decide)).mp hw2)
                            refine lv_goto (tgt := 249) hx hb dX12_yard_183 rfl ?_
                            refine lv_aload_n hx hb dX12_yard_249 rfl (lv_at hl 1 rfl) ?_
                            refine lv_aload_n hx hb dX12_yard_250 rfl (lv_at hl 1 rfl) ?_
                            refine lv_bipush (v := 59) hx hb dX12_yard_251 rfl ?_
                            have hz9 := tk_or (sI H193 h0 (X.1.2 11 14)).toInt
                            refine q_goIp (q_runV (As := [.int 59]) (rest := [.ref h0]) E hC193 hS193 (m_X12_isSign l X Γ H193 hC193 h0 g0 59 (a1 := 59) (by decide) ca gca uc) cw_X12_isSign cl_RX12_255 g0 ⟨rfl, rfl⟩ rfl hl.1 rfl (show _ ≤ _ from by simp [Value.category]) (by decide) dX12_yard_253) hS193 (fun v195 locs195 hr195 hS195 => ?_)
                            have hbz : (v195.toInt = 1 ∧ _) ∨ (v195.toInt = 0 ∧ _) := hr195.imp (fun h => ⟨by rw [h.1]; decide, h.2⟩) (fun h => ⟨by rw [h.1]; decide, h.2⟩)
                            have b195 : 0 ≤ v195.toInt ∧ v195.toInt ≤ 1 := by rcases hbz with q | q <;> (have q1 := q.1; omega)
                            clear hr195
                            refine q_goV (q_runV (As := [.int v195]) (rest := []) E hC193 hS195 (m_X12_must l X Γ H193 hC193 h0 g0 v195 (a1 := v195.toInt) rfl ca gca uc tq ((kp_R hKp193 g0 (ci := 11) (k := 7) rfl (by decide) rfl).trans htq) gtq (by omega) (by omega)) cw_X12_must cl_RX12_244 g0 ⟨rfl, rfl⟩ rfl hl.1 rfl (Nat.zero_le _) (by decide) dX12_yard_256) hS195 (fun H196 locs196 hr196 hC196 hS196 => ?_)
                            obtain ⟨hp196, hr196⟩ := hr196
                            have hKp196 := hKp193.tr (hp196.mono rfl)
                            have kdd : KD H0 H196 ca 0 0 := KD.kp kdd hp196 gca rfl rfl
                            have kd2 : KD H0 H196 ca 0 520 := KD.kp kd2 hp196 gca rfl rfl
                            have tqt : ∀ j, sI H196 tq j = sI H0 tq j := fun j => (kp_aI hp196 j gtq rfl rfl).trans (tqt j)
                            have n0 : EQ H196 ca 2080 xx := EQ.kn n0 hp196 gca rfl (by unfold dpn; omega)
                            have n1 : EQ H196 ca 2081 yy := EQ.kn n1 hp196 gca rfl (by unfold dpn; omega)
                            have m197 : (sI H196 h0 (X.1.2 11 8)).toInt = (sI H193 h0 (X.1.2 11 8)).toInt := congrArg Int32.toInt (kp_I hp196 g0 (k := 8) rfl (by decide) rfl)
                            obtain ⟨f196_0, f196_1, f196_2, f196_3, f196_4, f196_5⟩ := hr196
                            have hnx9 := YIV.step hpt hp196 g0 gca hbz f196_5 f196_2 (by omega) rfl rfl hgh hk0 e91 e92 hga hgf hgt mc9.2.1
                            have hl9 : v195.toInt + tk (sI H193 h0 (X.1.2 11 14)).toInt ≤ 1 := by rcases hbz with q | q <;> omega
                            clear hbz
                            clear hz9
                            refine lv_goto (tgt := 158) hx hb dX12_yard_259 rfl ?_
                            exact ih82 H196 locs196 ls (by omega) (by omega) (by omega) (fun q => hxy9 (by omega)) (hnx9) hC196 hS196 hKp196 kdd kd2 tqt n0 n1 hl
                          · have hw2 := hw
                            refine q_if_eq hx hb (a := 0) (by decide) (tgt := 186) dX12_yard_176 rfl (fun c198 => ?_) (fun c198 => absurd c198 (by omega))
                            refine lv_aload_n hx hb dX12_yard_186 rfl (lv_at hl 1 rfl) ?_
                            refine q_goIp (q_runV (As := []) (rest := []) E hC82 hS191 (m_X12_isSnow l X Γ H82 hC82 h0 g0 ca gca uc) cw_X12_isSnow cl_RX12_178 g0 ⟨rfl, rfl⟩ rfl hl.1 rfl (Nat.zero_le _) (by decide) dX12_yard_187) hS191 (fun v199 locs199 hr199 hS199 => ?_)
                            rcases hr199 with ⟨rfl, hw⟩ | ⟨rfl, hw⟩
                            · have hw4 := hw
                              refine q_if_eq hx hb (a := 1) (by decide) (tgt := 201) dX12_yard_190 rfl (fun c200 => absurd c200 (by omega)) (fun c200 => ?_)
                              refine lv_aload_n hx hb dX12_yard_193 rfl (lv_at hl 1 rfl) ?_
                              refine lv_iconst (v := 0) hx hb dX12_yard_194 rfl ?_
                              refine q_goV (q_runV (As := [.int 0]) (rest := []) E hC82 hS199 (m_X12_readCell l X Γ H82 hC82 h0 g0 0 (a1 := 0) (by decide) ca gca uc tq ((kp_R hKp82 g0 (ci := 11) (k := 7) rfl (by decide) rfl).trans htq) gtq kd vl w3 pos N _ S mc ym (by omega) (by first | exact ((mc.word (by decide)).mp hw4).1 | exact ((mc.word (by decide)).mp hw6).1 | exact ((mc.word (by decide)).mp hw8).1) (by omega) (by omega)) cw_X12_readCell cl_RX12_261 g0 ⟨rfl, rfl⟩ rfl hl.1 rfl (Nat.zero_le _) (by decide) dX12_yard_195) hS199 (fun H201 locs201 hr201 hC201 hS201 => ?_)
                              obtain ⟨hp201, hr201⟩ := hr201
                              have hKp201 := hKp82.tr (hp201.mono rfl)
                              have kdd : KD H0 H201 ca 0 0 := KD.kp kdd hp201 gca rfl rfl
                              have kd2 : KD H0 H201 ca 0 520 := KD.kp kd2 hp201 gca rfl rfl
                              have tqt : ∀ j, sI H201 tq j = sI H0 tq j := fun j => (kp_aI hp201 j gtq rfl rfl).trans (tqt j)
                              have n0 : EQ H201 ca 2080 xx := EQ.kn n0 hp201 gca rfl (by unfold dpn; omega)
                              have n1 : EQ H201 ca 2081 yy := EQ.kn n1 hp201 gca rfl (by unfold dpn; omega)
                              have m202 : (sI H201 h0 (X.1.2 11 8)).toInt = (sI H82 h0 (X.1.2 11 8)).toInt := congrArg Int32.toInt (kp_I hp201 g0 (k := 8) rfl (by decide) rfl)
                              obtain ⟨f201_0, f201_1, f201_2, f201_3, f201_4⟩ := hr201
                              have hpt := PTR.cell f201_4 ((mc9.word (by decide)).mp hw4) (Or.inl ⟨rfl, rfl⟩)
                              refine lv_goto (tgt := 249) hx hb dX12_yard_198 rfl ?_
                              refine lv_aload_n hx hb dX12_yard_249 rfl (lv_at hl 1 rfl) ?_
                              refine lv_aload_n hx hb dX12_yard_250 rfl (lv_at hl 1 rfl) ?_
                              refine lv_bipush (v := 59) hx hb dX12_yard_251 rfl ?_
                              have hz9 := tk_or (sI H201 h0 (X.1.2 11 14)).toInt
                              refine q_goIp (q_runV (As := [.int 59]) (rest := [.ref h0]) E hC201 hS201 (m_X12_isSign l X Γ H201 hC201 h0 g0 59 (a1 := 59) (by decide) ca gca uc) cw_X12_isSign cl_RX12_255 g0 ⟨rfl, rfl⟩ rfl hl.1 rfl (show _ ≤ _ from by simp [Value.category]) (by decide) dX12_yard_253) hS201 (fun v203 locs203 hr203 hS203 => ?_)
                              have hbz : (v203.toInt = 1 ∧ _) ∨ (v203.toInt = 0 ∧ _) := hr203.imp (fun h => ⟨by rw [h.1]; decide, h.2⟩) (fun h => ⟨by rw [h.1]; decide, h.2⟩)
                              have b203 : 0 ≤ v203.toInt ∧ v203.toInt ≤ 1 := by rcases hbz with q | q <;> (have q1 := q.1; omega)
                              clear hr203
                              refine q_goV (q_runV (As := [.int v203]) (rest := []) E hC201 hS203 (m_X12_must l X Γ H201 hC201 h0 g0 v203 (a1 := v203.toInt) rfl ca gca uc tq ((kp_R hKp201 g0 (ci := 11) (k := 7) rfl (by decide) rfl).trans htq) gtq (by omega) (by omega)) cw_X12_must cl_RX12_244 g0 ⟨rfl, rfl⟩ rfl hl.1 rfl (Nat.zero_le _) (by decide) dX12_yard_256) hS203 (fun H204 locs204 hr204 hC204 hS204 => ?_)
                              obtain ⟨hp204, hr204⟩ := hr204
                              have hKp204 := hKp201.tr (hp204.mono rfl)
                              have kdd : KD H0 H204 ca 0 0 := KD.kp kdd hp204 gca rfl rfl
                              have kd2 : KD H0 H204 ca 0 520 := KD.kp kd2 hp204 gca rfl rfl
                              have tqt : ∀ j, sI H204 tq j = sI H0 tq j := fun j => (kp_aI hp204 j gtq rfl rfl).trans (tqt j)
                              have n0 : EQ H204 ca 2080 xx := EQ.kn n0 hp204 gca rfl (by unfold dpn; omega)
                              have n1 : EQ H204 ca 2081 yy := EQ.kn n1 hp204 gca rfl (by unfold dpn; omega)
                              have m205 : (sI H204 h0 (X.1.2 11 8)).toInt = (sI H201 h0 (X.1.2 11 8)).toInt := congrArg Int32.toInt (kp_I hp204 g0 (k := 8) rfl (by decide) rfl)
                              obtain ⟨f204_0, f204_1, f204_2, f204_3, f204_4, f204_5⟩ := hr204
                              have hnx9 := YIV.step hpt hp204 g0 gca hbz f204_5 f204_2 (by omega) rfl rfl hgh hk0 e91 e92 hga hgf hgt mc9.2.1
                              have hl9 : v203.toInt + tk (sI H201 h0 (X.1.2 11 14)).toInt ≤ 1 := by rcases hbz with q | q <;> omega
                              clear hbz
                              clear hz9
                              refine lv_goto (tgt := 158) hx hb dX12_yard_259 rfl ?_
                              exact ih82 H204 locs204 ls (by omega) (by omega) (by omega) (fun q => hxy9 (by omega)) (hnx9) hC204 hS204 hKp204 kdd kd2 tqt n0 n1 hl
                            · have hw4 := hw
                              refine q_if_eq hx hb (a := 0) (by decide) (tgt := 201) dX12_yard_190 rfl (fun c206 => ?_) (fun c206 => absurd c206 (by omega))
                              refine lv_aload_n hx hb dX12_yard_201 rfl (lv_at hl 1 rfl) ?_
                              refine q_goIp (q_runV (As := []) (rest := []) E hC82 hS199 (m_X12_isWall l X Γ H82 hC82 h0 g0 ca gca uc) cw_X12_isWall cl_RX12_163 g0 ⟨rfl, rfl⟩ rfl hl.1 rfl (Nat.zero_le _) (by decide) dX12_yard_202) hS199 (fun v207 locs207 hr207 hS207 => ?_)
                              rcases hr207 with ⟨rfl, hw⟩ | ⟨rfl, hw⟩
                              · have hw6 := hw
                                refine q_if_eq hx hb (a := 1) (by decide) (tgt := 216) dX12_yard_205 rfl (fun c208 => absurd c208 (by omega)) (fun c208 => ?_)
                                refine lv_aload_n hx hb dX12_yard_208 rfl (lv_at hl 1 rfl) ?_
                                refine lv_iconst (v := 1) hx hb dX12_yard_209 rfl ?_
                                refine q_goV (q_runV (As := [.int 1]) (rest := []) E hC82 hS207 (m_X12_readCell l X Γ H82 hC82 h0 g0 1 (a1 := 1) (by decide) ca gca uc tq ((kp_R hKp82 g0 (ci := 11) (k := 7) rfl (by decide) rfl).trans htq) gtq kd vl w3 pos N _ S mc ym (by omega) (by first | exact ((mc.word (by decide)).mp hw4).1 | exact ((mc.word (by decide)).mp hw6).1 | exact ((mc.word (by decide)).mp hw8).1) (by omega) (by omega)) cw_X12_readCell cl_RX12_261 g0 ⟨rfl, rfl⟩ rfl hl.1 rfl (Nat.zero_le _) (by decide) dX12_yard_210) hS207 (fun H209 locs209 hr209 hC209 hS209 => ?_)
                                obtain ⟨hp209, hr209⟩ := hr209
                                have hKp209 := hKp82.tr (hp209.mono rfl)
                                have kdd : KD H0 H209 ca 0 0 := KD.kp kdd hp209 gca rfl rfl
                                have kd2 : KD H0 H209 ca 0 520 := KD.kp kd2 hp209 gca rfl rfl
                                have tqt : ∀ j, sI H209 tq j = sI H0 tq j := fun j => (kp_aI hp209 j gtq rfl rfl).trans (tqt j)
                                have n0 : EQ H209 ca 2080 xx := EQ.kn n0 hp209 gca rfl (by unfold dpn; omega)
                                have n1 : EQ H209 ca 2081 yy := EQ.kn n1 hp209 gca rfl (by unfold dpn; omega)
                                have m210 : (sI H209 h0 (X.1.2 11 8)).toInt = (sI H82 h0 (X.1.2 11 8)).toInt := congrArg Int32.toInt (kp_I hp209 g0 (k := 8) rfl (by decide) rfl)
                                obtain ⟨f209_0, f209_1, f209_2, f209_3, f209_4⟩ := hr209
                                have hpt := PTR.cell f209_4 ((mc9.word (by decide)).mp hw6) (Or.inr (Or.inl ⟨rfl, rfl⟩))
                                refine lv_goto (tgt := 249) hx hb dX12_yard_213 rfl ?_
                                refine lv_aload_n hx hb dX12_yard_249 rfl (lv_at hl 1 rfl) ?_
                                refine lv_aload_n hx hb dX12_yard_250 rfl (lv_at hl 1 rfl) ?_
                                refine lv_bipush (v := 59) hx hb dX12_yard_251 rfl ?_
                                have hz9 := tk_or (sI H209 h0 (X.1.2 11 14)).toInt
                                refine q_goIp (q_runV (As := [.int 59]) (rest := [.ref h0]) E hC209 hS209 (m_X12_isSign l X Γ H209 hC209 h0 g0 59 (a1 := 59) (by decide) ca gca uc) cw_X12_isSign cl_RX12_255 g0 ⟨rfl, rfl⟩ rfl hl.1 rfl (show _ ≤ _ from by simp [Value.category]) (by decide) dX12_yard_253) hS209 (fun v211 locs211 hr211 hS211 => ?_)
                                have hbz : (v211.toInt = 1 ∧ _) ∨ (v211.toInt = 0 ∧ _) := hr211.imp (fun h => ⟨by rw [h.1]; decide, h.2⟩) (fun h => ⟨by rw [h.1]; decide, h.2⟩)
                                have b211 : 0 ≤ v211.toInt ∧ v211.toInt ≤ 1 := by rcases hbz with q | q <;> (have q1 := q.1; omega)
                                clear hr211
                                refine q_goV (q_runV (As := [.int v211]) (rest := []) E hC209 hS211 (m_X12_must l X Γ H209 hC209 h0 g0 v211 (a1 := v211.toInt) rfl ca gca uc tq ((kp_R hKp209 g0 (ci := 11) (k := 7) rfl (by decide) rfl).trans htq) gtq (by omega) (by omega)) cw_X12_must cl_RX12_244 g0 ⟨rfl, rfl⟩ rfl hl.1 rfl (Nat.zero_le _) (by decide) dX12_yard_256) hS211 (fun H212 locs212 hr212 hC212 hS212 => ?_)
                                obtain ⟨hp212, hr212⟩ := hr212
                                have hKp212 := hKp209.tr (hp212.mono rfl)
                                have kdd : KD H0 H212 ca 0 0 := KD.kp kdd hp212 gca rfl rfl
                                have kd2 : KD H0 H212 ca 0 520 := KD.kp kd2 hp212 gca rfl rfl
                                have tqt : ∀ j, sI H212 tq j = sI H0 tq j := fun j => (kp_aI hp212 j gtq rfl rfl).trans (tqt j)
                                have n0 : EQ H212 ca 2080 xx := EQ.kn n0 hp212 gca rfl (by unfold dpn; omega)
                                have n1 : EQ H212 ca 2081 yy := EQ.kn n1 hp212 gca rfl (by unfold dpn; omega)
                                have m213 : (sI H212 h0 (X.1.2 11 8)).toInt = (sI H209 h0 (X.1.2 11 8)).toInt := congrArg Int32.toInt (kp_I hp212 g0 (k := 8) rfl (by decide) rfl)
                                obtain ⟨f212_0, f212_1, f212_2, f212_3, f212_4, f212_5⟩ := hr212
                                have hnx9 := YIV.step hpt hp212 g0 gca hbz f212_5 f212_2 (by omega) rfl rfl hgh hk0 e91 e92 hga hgf hgt mc9.2.1
                                have hl9 : v211.toInt + tk (sI H209 h0 (X.1.2 11 14)).toInt ≤ 1 := by rcases hbz with q | q <;> omega
                                clear hbz
                                clear hz9
                                refine lv_goto (tgt := 158) hx hb dX12_yard_259 rfl ?_
                                exact ih82 H212 locs212 ls (by omega) (by omega) (by omega) (fun q => hxy9 (by omega)) (hnx9) hC212 hS212 hKp212 kdd kd2 tqt n0 n1 hl
                              · have hw6 := hw
                                refine q_if_eq hx hb (a := 0) (by decide) (tgt := 216) dX12_yard_205 rfl (fun c214 => ?_) (fun c214 => absurd c214 (by omega))
                                refine lv_aload_n hx hb dX12_yard_216 rfl (lv_at hl 1 rfl) ?_
                                refine q_goIp (q_runV (As := []) (rest := []) E hC82 hS207 (m_X12_isSun l X Γ H82 hC82 h0 g0 ca gca uc) cw_X12_isSun cl_RX12_187 g0 ⟨rfl, rfl⟩ rfl hl.1 rfl (Nat.zero_le _) (by decide) dX12_yard_217) hS207 (fun v215 locs215 hr215 hS215 => ?_)
                                rcases hr215 with ⟨rfl, hw⟩ | ⟨rfl, hw⟩
                                · have hw8 := hw
                                  refine q_if_eq hx hb (a := 1) (by decide) (tgt := 231) dX12_yard_220 rfl (fun c216 => absurd c216 (by omega)) (fun c216 => ?_)
                                  refine lv_aload_n hx hb dX12_yard_223 rfl (lv_at hl 1 rfl) ?_
                                  refine lv_iconst (v := 2) hx hb dX12_yard_224 rfl ?_
                                  refine q_goV (q_runV (As := [.int 2]) (rest := []) E hC82 hS215 (m_X12_readCell l X Γ H82 hC82 h0 g0 2 (a1 := 2) (by decide) ca gca uc tq ((kp_R hKp82 g0 (ci := 11) (k := 7) rfl (by decide) rfl).trans htq) gtq kd vl w3 pos N _ S mc ym (by omega) (by first | exact ((mc.word (by decide)).mp hw4).1 | exact ((mc.word (by decide)).mp hw6).1 | exact ((mc.word (by decide)).mp hw8).1) (by omega) (by omega)) cw_X12_readCell cl_RX12_261 g0 ⟨rfl, rfl⟩ rfl hl.1 rfl (Nat.zero_le _) (by decide) dX12_yard_225) hS215 (fun H217 locs217 hr217 hC217 hS217 => ?_)
                                  obtain ⟨hp217, hr217⟩ := hr217
                                  have hKp217 := hKp82.tr (hp217.mono rfl)
                                  have kdd : KD H0 H217 ca 0 0 := KD.kp kdd hp217 gca rfl rfl
                                  have kd2 : KD H0 H217 ca 0 520 := KD.kp kd2 hp217 gca rfl rfl
                                  have tqt : ∀ j, sI H217 tq j = sI H0 tq j := fun j => (kp_aI hp217 j gtq rfl rfl).trans (tqt j)
                                  have n0 : EQ H217 ca 2080 xx := EQ.kn n0 hp217 gca rfl (by unfold dpn; omega)
                                  have n1 : EQ H217 ca 2081 yy := EQ.kn n1 hp217 gca rfl (by unfold dpn; omega)
                                  have m218 : (sI H217 h0 (X.1.2 11 8)).toInt = (sI H82 h0 (X.1.2 11 8)).toInt := congrArg Int32.toInt (kp_I hp217 g0 (k := 8) rfl (by decide) rfl)
                                  obtain ⟨f217_0, f217_1, f217_2, f217_3, f217_4⟩ := hr217
                                  have hpt := PTR.cell f217_4 ((mc9.word (by decide)).mp hw8) (Or.inr (Or.inr ⟨rfl, rfl⟩))
                                  refine lv_goto (tgt := 249) hx hb dX12_yard_228 rfl ?_
                                  refine lv_aload_n hx hb dX12_yard_249 rfl (lv_at hl 1 rfl) ?_
                                  refine lv_aload_n hx hb dX12_yard_250 rfl (lv_at hl 1 rfl) ?_
                                  refine lv_bipush (v := 59) hx hb dX12_yard_251 rfl ?_
                                  have hz9 := tk_or (sI H217 h0 (X.1.2 11 14)).toInt
                                  refine q_goIp (q_runV (As := [.int 59]) (rest := [.ref h0]) E hC217 hS217 (m_X12_isSign l X Γ H217 hC217 h0 g0 59 (a1 := 59) (by decide) ca gca uc) cw_X12_isSign cl_RX12_255 g0 ⟨rfl, rfl⟩ rfl hl.1 rfl (show _ ≤ _ from by simp [Value.category]) (by decide) dX12_yard_253) hS217 (fun v219 locs219 hr219 hS219 => ?_)
                                  have hbz : (v219.toInt = 1 ∧ _) ∨ (v219.toInt = 0 ∧ _) := hr219.imp (fun h => ⟨by rw [h.1]; decide, h.2⟩) (fun h => ⟨by rw [h.1]; decide, h.2⟩)
                                  have b219 : 0 ≤ v219.toInt ∧ v219.toInt ≤ 1 := by rcases hbz with q | q <;> (have q1 := q.1; omega)
                                  clear hr219
                                  refine q_goV (q_runV (As := [.int v219]) (rest := []) E hC217 hS219 (m_X12_must l X Γ H217 hC217 h0 g0 v219 (a1 := v219.toInt) rfl ca gca uc tq ((kp_R hKp217 g0 (ci := 11) (k := 7) rfl (by decide) rfl).trans htq) gtq (by omega) (by omega)) cw_X12_must cl_RX12_244 g0 ⟨rfl, rfl⟩ rfl hl.1 rfl (Nat.zero_le _) (by decide) dX12_yard_256) hS219 (fun H220 locs220 hr220 hC220 hS220 => ?_)
                                  obtain ⟨hp220, hr220⟩ := hr220
                                  have hKp220 := hKp217.tr (hp220.mono rfl)
                                  have kdd : KD H0 H220 ca 0 0 := KD.kp kdd hp220 gca rfl rfl
                                  have kd2 : KD H0 H220 ca 0 520 := KD.kp kd2 hp220 gca rfl rfl
                                  have tqt : ∀ j, sI H220 tq j = sI H0 tq j := fun j => (kp_aI hp220 j gtq rfl rfl).trans (tqt j)
                                  have n0 : EQ H220 ca 2080 xx := EQ.kn n0 hp220 gca rfl (by unfold dpn; omega)
                                  have n1 : EQ H220 ca 2081 yy := EQ.kn n1 hp220 gca rfl (by unfold dpn; omega)
                                  have m221 : (sI H220 h0 (X.1.2 11 8)).toInt = (sI H217 h0 (X.1.2 11 8)).toInt := congrArg Int32.toInt (kp_I hp220 g0 (k := 8) rfl (by decide) rfl)
                                  obtain ⟨f220_0, f220_1, f220_2, f220_3, f220_4, f220_5⟩ := hr220
                                  have hnx9 := YIV.step hpt hp220 g0 gca hbz f220_5 f220_2 (by omega) rfl rfl hgh hk0 e91 e92 hga hgf hgt mc9.2.1
                                  have hl9 : v219.toInt + tk (sI H217 h0 (X.1.2 11 14)).toInt ≤ 1 := by rcases hbz with q | q <;> omega
                                  clear hbz
                                  clear hz9
                                  refine lv_goto (tgt := 158) hx hb dX12_yard_259 rfl ?_
                                  exact ih82 H220 locs220 ls (by omega) (by omega) (by omega) (fun q => hxy9 (by omega)) (hnx9) hC220 hS220 hKp220 kdd kd2 tqt n0 n1 hl
                                · have hw8 := hw
                                  refine q_if_eq hx hb (a := 0) (by decide) (tgt := 231) dX12_yard_220 rfl (fun c222 => ?_) (fun c222 => absurd c222 (by omega))
                                  refine lv_aload_n hx hb dX12_yard_231 rfl (lv_at hl 1 rfl) ?_
                                  refine q_goIp (q_runV (As := []) (rest := []) E hC82 hS215 (m_X12_isNo l X Γ H82 hC82 h0 g0 ca gca uc) cw_X12_isNo cl_RX12_193 g0 ⟨rfl, rfl⟩ rfl hl.1 rfl (Nat.zero_le _) (by decide) dX12_yard_232) hS215 (fun v223 locs223 hr223 hS223 => ?_)
                                  rcases hr223 with ⟨rfl, hw⟩ | ⟨rfl, hw⟩
                                  · have hw10 := hw
                                    refine q_if_eq hx hb (a := 1) (by decide) (tgt := 245) dX12_yard_235 rfl (fun c224 => absurd c224 (by omega)) (fun c224 => ?_)
                                    refine lv_aload_n hx hb dX12_yard_238 rfl (lv_at hl 1 rfl) ?_
                                    refine q_goV (q_runV (As := []) (rest := []) E hC82 hS223 (m_X12_readArticle l X Γ H82 hC82 h0 g0 ca gca uc tq ((kp_R hKp82 g0 (ci := 11) (k := 7) rfl (by decide) rfl).trans htq) gtq kd vl w3 pos N _ S mc ym (by omega) ((mc.word (by decide)).mp hw10).1) cw_X12_readArticle cl_RX12_264 g0 ⟨rfl, rfl⟩ rfl hl.1 rfl (Nat.zero_le _) (by decide) dX12_yard_239) hS223 (fun H225 locs225 hr225 hC225 hS225 => ?_)
                                    obtain ⟨hp225, hr225⟩ := hr225
                                    have hKp225 := hKp82.tr (hp225.mono rfl)
                                    have kdd : KD H0 H225 ca 0 0 := KD.kp kdd hp225 gca rfl rfl
                                    have kd2 : KD H0 H225 ca 0 520 := KD.kp kd2 hp225 gca rfl rfl
                                    have tqt : ∀ j, sI H225 tq j = sI H0 tq j := fun j => (kp_aI hp225 j gtq rfl rfl).trans (tqt j)
                                    have n0 : EQ H225 ca 2080 xx := EQ.kn n0 hp225 gca rfl (by unfold dpn; omega)
                                    have n1 : EQ H225 ca 2081 yy := EQ.kn n1 hp225 gca rfl (by unfold dpn; omega)
                                    have m226 : (sI H225 h0 (X.1.2 11 8)).toInt = (sI H82 h0 (X.1.2 11 8)).toInt := congrArg Int32.toInt (kp_I hp225 g0 (k := 8) rfl (by decide) rfl)
                                    obtain ⟨f225_0, f225_1, f225_2, f225_3, f225_4⟩ := hr225
                                    have hpt := PTR.art f225_4 ((mc9.word (by decide)).mp hw10)
                                    refine lv_goto (tgt := 249) hx hb dX12_yard_242 rfl ?_
                                    refine lv_aload_n hx hb dX12_yard_249 rfl (lv_at hl 1 rfl) ?_
                                    refine lv_aload_n hx hb dX12_yard_250 rfl (lv_at hl 1 rfl) ?_
                                    refine lv_bipush (v := 59) hx hb dX12_yard_251 rfl ?_
                                    have hz9 := tk_or (sI H225 h0 (X.1.2 11 14)).toInt
                                    refine q_goIp (q_runV (As := [.int 59]) (rest := [.ref h0]) E hC225 hS225 (m_X12_isSign l X Γ H225 hC225 h0 g0 59 (a1 := 59) (by decide) ca gca uc) cw_X12_isSign cl_RX12_255 g0 ⟨rfl, rfl⟩ rfl hl.1 rfl (show _ ≤ _ from by simp [Value.category]) (by decide) dX12_yard_253) hS225 (fun v227 locs227 hr227 hS227 => ?_)
                                    have hbz : (v227.toInt = 1 ∧ _) ∨ (v227.toInt = 0 ∧ _) := hr227.imp (fun h => ⟨by rw [h.1]; decide, h.2⟩) (fun h => ⟨by rw [h.1]; decide, h.2⟩)
                                    have b227 : 0 ≤ v227.toInt ∧ v227.toInt ≤ 1 := by rcases hbz with q | q <;> (have q1 := q.1; omega)
                                    clear hr227
                                    refine q_goV (q_runV (As := [.int v227]) (rest := []) E hC225 hS227 (m_X12_must l X Γ H225 hC225 h0 g0 v227 (a1 := v227.toInt) rfl ca gca uc tq ((kp_R hKp225 g0 (ci := 11) (k := 7) rfl (by decide) rfl).trans htq) gtq (by omega) (by omega)) cw_X12_must cl_RX12_244 g0 ⟨rfl, rfl⟩ rfl hl.1 rfl (Nat.zero_le _) (by decide) dX12_yard_256) hS227 (fun H228 locs228 hr228 hC228 hS228 => ?_)
                                    obtain ⟨hp228, hr228⟩ := hr228
                                    have hKp228 := hKp225.tr (hp228.mono rfl)
                                    have kdd : KD H0 H228 ca 0 0 := KD.kp kdd hp228 gca rfl rfl
                                    have kd2 : KD H0 H228 ca 0 520 := KD.kp kd2 hp228 gca rfl rfl
                                    have tqt : ∀ j, sI H228 tq j = sI H0 tq j := fun j => (kp_aI hp228 j gtq rfl rfl).trans (tqt j)
                                    have n0 : EQ H228 ca 2080 xx := EQ.kn n0 hp228 gca rfl (by unfold dpn; omega)
                                    have n1 : EQ H228 ca 2081 yy := EQ.kn n1 hp228 gca rfl (by unfold dpn; omega)
                                    have m229 : (sI H228 h0 (X.1.2 11 8)).toInt = (sI H225 h0 (X.1.2 11 8)).toInt := congrArg Int32.toInt (kp_I hp228 g0 (k := 8) rfl (by decide) rfl)
                                    obtain ⟨f228_0, f228_1, f228_2, f228_3, f228_4, f228_5⟩ := hr228
                                    have hnx9 := YIV.step hpt hp228 g0 gca hbz f228_5 f228_2 (by omega) rfl rfl hgh hk0 e91 e92 hga hgf hgt mc9.2.1
                                    have hl9 : v227.toInt + tk (sI H225 h0 (X.1.2 11 14)).toInt ≤ 1 := by rcases hbz with q | q <;> omega
                                    clear hbz
                                    clear hz9
                                    refine lv_goto (tgt := 158) hx hb dX12_yard_259 rfl ?_
                                    exact ih82 H228 locs228 ls (by omega) (by omega) (by omega) (fun q => hxy9 (by omega)) (hnx9) hC228 hS228 hKp228 kdd kd2 tqt n0 n1 hl
                                  · have hw10 := hw
                                    refine q_if_eq hx hb (a := 0) (by decide) (tgt := 245) dX12_yard_235 rfl (fun c230 => ?_) (fun c230 => absurd c230 (by omega))
                                    refine lv_aload_n hx hb dX12_yard_245 rfl (lv_at hl 1 rfl) ?_
                                    refine q_goV (q_runV (As := []) (rest := []) E hC82 hS223 (m_X12_wrong l X Γ H82 hC82 h0 g0 ca gca uc) cw_X12_wrong cl_RX12_231 g0 ⟨rfl, rfl⟩ rfl hl.1 rfl (Nat.zero_le _) (by decide) dX12_yard_246) hS223 (fun H231 locs231 hr231 hC231 hS231 => ?_)
                                    obtain ⟨hp231, hr231⟩ := hr231
                                    have hKp231 := hKp82.tr (hp231.mono rfl)
                                    have kdd : KD H0 H231 ca 0 0 := KD.kp kdd hp231 gca rfl rfl
                                    have kd2 : KD H0 H231 ca 0 520 := KD.kp kd2 hp231 gca rfl rfl
                                    have tqt : ∀ j, sI H231 tq j = sI H0 tq j := fun j => (kp_aI hp231 j gtq rfl rfl).trans (tqt j)
                                    have n0 : EQ H231 ca 2080 xx := EQ.kn n0 hp231 gca rfl (by unfold dpn; omega)
                                    have n1 : EQ H231 ca 2081 yy := EQ.kn n1 hp231 gca rfl (by unfold dpn; omega)
                                    have ym := ym.kp hp231 g0 gca rfl rfl
                                    have m232 : (sI H231 h0 (X.1.2 11 8)).toInt = (sI H82 h0 (X.1.2 11 8)).toInt := congrArg Int32.toInt (kp_I hp231 g0 (k := 8) rfl (by decide) rfl)
                                    obtain ⟨f231_0, f231_1, f231_2, f231_3⟩ := hr231
                                    have hpt := PTR.none (H := H231) (Γ := Γ) (ca := ca) (S := S) (by omega) mc9 hw2 hw4 hw6 hw8 hw10
                                    refine lv_aload_n hx hb dX12_yard_249 rfl (lv_at hl 1 rfl) ?_
                                    refine lv_aload_n hx hb dX12_yard_250 rfl (lv_at hl 1 rfl) ?_
                                    refine lv_bipush (v := 59) hx hb dX12_yard_251 rfl ?_
                                    have hz9 := tk_or (sI H231 h0 (X.1.2 11 14)).toInt
                                    refine q_goIp (q_runV (As := [.int 59]) (rest := [.ref h0]) E hC231 hS231 (m_X12_isSign l X Γ H231 hC231 h0 g0 59 (a1 := 59) (by decide) ca gca uc) cw_X12_isSign cl_RX12_255 g0 ⟨rfl, rfl⟩ rfl hl.1 rfl (show _ ≤ _ from by simp [Value.category]) (by decide) dX12_yard_253) hS231 (fun v233 locs233 hr233 hS233 => ?_)
                                    have hbz : (v233.toInt = 1 ∧ _) ∨ (v233.toInt = 0 ∧ _) := hr233.imp (fun h => ⟨by rw [h.1]; decide, h.2⟩) (fun h => ⟨by rw [h.1]; decide, h.2⟩)
                                    have b233 : 0 ≤ v233.toInt ∧ v233.toInt ≤ 1 := by rcases hbz with q | q <;> (have q1 := q.1; omega)
                                    clear hr233
                                    refine q_goV (q_runV (As := [.int v233]) (rest := []) E hC231 hS233 (m_X12_must l X Γ H231 hC231 h0 g0 v233 (a1 := v233.toInt) rfl ca gca uc tq ((kp_R hKp231 g0 (ci := 11) (k := 7) rfl (by decide) rfl).trans htq) gtq (by omega) (by omega)) cw_X12_must cl_RX12_244 g0 ⟨rfl, rfl⟩ rfl hl.1 rfl (Nat.zero_le _) (by decide) dX12_yard_256) hS233 (fun H234 locs234 hr234 hC234 hS234 => ?_)
                                    obtain ⟨hp234, hr234⟩ := hr234
                                    have hKp234 := hKp231.tr (hp234.mono rfl)
                                    have kdd : KD H0 H234 ca 0 0 := KD.kp kdd hp234 gca rfl rfl
                                    have kd2 : KD H0 H234 ca 0 520 := KD.kp kd2 hp234 gca rfl rfl
                                    have tqt : ∀ j, sI H234 tq j = sI H0 tq j := fun j => (kp_aI hp234 j gtq rfl rfl).trans (tqt j)
                                    have n0 : EQ H234 ca 2080 xx := EQ.kn n0 hp234 gca rfl (by unfold dpn; omega)
                                    have n1 : EQ H234 ca 2081 yy := EQ.kn n1 hp234 gca rfl (by unfold dpn; omega)
                                    have m235 : (sI H234 h0 (X.1.2 11 8)).toInt = (sI H231 h0 (X.1.2 11 8)).toInt := congrArg Int32.toInt (kp_I hp234 g0 (k := 8) rfl (by decide) rfl)
                                    obtain ⟨f234_0, f234_1, f234_2, f234_3, f234_4, f234_5⟩ := hr234
                                    have hnx9 := YIV.step hpt hp234 g0 gca hbz f234_5 f234_2 (by omega) rfl rfl hgh hk0 e91 e92 hga hgf hgt mc9.2.1
                                    have hl9 : v233.toInt + tk (sI H231 h0 (X.1.2 11 14)).toInt ≤ 1 := by rcases hbz with q | q <;> omega
                                    clear hbz
                                    clear hz9
                                    refine lv_goto (tgt := 158) hx hb dX12_yard_259 rfl ?_
                                    exact ih82 H234 locs234 ls (by omega) (by omega) (by omega) (fun q => hxy9 (by omega)) (hnx9) hC234 hS234 hKp234 kdd kd2 tqt n0 n1 hl
                  exact L158 903 H80 locs80 ls (by omega) (by omega) (by omega) (fun q => ⟨by first | exact hxv (by omega) | omega, by first | exact hyv (by omega) | omega⟩) (by first | exact YIV.no (by omega) hno | exact YIV.of hd hpar2 hN9) hC80 hS80 hKp80 kdd kd2 tqt n0 n1 hl
                · refine lv_aload_n hx hb dX12_yard_105 rfl (lv_at hl 1 rfl) ?_
                  refine q_getC E hC53 g0 fa_RX12_35 uc dX12_yard_106 ?_
                  refine lv_sipush (v := 2080) hx hb dX12_yard_109 rfl ?_
                  refine q_cald E hC53 (lo := 0) (hi := 6) gca (a := 2080) (show (2080 : Int32).toInt = 2080 from by decide) (by omega) (by omega) (cr_n0 (by omega) (by omega)) dX12_yard_112 (fun v236 ev236 lv236 uv236 => ?_)
                  have qv236 := e61.symm.trans ev236; subst qv236
                  refine lv_iconst (v := 2) hx hb dX12_yard_113 rfl ?_
                  refine lv_irem hx hb dX12_yard_114 (by decide) (lv_topi (fun v237 ev237 => ?_))
                  have ev237i : v237.toInt = (v51.toInt % 2) := i_rem ev237 rfl (by decide) (by omega) (by decide)
                  refine lv_iconst (v := 1) hx hb dX12_yard_115 rfl ?_
                  refine q_icmp_ne hx hb (a := (v51.toInt % 2)) (b := 1) ev237i (by decide) (tgt := 125) dX12_yard_116 rfl (fun c238 => ?_) (fun c238 => ?_)
                  · have n09 := n0; unfold EQ at n09
                    have hpar : PARN vl (sI H53 h0 (X.1.2 11 12)).toInt := by by_cases hz9 : (sI H53 h0 (X.1.2 11 12)).toInt = 0; exact Or.inl (by have q2 := hxv (by omega); omega); exact Or.inr hz9
                    refine lv_aload_n hx hb dX12_yard_125 rfl (lv_at hl 1 rfl) ?_
                    refine lv_aload_n hx hb dX12_yard_126 rfl (lv_at hl 1 rfl) ?_
                    refine q_goIp (q_runV (As := []) (rest := [.ref h0]) E hC53 hS53 (m_X12_isHigh l X Γ H53 hC53 h0 g0 ca gca uc) cw_X12_isHigh cl_RX12_169 g0 ⟨rfl, rfl⟩ rfl hl.1 rfl (show _ ≤ _ from by simp [Value.category]) (by decide) dX12_yard_127) hS53 (fun v239 locs239 hr239 hS239 => ?_)
                    have hbz : (v239.toInt = 1 ∧ _) ∨ (v239.toInt = 0 ∧ _) := hr239.imp (fun h => ⟨by rw [h.1]; decide, h.2⟩) (fun h => ⟨by rw [h.1]; decide, h.2⟩)
                    have b239 : 0 ≤ v239.toInt ∧ v239.toInt ≤ 1 := by rcases hbz with q | q <;> (have q1 := q.1; omega)
                    clear hr239
                    refine q_goV (q_runV (As := [.int v239]) (rest := []) E hC53 hS239 (m_X12_must l X Γ H53 hC53 h0 g0 v239 (a1 := v239.toInt) rfl ca gca uc tq ((kp_R hKp53 g0 (ci := 11) (k := 7) rfl (by decide) rfl).trans htq) gtq (by omega) (by omega)) cw_X12_must cl_RX12_244 g0 ⟨rfl, rfl⟩ rfl hl.1 rfl (Nat.zero_le _) (by decide) dX12_yard_130) hS239 (fun H240 locs240 hr240 hC240 hS240 => ?_)
                    obtain ⟨hp240, hr240⟩ := hr240
                    have hKp240 := hKp53.tr (hp240.mono rfl)
                    have kdd : KD H0 H240 ca 0 0 := KD.kp kdd hp240 gca rfl rfl
                    have kd2 : KD H0 H240 ca 0 520 := KD.kp kd2 hp240 gca rfl rfl
                    have tqt : ∀ j, sI H240 tq j = sI H0 tq j := fun j => (kp_aI hp240 j gtq rfl rfl).trans (tqt j)
                    have n0 : EQ H240 ca 2080 xx := EQ.kn n0 hp240 gca rfl (by unfold dpn; omega)
                    have m241 : (sI H240 h0 (X.1.2 11 8)).toInt = (sI H53 h0 (X.1.2 11 8)).toInt := congrArg Int32.toInt (kp_I hp240 g0 (k := 8) rfl (by decide) rfl)
                    obtain ⟨f240_0, f240_1, f240_2, f240_3, f240_4, f240_5⟩ := hr240
                    have hd := HD.must hd hp240 g0 gca (by first | exact hbz | exact Or.inl ⟨rfl, hw⟩ | exact Or.inr ⟨rfl, hw⟩) f240_5 f240_2 (by omega) rfl rfl (by decide)
                    try clear hbz
                    refine lv_aload_n hx hb dX12_yard_133 rfl (lv_at hl 1 rfl) ?_
                    refine q_getC E hC240 g0 fa_RX12_35 uc dX12_yard_134 ?_
                    refine lv_sipush (v := 2081) hx hb dX12_yard_137 rfl ?_
                    refine lv_aload_n hx hb dX12_yard_140 rfl (lv_at hl 1 rfl) ?_
                    refine lv_iconst (v := 1) hx hb dX12_yard_141 rfl ?_
                    refine lv_bipush (v := 6) hx hb dX12_yard_142 rfl ?_
                    refine q_goI (q_runV (As := [.int 1, .int 6]) (rest := [.int 2081, .ref ca]) E hC240 hS240 (m_X12_count l X Γ H240 hC240 h0 g0 1 (a1 := 1) (by decide) 6 (a2 := 6) (by decide) ca gca uc tq ((kp_R hKp240 g0 (ci := 11) (k := 7) rfl (by decide) rfl).trans htq) gtq (by omega) (by omega) (by omega) (by omega)) cw_X12_count cl_RX12_248 g0 ⟨rfl, rfl⟩ rfl hl.1 rfl (show _ ≤ _ from by simp [Value.category]) (by decide) dX12_yard_144) hS240 (fun v242 H242 locs242 hr242 hC242 hS242 => ?_)
                    obtain ⟨hp242, hr242⟩ := hr242
                    have hKp242 := hKp240.tr (hp242.mono rfl)
                    have kdd : KD H0 H242 ca 0 0 := KD.kp kdd hp242 gca rfl rfl
                    have kd2 : KD H0 H242 ca 0 520 := KD.kp kd2 hp242 gca rfl rfl
                    have tqt : ∀ j, sI H242 tq j = sI H0 tq j := fun j => (kp_aI hp242 j gtq rfl rfl).trans (tqt j)
                    have n0 : EQ H242 ca 2080 xx := EQ.kn n0 hp242 gca rfl (by unfold dpn; omega)
                    have m243 : (sI H242 h0 (X.1.2 11 8)).toInt = (sI H240 h0 (X.1.2 11 8)).toInt := congrArg Int32.toInt (kp_I hp242 g0 (k := 8) rfl (by decide) rfl)
                    obtain ⟨f242_0, f242_1, f242_2, f242_3, f242_4, f242_5, f242_6, f242_7, f242_8⟩ := hr242
                    have hdc := HD.count hd hp242 g0 gca f242_8 f242_2 (by omega) rfl rfl
                    have hd := hdc.1
                    have hv2 : IFZ (sI H242 h0 (X.1.2 11 12)).toInt (v242.toInt = vl 3) := by first | exact hdc.2 | exact fun q => absurd q (by omega)
                    clear hdc
                    refine q_cast E hC242 hS242 gca (a := 2081) (show (2081 : Int32).toInt = 2081 from by decide) (by omega) (by omega) (cs_n0 (a := 2081) (b := v242.toInt) (by omega) (by omega) rfl (by omega) (by omega)) dX12_yard_147 (fun H244 locs244 hC244 hS244 U244 => ?_)
                    have hKp244 := Kp.upD gca rfl rfl (fun _ => ⟨fun h => absurd h (by decide), fun h => absurd h (by decide), fun h => absurd h (by decide)⟩) U244 hKp242
                    have kdd : KD H0 H244 ca 0 0 := KD.up kdd U244 (by omega) (by omega)
                    have kd2 : KD H0 H244 ca 0 520 := KD.up kd2 U244 (by omega) (by omega)
                    have tqt : ∀ j, sI H244 tq j = sI H0 tq j := fun j => (up_nI U244 (ne_k gtq gca (by decide))).trans (tqt j)
                    have n0 : EQ H244 ca 2080 xx := EQ.up n0 U244 ⟨by omega, by omega⟩ (by omega)
                    have m245 : (sI H244 h0 (X.1.2 11 12)).toInt = (sI H242 h0 (X.1.2 11 12)).toInt := congrArg Int32.toInt (up_nI U244 (ne_k g0 gca (by decide)))
                    have m246 : (sI H244 h0 (X.1.2 11 14)).toInt = (sI H242 h0 (X.1.2 11 14)).toInt := congrArg Int32.toInt (up_nI U244 (ne_k g0 gca (by decide)))
                    have m247 := congrArg tk m246
                    have m248 : (sI H244 h0 (X.1.2 11 16)).toInt = (sI H242 h0 (X.1.2 11 16)).toInt := congrArg Int32.toInt (up_nI U244 (ne_k g0 gca (by decide)))
                    have m249 : (sI H244 h0 (X.1.2 11 8)).toInt = (sI H242 h0 (X.1.2 11 8)).toInt := congrArg Int32.toInt (up_nI U244 (ne_k g0 gca (by decide)))
                    have m250 : (sI H244 h0 (X.1.2 11 9)).toInt = (sI H242 h0 (X.1.2 11 9)).toInt := congrArg Int32.toInt (up_nI U244 (ne_k g0 gca (by decide)))
                    have m251 : (sI H244 h0 (X.1.2 11 17)).toInt = (sI H242 h0 (X.1.2 11 17)).toInt := congrArg Int32.toInt (up_nI U244 (ne_k g0 gca (by decide)))
                    have hd := HD.map hd (congrArg Int32.toInt (up_nI U244 (ne_k g0 gca (by decide)))) (fun hb0 mc ym => ⟨mc.ne U244 g0 gtq gca (by decide), ym.high U244 g0 gca rfl (z := vl 3) (rfl.trans (hv2 hb0))⟩)
                    obtain ⟨yy, hyy⟩ : ∃ z, v242.toInt = z := ⟨_, rfl⟩
                    have n1 : EQ H244 ca 2081 yy := (congrArg Int32.toInt (up_I U244)).trans (rfl.trans hyy)
                    have hyv : IFZ (sI H244 h0 (X.1.2 11 12)).toInt (yy = vl 3) := fun q => by have := hv2 (by omega); omega
                    have e252 := up_I U244
                    refine lv_aload_n hx hb dX12_yard_148 rfl (lv_at hl 1 rfl) ?_
                    refine lv_aload_n hx hb dX12_yard_149 rfl (lv_at hl 1 rfl) ?_
                    refine lv_bipush (v := 59) hx hb dX12_yard_150 rfl ?_
                    refine q_goIp (q_runV (As := [.int 59]) (rest := [.ref h0]) E hC244 hS244 (m_X12_isSign l X Γ H244 hC244 h0 g0 59 (a1 := 59) (by decide) ca gca uc) cw_X12_isSign cl_RX12_255 g0 ⟨rfl, rfl⟩ rfl hl.1 rfl (show _ ≤ _ from by simp [Value.category]) (by decide) dX12_yard_152) hS244 (fun v253 locs253 hr253 hS253 => ?_)
                    have hbz : (v253.toInt = 1 ∧ _) ∨ (v253.toInt = 0 ∧ _) := hr253.imp (fun h => ⟨by rw [h.1]; decide, h.2⟩) (fun h => ⟨by rw [h.1]; decide, h.2⟩)
                    have b253 : 0 ≤ v253.toInt ∧ v253.toInt ≤ 1 := by rcases hbz with q | q <;> (have q1 := q.1; omega)
                    clear hr253
                    have hb0 := f_bd hC244 g0 (ci := 11) (k := 16) rfl rfl
                    refine q_goV (q_runV (As := [.int v253]) (rest := []) E hC244 hS253 (m_X12_must l X Γ H244 hC244 h0 g0 v253 (a1 := v253.toInt) rfl ca gca uc tq ((kp_R hKp244 g0 (ci := 11) (k := 7) rfl (by decide) rfl).trans htq) gtq (by omega) (by omega)) cw_X12_must cl_RX12_244 g0 ⟨rfl, rfl⟩ rfl hl.1 rfl (Nat.zero_le _) (by decide) dX12_yard_155) hS253 (fun H254 locs254 hr254 hC254 hS254 => ?_)
                    obtain ⟨hp254, hr254⟩ := hr254
                    have hKp254 := hKp244.tr (hp254.mono rfl)
                    have kdd : KD H0 H254 ca 0 0 := KD.kp kdd hp254 gca rfl rfl
                    have kd2 : KD H0 H254 ca 0 520 := KD.kp kd2 hp254 gca rfl rfl
                    have tqt : ∀ j, sI H254 tq j = sI H0 tq j := fun j => (kp_aI hp254 j gtq rfl rfl).trans (tqt j)
                    have n0 : EQ H254 ca 2080 xx := EQ.kn n0 hp254 gca rfl (by unfold dpn; omega)
                    have n1 : EQ H254 ca 2081 yy := EQ.kn n1 hp254 gca rfl (by unfold dpn; omega)
                    have m255 : (sI H254 h0 (X.1.2 11 8)).toInt = (sI H244 h0 (X.1.2 11 8)).toInt := congrArg Int32.toInt (kp_I hp254 g0 (k := 8) rfl (by decide) rfl)
                    obtain ⟨f254_0, f254_1, f254_2, f254_3, f254_4, f254_5⟩ := hr254
                    have hd := HD.sign hd hp254 g0 gca hbz f254_5 f254_2 (by omega) rfl rfl
                    try clear hbz
                    have hpar2 : PARN vl (sI H254 h0 (X.1.2 11 12)).toInt := by rcases hpar with q | q; exact Or.inl q; exact Or.inr (by omega)
                    have L158 : ∀ (n256 : Nat) (H256 : Heap) (locs256 : List Loc) (ls : Array Slot), 0 < n256 ∧ ((sI H256 h0 (X.1.2 11 12)).toInt ≠ 0 ∨ 902 - (sI H256 h0 (X.1.2 11 16)).toInt < n256) → ((sI H256 h0 (X.1.2 11 12)).toInt = 0 → 2 ≤ xx ∧ 1 ≤ yy) → (sI H256 h0 (X.1.2 11 8)).toInt = 0 → XYV (sI H256 h0 (X.1.2 11 12)).toInt xx yy vl → YIV X Γ H256 h0 tq ca kd vl w3 pos N → Conf X Γ H256 → va_S (AΓ Γ) H0 H256 locs256 → Kp X Γ [1, 6, 8, 9, 11, 12, 14, 19, 22, 24, 26, 28, 30, 38] H0 H256 → (KD H0 H256 ca 0 0) → (KD H0 H256 ca 0 520) → (∀ j, sI H256 tq j = sI H0 tq j) → (EQ H256 ca 2080 xx) → (EQ H256 ca 2081 yy) → lv_has ls 4 [(2, .int v50), (0, .ref h0), (1, .int p1)] → W p l e (rmL 5) s m args below meth c H256 locs256 0 0 Qz (F0 m 158 ls []) := by
                      intro n256
                      induction n256 with
                      | zero => intro H256 locs256 ls hm256 iv256_0 iv256_1 iv256_2 iv256_3 hC256 hS256 hKp256 kdd kd2 tqt n0 n1 hl; exact absurd hm256 (by omega)
                      | succ n256 ih256 =>
                        intro H256 locs256 ls hm256 iv256_0 iv256_1 iv256_2 iv256_3 hC256 hS256 hKp256 kdd kd2 tqt n0 n1 hl
                        have hb1 := f_bd hC256 g0 (ci := 11) (k := 16) rfl rfl
                        have hb2 := f_bd hC256 g0 (ci := 11) (k := 12) rfl rfl
                        have yiv := iv256_3
                        have hxy9 := iv256_2
                        refine lv_aload_n hx hb dX12_yard_158 rfl (lv_at hl 1 rfl) ?_
                        refine q_getI E hC256 g0 fa_RX12_218 dX12_yard_159 (fun v257 ev257 lv257 uv257 => ?_)
                        have m258 : (sI H256 h0 (X.1.2 11 12)).toInt = v257.toInt := (congrArg Int32.toInt ev257).trans rfl
                        refine q_if_ne hx hb (a := v257.toInt) rfl (tgt := 262) dX12_yard_162 rfl (fun c259 => ?_) (fun c259 => ?_)
                        · have hres : RESY kd vl (sI H256 h0 (X.1.2 11 12)).toInt := by by_cases hz9 : (sI H256 h0 (X.1.2 11 12)).toInt = 0 <;> first | exact Or.inr ⟨hz9, yiv.2 hz9⟩ | exact Or.inl ⟨hz9, YIV.fin hgh mc (mc.tok.1.mp (by omega)) hga hgf⟩ | (exfalso; omega)
                          obtain ⟨b9, hb9⟩ : ∃ z, (sI H256 h0 (X.1.2 11 12)).toInt = z := ⟨_, rfl⟩
                          have an : ANC H256 ca b9 kd vl := by first | (have hgt9 := hgt; exact fun _ => YIV.fin2 mc ym (mc.tok.1.mp (by omega)) hgf hgt9) | exact fun q => absurd q (by omega)
                          refine lv_aload_n hx hb dX12_yard_262 rfl (lv_at hl 1 rfl) ?_
                          refine q_goI (q_runV (As := []) (rest := []) E hC256 hS256 (m_X12_isWell l X Γ H256 hC256 h0 g0 ca gca uc) cw_X12_isWell cl_RX12_267 g0 ⟨rfl, rfl⟩ rfl hl.1 rfl (Nat.zero_le _) (by decide) dX12_yard_263) hS256 (fun v260 H260 locs260 hr260 hC260 hS260 => ?_)
                          obtain ⟨hp260, hr260⟩ := hr260
                          have hKp260 := hKp256.tr (hp260.mono rfl)
                          have kdd : KD H0 H260 ca 0 0 := KD.kp kdd hp260 gca rfl rfl
                          have kd2 : KD H0 H260 ca 0 520 := KD.kp kd2 hp260 gca rfl rfl
                          have tqt : ∀ j, sI H260 tq j = sI H0 tq j := fun j => (kp_aI hp260 j gtq rfl rfl).trans (tqt j)
                          have n0 : EQ H260 ca 2080 xx := EQ.kn n0 hp260 gca rfl (by unfold dpn; omega)
                          have n1 : EQ H260 ca 2081 yy := EQ.kn n1 hp260 gca rfl (by unfold dpn; omega)
                          have an : ANC H260 ca b9 kd vl := an.kp hp260 gca rfl
                          have m261 : (sI H260 h0 (X.1.2 11 12)).toInt = (sI H256 h0 (X.1.2 11 12)).toInt := congrArg Int32.toInt (kp_I hp260 g0 (k := 12) rfl (by decide) rfl)
                          have m262 : (sI H260 h0 (X.1.2 11 14)).toInt = (sI H256 h0 (X.1.2 11 14)).toInt := congrArg Int32.toInt (kp_I hp260 g0 (k := 14) rfl (by decide) rfl)
                          have m263 : (sI H260 h0 (X.1.2 11 16)).toInt = (sI H256 h0 (X.1.2 11 16)).toInt := congrArg Int32.toInt (kp_I hp260 g0 (k := 16) rfl (by decide) rfl)
                          have m264 : (sI H260 h0 (X.1.2 11 8)).toInt = (sI H256 h0 (X.1.2 11 8)).toInt := congrArg Int32.toInt (kp_I hp260 g0 (k := 8) rfl (by decide) rfl)
                          have m265 : (sI H260 h0 (X.1.2 11 9)).toInt = (sI H256 h0 (X.1.2 11 9)).toInt := congrArg Int32.toInt (kp_I hp260 g0 (k := 9) rfl (by decide) rfl)
                          have m266 : (sI H260 h0 (X.1.2 11 17)).toInt = (sI H256 h0 (X.1.2 11 17)).toInt := congrArg Int32.toInt (kp_I hp260 g0 (k := 17) rfl (by decide) rfl)
                          rcases hr260 with ⟨rfl, hiw⟩ | ⟨rfl, hiw⟩
                          · have hgy := (Or.resolve_right hres (fun q => absurd q.1 (by omega))).2
                            clear hres
                            have hxx9 := hxy9 (by omega)
                            have hb90 : b9 = 0 := by omega
                            refine q_if_ne hx hb (a := 1) (by decide) (tgt := 271) dX12_yard_266 rfl (fun c267 => ?_) (fun c267 => absurd c267 (by omega))
                            have hxy : 2 ≤ xx ∧ 1 ≤ yy := by omega
                            refine lv_iconst (v := 0) hx hb dX12_yard_271 rfl ?_
                            refine lv_istore_n hx hb dX12_yard_272 rfl hl (by decide) rfl (fun ls hl => ?_)
                            have hl : lv_has ls 4 [(3, .int 0), (2, .int v50), (0, .ref h0), (1, .int p1)] := hl
                            have L273 : ∀ (n269 : Nat) (H269 : Heap) (locs269 : List Loc) (v268 : Int32) (z268 : Int) (ls : Array Slot), (36 - z268).toNat < n269 → v268.toInt = z268 → z268 ≤ 36 → 0 ≤ z268 → (sI H269 h0 (X.1.2 11 8)).toInt = 0 → Conf X Γ H269 → va_S (AΓ Γ) H0 H269 locs269 → Kp X Γ [1, 6, 8, 9, 11, 12, 14, 19, 22, 24, 26, 28, 30, 38] H0 H269 → (KD H0 H269 ca 0 0) → (KD H0 H269 ca 0 520) → (∀ j, sI H269 tq j = sI H0 tq j) → (EQ H269 ca 2080 xx) → (EQ H269 ca 2081 yy) → (ANC H269 ca b9 kd vl) → lv_has ls 4 [(3, .int v268), (2, .int v50), (0, .ref h0), (1, .int p1)] → W p l e (rmL 5) s m args below meth c H269 locs269 0 0 Qz (F0 m 273 ls []) := by
                              intro n269
                              induction n269 with
                              | zero => intro H269 locs269 v268 z268 ls hm269 ev268 iv269_0 iv269_1 iv269_2 hC269 hS269 hKp269 kdd kd2 tqt n0 n1 an hl; exact absurd hm269 (Nat.not_lt_zero _)
                              | succ n269 ih269 =>
                                intro H269 locs269 v268 z268 ls hm269 ev268 iv269_0 iv269_1 iv269_2 hC269 hS269 hKp269 kdd kd2 tqt n0 n1 an hl
                                refine lv_iload_n hx hb dX12_yard_273 rfl (lv_at hl 0 rfl) ?_
                                refine lv_bipush (v := 36) hx hb dX12_yard_274 rfl ?_
                                refine q_icmp_ge hx hb (a := z268) (b := 36) ev268 (by decide) (tgt := 305) dX12_yard_276 rfl (fun c270 => ?_) (fun c270 => ?_)
                                · refine lv_iconst (v := 0) hx hb dX12_yard_305 rfl ?_
                                  refine lv_istore_n hx hb dX12_yard_306 rfl hl (by decide) rfl (fun ls hl => ?_)
                                  have hl : lv_has ls 4 [(3, .int 0), (2, .int v50), (0, .ref h0), (1, .int p1)] := hl
                                  have L307 : ∀ (n272 : Nat) (H272 : Heap) (locs272 : List Loc) (v271 : Int32) (z271 : Int) (ls : Array Slot), (520 - z271).toNat < n272 → v271.toInt = z271 → z271 ≤ 520 → 0 ≤ z271 → CPd H272 ca 2080 0 z271 → (sI H272 h0 (X.1.2 11 8)).toInt = 0 → Conf X Γ H272 → va_S (AΓ Γ) H0 H272 locs272 → Kp X Γ [1, 6, 8, 9, 11, 12, 14, 19, 22, 24, 26, 28, 30, 38] H0 H272 → (KD H0 H272 ca 0 520) → (∀ j, sI H272 tq j = sI H0 tq j) → (EQ H272 ca 2080 xx) → (EQ H272 ca 2081 yy) → (ANC H272 ca b9 kd vl) → lv_has ls 4 [(3, .int v271), (2, .int v50), (0, .ref h0), (1, .int p1)] → W p l e (rmL 5) s m args below meth c H272 locs272 0 0 Qz (F0 m 307 ls []) := by
                                    intro n272
                                    induction n272 with
                                    | zero => intro H272 locs272 v271 z271 ls hm272 ev271 iv272_0 iv272_1 iv272_2 iv272_3 hC272 hS272 hKp272 kd2 tqt n0 n1 an hl; exact absurd hm272 (Nat.not_lt_zero _)
                                    | succ n272 ih272 =>
                                      intro H272 locs272 v271 z271 ls hm272 ev271 iv272_0 iv272_1 iv272_2 iv272_3 hC272 hS272 hKp272 kd2 tqt n0 n1 an hl
                                      have cpd := iv272_2
                                      refine lv_iload_n hx hb dX12_yard_307 rfl (lv_at hl 0 rfl) ?_
                                      refine lv_sipush (v := 520) hx hb dX12_yard_308 rfl ?_
                                      refine q_icmp_ge hx hb (a := z271) (b := 520) ev271 (by decide) (tgt := 336) dX12_yard_311 rfl (fun c273 => ?_) (fun c273 => ?_)
                                      · refine lv_aload_n hx hb dX12_yard_336 rfl (lv_at hl 2 rfl) ?_
                                        refine q_getC E hC272 g0 fa_RX12_35 uc dX12_yard_337 ?_
                                        refine lv_iconst (v := 0) hx hb dX12_yard_340 rfl ?_
                                        refine q_cald E hC272 (lo := 0) (hi := 6) gca (a := 0) (show (0 : Int32).toInt = 0 from by decide) (by omega) (by omega) (cr_c0 (by omega) (by omega)) dX12_yard_341 (fun v274 ev274 lv274 uv274 => ?_)
                                        have m275 : (sI H272 ca (0 : Int).toNat).toInt = v274.toInt := congrArg Int32.toInt ev274
                                        refine lv_aload_n hx hb dX12_yard_342 rfl (lv_at hl 2 rfl) ?_
                                        refine q_getC E hC272 g0 fa_RX12_35 uc dX12_yard_343 ?_
                                        refine lv_iconst (v := 1) hx hb dX12_yard_346 rfl ?_
                                        refine q_cald E hC272 (lo := 0) (hi := 6) gca (a := 1) (show (1 : Int32).toInt = 1 from by decide) (by omega) (by omega) (cr_c0 (by omega) (by omega)) dX12_yard_347 (fun v276 ev276 lv276 uv276 => ?_)
                                        have m277 : (sI H272 ca (1 : Int).toNat).toInt = v276.toInt := congrArg Int32.toInt ev276
                                        refine lv_imul hx hb dX12_yard_348 (lv_topi (fun v278 ev278 => ?_))
                                        have h90 : sI H272 ca (0 : Int).toNat = sI H272 ca (2080 : Int).toNat := cpd 0 (by decide) (by omega); have h91 : sI H272 ca (1 : Int).toNat = sI H272 ca (2081 : Int).toNat := cpd 1 (by decide) (by omega); have n09 := n0; unfold EQ at n09; have n19 := n1; unfold EQ at n19; rw [← h90] at n09; rw [← h91] at n19; have hmul := mul_small ev278 (a := vl 1) (b := vl 3) (by omega) (by omega) (gYard_bd hgy)
                                        have hpost : KD H0 H272 ca 0 0 ∨ (KD H0 H272 ca 0 520 ∧ YI H272 ca) := Or.inr ⟨kd2, YI.mk hC272 gca cpd (by omega) n0 n1 hxy⟩
                                        obtain ⟨T9, hfT9, an9⟩ := an hb90
                                        have hym : YMR (sI H0 h0 (X.1.2 11 8)).toInt a1 kd vl (v278 : Int32).toInt (KD H0 H272 ca 0 0) (QYA H272 ca kd vl) := Or.inr ⟨by omega, by omega, Or.inl ⟨vl 1, vl 3, hgy, rfl.trans hmul, T9, hfT9, an9.fin cpd (by omega)⟩⟩
                                        have c279 : v278.toInt = v278.toInt := rfl
                                        exact ret v278 H272 locs272 _ _ dX12_yard_349 ⟨hKp272, ⟨hpost, by omega, hym⟩⟩ hC272 hS272
                                      · refine lv_aload_n hx hb dX12_yard_314 rfl (lv_at hl 2 rfl) ?_
                                        refine q_getC E hC272 g0 fa_RX12_35 uc dX12_yard_315 ?_
                                        refine lv_iload_n hx hb dX12_yard_318 rfl (lv_at hl 0 rfl) ?_
                                        refine lv_aload_n hx hb dX12_yard_319 rfl (lv_at hl 2 rfl) ?_
                                        refine q_getC E hC272 g0 fa_RX12_35 uc dX12_yard_320 ?_
                                        refine lv_sipush (v := 2080) hx hb dX12_yard_323 rfl ?_
                                        refine lv_iload_n hx hb dX12_yard_326 rfl (lv_at hl 0 rfl) ?_
                                        refine lv_iadd hx hb dX12_yard_327 (lv_topi (fun v280 ev280 => ?_))
                                        have ev280i : v280.toInt = (2080 + z271) := i_add ev280 (by decide) ev271 (by omega) (by omega)
                                        refine q_craw E hC272 gca (a := (2080 + z271)) ev280i (by omega) (by omega) dX12_yard_328 (fun v281 ev281 tv281 => ?_)
                                        refine q_cast E hC272 hS272 gca (a := z271) ev271 (by omega) (by omega) (cT_nb (k := z271) rfl rfl (by omega) (by omega) tv281) dX12_yard_329 (fun H282 locs282 hC282 hS282 U282 => ?_)
                                        have hKp282 := Kp.upD gca rfl rfl (fun _ => ⟨fun h => absurd h (by decide), fun h => absurd h (by decide), fun h => absurd h (by decide)⟩) U282 hKp272
                                        have kd2 : KD H0 H282 ca 0 520 := KD.up kd2 U282 (by omega) (by omega)
                                        have tqt : ∀ j, sI H282 tq j = sI H0 tq j := fun j => (up_nI U282 (ne_k gtq gca (by decide))).trans (tqt j)
                                        have n0 : EQ H282 ca 2080 xx := EQ.up n0 U282 ⟨by omega, by omega⟩ (by omega)
                                        have n1 : EQ H282 ca 2081 yy := EQ.up n1 U282 ⟨by omega, by omega⟩ (by omega)
                                        have an : ANC H282 ca b9 kd vl := an.up U282 (by omega)
                                        have m283 : (sI H282 h0 (X.1.2 11 12)).toInt = (sI H272 h0 (X.1.2 11 12)).toInt := congrArg Int32.toInt (up_nI U282 (ne_k g0 gca (by decide)))
                                        have m284 : (sI H282 h0 (X.1.2 11 14)).toInt = (sI H272 h0 (X.1.2 11 14)).toInt := congrArg Int32.toInt (up_nI U282 (ne_k g0 gca (by decide)))
                                        have m285 := congrArg tk m284
                                        have m286 : (sI H282 h0 (X.1.2 11 16)).toInt = (sI H272 h0 (X.1.2 11 16)).toInt := congrArg Int32.toInt (up_nI U282 (ne_k g0 gca (by decide)))
                                        have m287 : (sI H282 h0 (X.1.2 11 8)).toInt = (sI H272 h0 (X.1.2 11 8)).toInt := congrArg Int32.toInt (up_nI U282 (ne_k g0 gca (by decide)))
                                        have m288 : (sI H282 h0 (X.1.2 11 9)).toInt = (sI H272 h0 (X.1.2 11 9)).toInt := congrArg Int32.toInt (up_nI U282 (ne_k g0 gca (by decide)))
                                        have m289 : (sI H282 h0 (X.1.2 11 17)).toInt = (sI H272 h0 (X.1.2 11 17)).toInt := congrArg Int32.toInt (up_nI U282 (ne_k g0 gca (by decide)))
                                        have cpd : CPd H282 ca 2080 0 (z271 + 1) := CPd.step cpd (a := z271) (by omega) U282 ev281 (by omega) (by omega) (by omega)
                                        have e290 := up_I U282
                                        obtain ⟨v291, ev291⟩ : ∃ z, z = v271 + Int32.ofInt 1 := ⟨_, rfl⟩
                                        have ev291i : v291.toInt = (z271 + 1) := i_add ev291 ev271 (by decide) (by omega) (by omega)
                                        refine lv_iinc hx hb dX12_yard_330 hl (k := 0) rfl ev291.symm (by decide) rfl (fun ls hl => ?_)
                                        have hl : lv_has ls 4 [(3, .int v291), (2, .int v50), (0, .ref h0), (1, .int p1)] := hl
                                        refine lv_goto (tgt := 307) hx hb dX12_yard_333 rfl ?_
                                        exact ih272 H282 locs282 v291 ((z271 + 1)) ls (by omega) ev291i (by omega) (by omega) (cpd) (by omega) hC282 hS282 hKp282 kd2 tqt n0 n1 an hl
                                  exact L307 _ H269 locs269 0 0 ls (Nat.lt_succ_self _) (by decide) (by omega) (by omega) (CPd.nil (by omega)) (by omega) hC269 hS269 hKp269 kd2 tqt n0 n1 an hl
                                · refine lv_aload_n hx hb dX12_yard_279 rfl (lv_at hl 2 rfl) ?_
                                  refine q_getC E hC269 g0 fa_RX12_35 uc dX12_yard_280 ?_
                                  refine lv_sipush (v := 2214) hx hb dX12_yard_283 rfl ?_
                                  refine lv_iload_n hx hb dX12_yard_286 rfl (lv_at hl 0 rfl) ?_
                                  refine lv_iadd hx hb dX12_yard_287 (lv_topi (fun v292 ev292 => ?_))
                                  have ev292i : v292.toInt = (2214 + z268) := i_add ev292 (by decide) ev268 (by omega) (by omega)
                                  refine lv_aload_n hx hb dX12_yard_288 rfl (lv_at hl 2 rfl) ?_
                                  refine q_getC E hC269 g0 fa_RX12_35 uc dX12_yard_289 ?_
                                  refine lv_sipush (v := 2142) hx hb dX12_yard_292 rfl ?_
                                  refine lv_iload_n hx hb dX12_yard_295 rfl (lv_at hl 0 rfl) ?_
                                  refine lv_iadd hx hb dX12_yard_296 (lv_topi (fun v293 ev293 => ?_))
                                  have ev293i : v293.toInt = (2142 + z268) := i_add ev293 (by decide) ev268 (by omega) (by omega)
                                  refine q_cald E hC269 (lo := 0) (hi := 99) gca (a := (2142 + z268)) ev293i (by omega) (by omega) (cr_n26 (by omega) (by omega)) dX12_yard_297 (fun v294 ev294 lv294 uv294 => ?_)
                                  have m295 : (sI H269 ca ((2142 + z268) : Int).toNat).toInt = v294.toInt := congrArg Int32.toInt ev294
                                  refine q_cast E hC269 hS269 gca (a := (2214 + z268)) ev292i (by omega) (by omega) (cs_n134 (a := (2214 + z268)) (by omega) (by omega)) dX12_yard_298 (fun H296 locs296 hC296 hS296 U296 => ?_)
                                  have hKp296 := Kp.upD gca rfl rfl (fun _ => ⟨fun h => absurd h (by decide), fun h => absurd h (by decide), fun h => absurd h (by decide)⟩) U296 hKp269
                                  have kdd : KD H0 H296 ca 0 0 := KD.up kdd U296 (by omega) (by omega)
                                  have kd2 : KD H0 H296 ca 0 520 := KD.up kd2 U296 (by omega) (by omega)
                                  have tqt : ∀ j, sI H296 tq j = sI H0 tq j := fun j => (up_nI U296 (ne_k gtq gca (by decide))).trans (tqt j)
                                  have n0 : EQ H296 ca 2080 xx := EQ.up n0 U296 ⟨by omega, by omega⟩ (by omega)
                                  have n1 : EQ H296 ca 2081 yy := EQ.up n1 U296 ⟨by omega, by omega⟩ (by omega)
                                  have an : ANC H296 ca b9 kd vl := an.up U296 (by omega)
                                  have m297 : (sI H296 h0 (X.1.2 11 12)).toInt = (sI H269 h0 (X.1.2 11 12)).toInt := congrArg Int32.toInt (up_nI U296 (ne_k g0 gca (by decide)))
                                  have m298 : (sI H296 h0 (X.1.2 11 14)).toInt = (sI H269 h0 (X.1.2 11 14)).toInt := congrArg Int32.toInt (up_nI U296 (ne_k g0 gca (by decide)))
                                  have m299 := congrArg tk m298
                                  have m300 : (sI H296 h0 (X.1.2 11 16)).toInt = (sI H269 h0 (X.1.2 11 16)).toInt := congrArg Int32.toInt (up_nI U296 (ne_k g0 gca (by decide)))
                                  have m301 : (sI H296 h0 (X.1.2 11 8)).toInt = (sI H269 h0 (X.1.2 11 8)).toInt := congrArg Int32.toInt (up_nI U296 (ne_k g0 gca (by decide)))
                                  have m302 : (sI H296 h0 (X.1.2 11 9)).toInt = (sI H269 h0 (X.1.2 11 9)).toInt := congrArg Int32.toInt (up_nI U296 (ne_k g0 gca (by decide)))
                                  have m303 : (sI H296 h0 (X.1.2 11 17)).toInt = (sI H269 h0 (X.1.2 11 17)).toInt := congrArg Int32.toInt (up_nI U296 (ne_k g0 gca (by decide)))
                                  have e304 := up_I U296
                                  obtain ⟨v305, ev305⟩ : ∃ z, z = v268 + Int32.ofInt 1 := ⟨_, rfl⟩
                                  have ev305i : v305.toInt = (z268 + 1) := i_add ev305 ev268 (by decide) (by omega) (by omega)
                                  refine lv_iinc hx hb dX12_yard_299 hl (k := 0) rfl ev305.symm (by decide) rfl (fun ls hl => ?_)
                                  have hl : lv_has ls 4 [(3, .int v305), (2, .int v50), (0, .ref h0), (1, .int p1)] := hl
                                  refine lv_goto (tgt := 273) hx hb dX12_yard_302 rfl ?_
                                  exact ih269 H296 locs296 v305 ((z268 + 1)) ls (by omega) ev305i (by omega) (by omega) (by omega) hC296 hS296 hKp296 kdd kd2 tqt n0 n1 an hl
                            exact L273 _ H260 locs260 0 0 ls (Nat.lt_succ_self _) (by decide) (by omega) (by omega) (by omega) hC260 hS260 hKp260 kdd kd2 tqt n0 n1 an hl
                          · have hno : ∀ w h, ¬ gYard kd vl w h := (Or.resolve_left hres (fun q => absurd q.1 (by omega))).2
                            clear hres
                            refine q_if_ne hx hb (a := 0) (by decide) (tgt := 271) dX12_yard_266 rfl (fun c306 => absurd c306 (by omega)) (fun c306 => ?_)
                            refine lv_iconst (v := (-1)) hx hb dX12_yard_269 rfl ?_
                            have e307 := (kp_I hp260 g0 (k := 12) rfl (by decide) rfl).trans ev257
                            have m308 : (sI H260 h0 (X.1.2 11 12)).toInt = v257.toInt := (congrArg Int32.toInt e307).trans rfl
                            have hpost : KD H0 H260 ca 0 0 ∨ (KD H0 H260 ca 0 520 ∧ YI H260 ca) := Or.inl kdd
                            have hym : YMR (sI H0 h0 (X.1.2 11 8)).toInt a1 kd vl ((-1) : Int32).toInt (KD H0 H260 ca 0 0) (QYA H260 ca kd vl) := Or.inr ⟨by omega, by omega, Or.inr ⟨hno, by decide, kdd⟩⟩
                            have c309 : ((-1) : Int32).toInt = (-1) := (by decide)
                            exact ret (-1) H260 locs260 _ _ dX12_yard_270 ⟨hKp260, ⟨hpost, by omega, hym⟩⟩ hC260 hS260
                        · obtain ⟨hgh, S, i, f, mc, ym, e91, e92, hga0, hgf, hgt⟩ := yiv.1 (by omega)
                          have hga : IFFP (gAcc kd vl f S i) (gAcc kd vl 1000 (Si0 vl) 5) := hga0
                          clear hga0
                          have mc := mc
                          have ym := ym
                          refine lv_aload_n hx hb dX12_yard_165 rfl (lv_at hl 1 rfl) ?_
                          refine q_getI E hC256 g0 fa_RX12_120 dX12_yard_166 (fun v310 ev310 _ _ => ?_)
                          have m311 : (sI H256 h0 (X.1.2 11 14)).toInt = v310.toInt := (congrArg Int32.toInt ev310).trans rfl
                          refine q_if_eq hx hb (a := v310.toInt) rfl (tgt := 262) dX12_yard_169 rfl (fun c312 => ?_) (fun c312 => ?_)
                          · have hres : RESY kd vl (sI H256 h0 (X.1.2 11 12)).toInt := by by_cases hz9 : (sI H256 h0 (X.1.2 11 12)).toInt = 0 <;> first | exact Or.inr ⟨hz9, yiv.2 hz9⟩ | exact Or.inl ⟨hz9, YIV.fin hgh mc (mc.tok.1.mp (by omega)) hga hgf⟩ | (exfalso; omega)
                            obtain ⟨b9, hb9⟩ : ∃ z, (sI H256 h0 (X.1.2 11 12)).toInt = z := ⟨_, rfl⟩
                            have an : ANC H256 ca b9 kd vl := by first | (have hgt9 := hgt; exact fun _ => YIV.fin2 mc ym (mc.tok.1.mp (by omega)) hgf hgt9) | exact fun q => absurd q (by omega)
                            refine lv_aload_n hx hb dX12_yard_262 rfl (lv_at hl 1 rfl) ?_
                            refine q_goI (q_runV (As := []) (rest := []) E hC256 hS256 (m_X12_isWell l X Γ H256 hC256 h0 g0 ca gca uc) cw_X12_isWell cl_RX12_267 g0 ⟨rfl, rfl⟩ rfl hl.1 rfl (Nat.zero_le _) (by decide) dX12_yard_263) hS256 (fun v313 H313 locs313 hr313 hC313 hS313 => ?_)
                            obtain ⟨hp313, hr313⟩ := hr313
                            have hKp313 := hKp256.tr (hp313.mono rfl)
                            have kdd : KD H0 H313 ca 0 0 := KD.kp kdd hp313 gca rfl rfl
                            have kd2 : KD H0 H313 ca 0 520 := KD.kp kd2 hp313 gca rfl rfl
                            have tqt : ∀ j, sI H313 tq j = sI H0 tq j := fun j => (kp_aI hp313 j gtq rfl rfl).trans (tqt j)
                            have n0 : EQ H313 ca 2080 xx := EQ.kn n0 hp313 gca rfl (by unfold dpn; omega)
                            have n1 : EQ H313 ca 2081 yy := EQ.kn n1 hp313 gca rfl (by unfold dpn; omega)
                            have an : ANC H313 ca b9 kd vl := an.kp hp313 gca rfl
                            have m314 : (sI H313 h0 (X.1.2 11 12)).toInt = (sI H256 h0 (X.1.2 11 12)).toInt := congrArg Int32.toInt (kp_I hp313 g0 (k := 12) rfl (by decide) rfl)
                            have m315 : (sI H313 h0 (X.1.2 11 14)).toInt = (sI H256 h0 (X.1.2 11 14)).toInt := congrArg Int32.toInt (kp_I hp313 g0 (k := 14) rfl (by decide) rfl)
                            have m316 : (sI H313 h0 (X.1.2 11 16)).toInt = (sI H256 h0 (X.1.2 11 16)).toInt := congrArg Int32.toInt (kp_I hp313 g0 (k := 16) rfl (by decide) rfl)
                            have m317 : (sI H313 h0 (X.1.2 11 8)).toInt = (sI H256 h0 (X.1.2 11 8)).toInt := congrArg Int32.toInt (kp_I hp313 g0 (k := 8) rfl (by decide) rfl)
                            have m318 : (sI H313 h0 (X.1.2 11 9)).toInt = (sI H256 h0 (X.1.2 11 9)).toInt := congrArg Int32.toInt (kp_I hp313 g0 (k := 9) rfl (by decide) rfl)
                            have m319 : (sI H313 h0 (X.1.2 11 17)).toInt = (sI H256 h0 (X.1.2 11 17)).toInt := congrArg Int32.toInt (kp_I hp313 g0 (k := 17) rfl (by decide) rfl)
                            rcases hr313 with ⟨rfl, hiw⟩ | ⟨rfl, hiw⟩
                            · have hgy := (Or.resolve_right hres (fun q => absurd q.1 (by omega))).2
                              clear hres
                              have hxx9 := hxy9 (by omega)
                              have hb90 : b9 = 0 := by omega
                              refine q_if_ne hx hb (a := 1) (by decide) (tgt := 271) dX12_yard_266 rfl (fun c320 => ?_) (fun c320 => absurd c320 (by omega))
                              have hxy : 2 ≤ xx ∧ 1 ≤ yy := by omega
                              refine lv_iconst (v := 0) hx hb dX12_yard_271 rfl ?_
                              refine lv_istore_n hx hb dX12_yard_272 rfl hl (by decide) rfl (fun ls hl => ?_)
                              have hl : lv_has ls 4 [(3, .int 0), (2, .int v50), (0, .ref h0), (1, .int p1)] := hl
                              have L273 : ∀ (n322 : Nat) (H322 : Heap) (locs322 : List Loc) (v321 : Int32) (z321 : Int) (ls : Array Slot), (36 - z321).toNat < n322 → v321.toInt = z321 → z321 ≤ 36 → 0 ≤ z321 → (sI H322 h0 (X.1.2 11 8)).toInt = 0 → Conf X Γ H322 → va_S (AΓ Γ) H0 H322 locs322 → Kp X Γ [1, 6, 8, 9, 11, 12, 14, 19, 22, 24, 26, 28, 30, 38] H0 H322 → (KD H0 H322 ca 0 0) → (KD H0 H322 ca 0 520) → (∀ j, sI H322 tq j = sI H0 tq j) → (EQ H322 ca 2080 xx) → (EQ H322 ca 2081 yy) → (ANC H322 ca b9 kd vl) → lv_has ls 4 [(3, .int v321), (2, .int v50), (0, .ref h0), (1, .int p1)] → W p l e (rmL 5) s m args below meth c H322 locs322 0 0 Qz (F0 m 273 ls []) := by
                                intro n322
                                induction n322 with
                                | zero => intro H322 locs322 v321 z321 ls hm322 ev321 iv322_0 iv322_1 iv322_2 hC322 hS322 hKp322 kdd kd2 tqt n0 n1 an hl; exact absurd hm322 (Nat.not_lt_zero _)
                                | succ n322 ih322 =>
                                  intro H322 locs322 v321 z321 ls hm322 ev321 iv322_0 iv322_1 iv322_2 hC322 hS322 hKp322 kdd kd2 tqt n0 n1 an hl
                                  refine lv_iload_n hx hb dX12_yard_273 rfl (lv_at hl 0 rfl) ?_
                                  refine lv_bipush (v := 36) hx hb dX12_yard_274 rfl ?_
                                  refine q_icmp_ge hx hb (a := z321) (b := 36) ev321 (by decide) (tgt := 305) dX12_yard_276 rfl (fun c323 => ?_) (fun c323 => ?_)
                                  · refine lv_iconst (v := 0) hx hb dX12_yard_305 rfl ?_
                                    refine lv_istore_n hx hb dX12_yard_306 rfl hl (by decide) rfl (fun ls hl => ?_)
                                    have hl : lv_has ls 4 [(3, .int 0), (2, .int v50), (0, .ref h0), (1, .int p1)] := hl
                                    have L307 : ∀ (n325 : Nat) (H325 : Heap) (locs325 : List Loc) (v324 : Int32) (z324 : Int) (ls : Array Slot), (520 - z324).toNat < n325 → v324.toInt = z324 → z324 ≤ 520 → 0 ≤ z324 → CPd H325 ca 2080 0 z324 → (sI H325 h0 (X.1.2 11 8)).toInt = 0 → Conf X Γ H325 → va_S (AΓ Γ) H0 H325 locs325 → Kp X Γ [1, 6, 8, 9, 11, 12, 14, 19, 22, 24, 26, 28, 30, 38] H0 H325 → (KD H0 H325 ca 0 520) → (∀ j, sI H325 tq j = sI H0 tq j) → (EQ H325 ca 2080 xx) → (EQ H325 ca 2081 yy) → (ANC H325 ca b9 kd vl) → lv_has ls 4 [(3, .int v324), (2, .int v50), (0, .ref h0), (1, .int p1)] → W p l e (rmL 5) s m args below meth c H325 locs325 0 0 Qz (F0 m 307 ls []) := by
                                      intro n325
                                      induction n325 with
                                      | zero => intro H325 locs325 v324 z324 ls hm325 ev324 iv325_0 iv325_1 iv325_2 iv325_3 hC325 hS325 hKp325 kd2 tqt n0 n1 an hl; exact absurd hm325 (Nat.not_lt_zero _)
                                      | succ n325 ih325 =>
                                        intro H325 locs325 v324 z324 ls hm325 ev324 iv325_0 iv325_1 iv325_2 iv325_3 hC325 hS325 hKp325 kd2 tqt n0 n1 an hl
                                        have cpd := iv325_2
                                        refine lv_iload_n hx hb dX12_yard_307 rfl (lv_at hl 0 rfl) ?_
                                        refine lv_sipush (v := 520) hx hb dX12_yard_308 rfl ?_
                                        refine q_icmp_ge hx hb (a := z324) (b := 520) ev324 (by decide) (tgt := 336) dX12_yard_311 rfl (fun c326 => ?_) (fun c326 => ?_)
                                        · refine lv_aload_n hx hb dX12_yard_336 rfl (lv_at hl 2 rfl) ?_
                                          refine q_getC E hC325 g0 fa_RX12_35 uc dX12_yard_337 ?_
                                          refine lv_iconst (v := 0) hx hb dX12_yard_340 rfl ?_
                                          refine q_cald E hC325 (lo := 0) (hi := 6) gca (a := 0) (show (0 : Int32).toInt = 0 from by decide) (by omega) (by omega) (cr_c0 (by omega) (by omega)) dX12_yard_341 (fun v327 ev327 lv327 uv327 => ?_)
                                          have m328 : (sI H325 ca (0 : Int).toNat).toInt = v327.toInt := congrArg Int32.toInt ev327
                                          refine lv_aload_n hx hb dX12_yard_342 rfl (lv_at hl 2 rfl) ?_
                                          refine q_getC E hC325 g0 fa_RX12_35 uc dX12_yard_343 ?_
                                          refine lv_iconst (v := 1) hx hb dX12_yard_346 rfl ?_
                                          refine q_cald E hC325 (lo := 0) (hi := 6) gca (a := 1) (show (1 : Int32).toInt = 1 from by decide) (by omega) (by omega) (cr_c0 (by omega) (by omega)) dX12_yard_347 (fun v329 ev329 lv329 uv329 => ?_)
                                          have m330 : (sI H325 ca (1 : Int).toNat).toInt = v329.toInt := congrArg Int32.toInt ev329
                                          refine lv_imul hx hb dX12_yard_348 (lv_topi (fun v331 ev331 => ?_))
                                          have h90 : sI H325 ca (0 : Int).toNat = sI H325 ca (2080 : Int).toNat := cpd 0 (by decide) (by omega); have h91 : sI H325 ca (1 : Int).toNat = sI H325 ca (2081 : Int).toNat := cpd 1 (by decide) (by omega); have n09 := n0; unfold EQ at n09; have n19 := n1; unfold EQ at n19; rw [← h90] at n09; rw [← h91] at n19; have hmul := mul_small ev331 (a := vl 1) (b := vl 3) (by omega) (by omega) (gYard_bd hgy)
                                          have hpost : KD H0 H325 ca 0 0 ∨ (KD H0 H325 ca 0 520 ∧ YI H325 ca) := Or.inr ⟨kd2, YI.mk hC325 gca cpd (by omega) n0 n1 hxy⟩
                                          obtain ⟨T9, hfT9, an9⟩ := an hb90
                                          have hym : YMR (sI H0 h0 (X.1.2 11 8)).toInt a1 kd vl (v331 : Int32).toInt (KD H0 H325 ca 0 0) (QYA H325 ca kd vl) := Or.inr ⟨by omega, by omega, Or.inl ⟨vl 1, vl 3, hgy, rfl.trans hmul, T9, hfT9, an9.fin cpd (by omega)⟩⟩
                                          have c332 : v331.toInt = v331.toInt := rfl
                                          exact ret v331 H325 locs325 _ _ dX12_yard_349 ⟨hKp325, ⟨hpost, by omega, hym⟩⟩ hC325 hS325
                                        · refine lv_aload_n hx hb dX12_yard_314 rfl (lv_at hl 2 rfl) ?_
                                          refine q_getC E hC325 g0 fa_RX12_35 uc dX12_yard_315 ?_
                                          refine lv_iload_n hx hb dX12_yard_318 rfl (lv_at hl 0 rfl) ?_
                                          refine lv_aload_n hx hb dX12_yard_319 rfl (lv_at hl 2 rfl) ?_
                                          refine q_getC E hC325 g0 fa_RX12_35 uc dX12_yard_320 ?_
                                          refine lv_sipush (v := 2080) hx hb dX12_yard_323 rfl ?_
                                          refine lv_iload_n hx hb dX12_yard_326 rfl (lv_at hl 0 rfl) ?_
                                          refine lv_iadd hx hb dX12_yard_327 (lv_topi (fun v333 ev333 => ?_))
                                          have ev333i : v333.toInt = (2080 + z324) := i_add ev333 (by decide) ev324 (by omega) (by omega)
                                          refine q_craw E hC325 gca (a := (2080 + z324)) ev333i (by omega) (by omega) dX12_yard_328 (fun v334 ev334 tv334 => ?_)
                                          refine q_cast E hC325 hS325 gca (a := z324) ev324 (by omega) (by omega) (cT_nb (k := z324) rfl rfl (by omega) (by omega) tv334) dX12_yard_329 (fun H335 locs335 hC335 hS335 U335 => ?_)
                                          have hKp335 := Kp.upD gca rfl rfl (fun _ => ⟨fun h => absurd h (by decide), fun h => absurd h (by decide), fun h => absurd h (by decide)⟩) U335 hKp325
                                          have kd2 : KD H0 H335 ca 0 520 := KD.up kd2 U335 (by omega) (by omega)
                                          have tqt : ∀ j, sI H335 tq j = sI H0 tq j := fun j => (up_nI U335 (ne_k gtq gca (by decide))).trans (tqt j)
                                          have n0 : EQ H335 ca 2080 xx := EQ.up n0 U335 ⟨by omega, by omega⟩ (by omega)
                                          have n1 : EQ H335 ca 2081 yy := EQ.up n1 U335 ⟨by omega, by omega⟩ (by omega)
                                          have an : ANC H335 ca b9 kd vl := an.up U335 (by omega)
                                          have m336 : (sI H335 h0 (X.1.2 11 12)).toInt = (sI H325 h0 (X.1.2 11 12)).toInt := congrArg Int32.toInt (up_nI U335 (ne_k g0 gca (by decide)))
                                          have m337 : (sI H335 h0 (X.1.2 11 14)).toInt = (sI H325 h0 (X.1.2 11 14)).toInt := congrArg Int32.toInt (up_nI U335 (ne_k g0 gca (by decide)))
                                          have m338 := congrArg tk m337
                                          have m339 : (sI H335 h0 (X.1.2 11 16)).toInt = (sI H325 h0 (X.1.2 11 16)).toInt := congrArg Int32.toInt (up_nI U335 (ne_k g0 gca (by decide)))
                                          have m340 : (sI H335 h0 (X.1.2 11 8)).toInt = (sI H325 h0 (X.1.2 11 8)).toInt := congrArg Int32.toInt (up_nI U335 (ne_k g0 gca (by decide)))
                                          have m341 : (sI H335 h0 (X.1.2 11 9)).toInt = (sI H325 h0 (X.1.2 11 9)).toInt := congrArg Int32.toInt (up_nI U335 (ne_k g0 gca (by decide)))
                                          have m342 : (sI H335 h0 (X.1.2 11 17)).toInt = (sI H325 h0 (X.1.2 11 17)).toInt := congrArg Int32.toInt (up_nI U335 (ne_k g0 gca (by decide)))
                                          have cpd : CPd H335 ca 2080 0 (z324 + 1) := CPd.step cpd (a := z324) (by omega) U335 ev334 (by omega) (by omega) (by omega)
                                          have e343 := up_I U335
                                          obtain ⟨v344, ev344⟩ : ∃ z, z = v324 + Int32.ofInt 1 := ⟨_, rfl⟩
                                          have ev344i : v344.toInt = (z324 + 1) := i_add ev344 ev324 (by decide) (by omega) (by omega)
                                          refine lv_iinc hx hb dX12_yard_330 hl (k := 0) rfl ev344.symm (by decide) rfl (fun ls hl => ?_)
                                          have hl : lv_has ls 4 [(3, .int v344), (2, .int v50), (0, .ref h0), (1, .int p1)] := hl
                                          refine lv_goto (tgt := 307) hx hb dX12_yard_333 rfl ?_
                                          exact ih325 H335 locs335 v344 ((z324 + 1)) ls (by omega) ev344i (by omega) (by omega) (cpd) (by omega) hC335 hS335 hKp335 kd2 tqt n0 n1 an hl
                                    exact L307 _ H322 locs322 0 0 ls (Nat.lt_succ_self _) (by decide) (by omega) (by omega) (CPd.nil (by omega)) (by omega) hC322 hS322 hKp322 kd2 tqt n0 n1 an hl
                                  · refine lv_aload_n hx hb dX12_yard_279 rfl (lv_at hl 2 rfl) ?_
                                    refine q_getC E hC322 g0 fa_RX12_35 uc dX12_yard_280 ?_
                                    refine lv_sipush (v := 2214) hx hb dX12_yard_283 rfl ?_
                                    refine lv_iload_n hx hb dX12_yard_286 rfl (lv_at hl 0 rfl) ?_
                                    refine lv_iadd hx hb dX12_yard_287 (lv_topi (fun v345 ev345 => ?_))
                                    have ev345i : v345.toInt = (2214 + z321) := i_add ev345 (by decide) ev321 (by omega) (by omega)
                                    refine lv_aload_n hx hb dX12_yard_288 rfl (lv_at hl 2 rfl) ?_
                                    refine q_getC E hC322 g0 fa_RX12_35 uc dX12_yard_289 ?_
                                    refine lv_sipush (v := 2142) hx hb dX12_yard_292 rfl ?_
                                    refine lv_iload_n hx hb dX12_yard_295 rfl (lv_at hl 0 rfl) ?_
                                    refine lv_iadd hx hb dX12_yard_296 (lv_topi (fun v346 ev346 => ?_))
                                    have ev346i : v346.toInt = (2142 + z321) := i_add ev346 (by decide) ev321 (by omega) (by omega)
                                    refine q_cald E hC322 (lo := 0) (hi := 99) gca (a := (2142 + z321)) ev346i (by omega) (by omega) (cr_n26 (by omega) (by omega)) dX12_yard_297 (fun v347 ev347 lv347 uv347 => ?_)
                                    have m348 : (sI H322 ca ((2142 + z321) : Int).toNat).toInt = v347.toInt := congrArg Int32.toInt ev347
                                    refine q_cast E hC322 hS322 gca (a := (2214 + z321)) ev345i (by omega) (by omega) (cs_n134 (a := (2214 + z321)) (by omega) (by omega)) dX12_yard_298 (fun H349 locs349 hC349 hS349 U349 => ?_)
                                    have hKp349 := Kp.upD gca rfl rfl (fun _ => ⟨fun h => absurd h (by decide), fun h => absurd h (by decide), fun h => absurd h (by decide)⟩) U349 hKp322
                                    have kdd : KD H0 H349 ca 0 0 := KD.up kdd U349 (by omega) (by omega)
                                    have kd2 : KD H0 H349 ca 0 520 := KD.up kd2 U349 (by omega) (by omega)
                                    have tqt : ∀ j, sI H349 tq j = sI H0 tq j := fun j => (up_nI U349 (ne_k gtq gca (by decide))).trans (tqt j)
                                    have n0 : EQ H349 ca 2080 xx := EQ.up n0 U349 ⟨by omega, by omega⟩ (by omega)
                                    have n1 : EQ H349 ca 2081 yy := EQ.up n1 U349 ⟨by omega, by omega⟩ (by omega)
                                    have an : ANC H349 ca b9 kd vl := an.up U349 (by omega)
                                    have m350 : (sI H349 h0 (X.1.2 11 12)).toInt = (sI H322 h0 (X.1.2 11 12)).toInt := congrArg Int32.toInt (up_nI U349 (ne_k g0 gca (by decide)))
                                    have m351 : (sI H349 h0 (X.1.2 11 14)).toInt = (sI H322 h0 (X.1.2 11 14)).toInt := congrArg Int32.toInt (up_nI U349 (ne_k g0 gca (by decide)))
                                    have m352 := congrArg tk m351
                                    have m353 : (sI H349 h0 (X.1.2 11 16)).toInt = (sI H322 h0 (X.1.2 11 16)).toInt := congrArg Int32.toInt (up_nI U349 (ne_k g0 gca (by decide)))
                                    have m354 : (sI H349 h0 (X.1.2 11 8)).toInt = (sI H322 h0 (X.1.2 11 8)).toInt := congrArg Int32.toInt (up_nI U349 (ne_k g0 gca (by decide)))
                                    have m355 : (sI H349 h0 (X.1.2 11 9)).toInt = (sI H322 h0 (X.1.2 11 9)).toInt := congrArg Int32.toInt (up_nI U349 (ne_k g0 gca (by decide)))
                                    have m356 : (sI H349 h0 (X.1.2 11 17)).toInt = (sI H322 h0 (X.1.2 11 17)).toInt := congrArg Int32.toInt (up_nI U349 (ne_k g0 gca (by decide)))
                                    have e357 := up_I U349
                                    obtain ⟨v358, ev358⟩ : ∃ z, z = v321 + Int32.ofInt 1 := ⟨_, rfl⟩
                                    have ev358i : v358.toInt = (z321 + 1) := i_add ev358 ev321 (by decide) (by omega) (by omega)
                                    refine lv_iinc hx hb dX12_yard_299 hl (k := 0) rfl ev358.symm (by decide) rfl (fun ls hl => ?_)
                                    have hl : lv_has ls 4 [(3, .int v358), (2, .int v50), (0, .ref h0), (1, .int p1)] := hl
                                    refine lv_goto (tgt := 273) hx hb dX12_yard_302 rfl ?_
                                    exact ih322 H349 locs349 v358 ((z321 + 1)) ls (by omega) ev358i (by omega) (by omega) (by omega) hC349 hS349 hKp349 kdd kd2 tqt n0 n1 an hl
                              exact L273 _ H313 locs313 0 0 ls (Nat.lt_succ_self _) (by decide) (by omega) (by omega) (by omega) hC313 hS313 hKp313 kdd kd2 tqt n0 n1 an hl
                            · have hno : ∀ w h, ¬ gYard kd vl w h := (Or.resolve_left hres (fun q => absurd q.1 (by omega))).2
                              clear hres
                              refine q_if_ne hx hb (a := 0) (by decide) (tgt := 271) dX12_yard_266 rfl (fun c359 => absurd c359 (by omega)) (fun c359 => ?_)
                              refine lv_iconst (v := (-1)) hx hb dX12_yard_269 rfl ?_
                              have e360 := (kp_I hp313 g0 (k := 12) rfl (by decide) rfl).trans ev257
                              have m361 : (sI H313 h0 (X.1.2 11 12)).toInt = v257.toInt := (congrArg Int32.toInt e360).trans rfl
                              have e362 := (kp_I hp313 g0 (k := 14) rfl (by decide) rfl).trans ev310
                              have m363 : (sI H313 h0 (X.1.2 11 14)).toInt = v310.toInt := (congrArg Int32.toInt e362).trans rfl
                              have hpost : KD H0 H313 ca 0 0 ∨ (KD H0 H313 ca 0 520 ∧ YI H313 ca) := Or.inl kdd
                              have hym : YMR (sI H0 h0 (X.1.2 11 8)).toInt a1 kd vl ((-1) : Int32).toInt (KD H0 H313 ca 0 0) (QYA H313 ca kd vl) := Or.inr ⟨by omega, by omega, Or.inr ⟨hno, by decide, kdd⟩⟩
                              have c364 : ((-1) : Int32).toInt = (-1) := (by decide)
                              exact ret (-1) H313 locs313 _ _ dX12_yard_270 ⟨hKp313, ⟨hpost, by omega, hym⟩⟩ hC313 hS313
                          · have hk0 : kd i ≠ 0 := fun q => absurd (mc.tok.1.mpr q) (by omega)
                            have mc9 := mc
                            refine lv_aload_n hx hb dX12_yard_172 rfl (lv_at hl 1 rfl) ?_
                            refine q_goIp (q_runV (As := []) (rest := []) E hC256 hS256 (m_X12_isSchool l X Γ H256 hC256 h0 g0 ca gca uc) cw_X12_isSchool cl_RX12_172 g0 ⟨rfl, rfl⟩ rfl hl.1 rfl (Nat.zero_le _) (by decide) dX12_yard_173) hS256 (fun v365 locs365 hr365 hS365 => ?_)
                            rcases hr365 with ⟨rfl, hw⟩ | ⟨rfl, hw⟩
                            · have hw2 := hw
                              refine q_if_eq hx hb (a := 1) (by decide) (tgt := 186) dX12_yard_176 rfl (fun c366 => absurd c366 (by omega)) (fun c366 => ?_)
                              refine lv_aload_n hx hb dX12_yard_179 rfl (lv_at hl 1 rfl) ?_
                              refine q_goV (q_runV (As := []) (rest := []) E hC256 hS365 (m_X12_readSchool l X Γ H256 hC256 h0 g0 ca gca uc tq ((kp_R hKp256 g0 (ci := 11) (k := 7) rfl (by decide) rfl).trans htq) gtq kd vl w3 pos N _ S mc ym (by omega) ((mc.word (by decide)).mp hw2)) cw_X12_readSchool cl_RX12_258 g0 ⟨rfl, rfl⟩ rfl hl.1 rfl (Nat.zero_le _) (by decide) dX12_yard_180) hS365 (fun H367 locs367 hr367 hC367 hS367 => ?_)
                              obtain ⟨hp367, hr367⟩ := hr367
                              have hKp367 := hKp256.tr (hp367.mono rfl)
                              have kdd : KD H0 H367 ca 0 0 := KD.kp kdd hp367 gca rfl rfl
                              have kd2 : KD H0 H367 ca 0 520 := KD.kp kd2 hp367 gca rfl rfl
                              have tqt : ∀ j, sI H367 tq j = sI H0 tq j := fun j => (kp_aI hp367 j gtq rfl rfl).trans (tqt j)
                              have n0 : EQ H367 ca 2080 xx := EQ.kn n0 hp367 gca rfl (by unfold dpn; omega)
                              have n1 : EQ H367 ca 2081 yy := EQ.kn n1 hp367 gca rfl (by unfold dpn; omega)
                              have m368 : (sI H367 h0 (X.1.2 11 8)).toInt = (sI H256 h0 (X.1.2 11 8)).toInt := congrArg Int32.toInt (kp_I hp367 g0 (k := 8) rfl (by decide) rfl)
                              obtain ⟨f367_0, f367_1, f367_2, f367_3, f367_4⟩ := hr367
                              have hpt := PTR.school f367_4 ((mc9.word (by decide)).mp hw2)
                              refine lv_goto (tgt := 249) hx hb dX12_yard_183 rfl ?_
                              refine lv_aload_n hx hb dX12_yard_249 rfl (lv_at hl 1 rfl) ?_
                              refine lv_aload_n hx hb dX12_yard_250 rfl (lv_at hl 1 rfl) ?_
                              refine lv_bipush (v := 59) hx hb dX12_yard_251 rfl ?_
                              have hz9 := tk_or (sI H367 h0 (X.1.2 11 14)).toInt
                              refine q_goIp (q_runV (As := [.int 59]) (rest := [.ref h0]) E hC367 hS367 (m_X12_isSign l X Γ H367 hC367 h0 g0 59 (a1 := 59) (by decide) ca gca uc) cw_X12_isSign cl_RX12_255 g0 ⟨rfl, rfl⟩ rfl hl.1 rfl (show _ ≤ _ from by simp [Value.category]) (by decide) dX12_yard_253) hS367 (fun v369 locs369 hr369 hS369 => ?_)
                              have hbz : (v369.toInt = 1 ∧ _) ∨ (v369.toInt = 0 ∧ _) := hr369.imp (fun h => ⟨by rw [h.1]; decide, h.2⟩) (fun h => ⟨by rw [h.1]; decide, h.2⟩)
                              have b369 : 0 ≤ v369.toInt ∧ v369.toInt ≤ 1 := by rcases hbz with q | q <;> (have q1 := q.1; omega)
                              clear hr369
                              refine q_goV (q_runV (As := [.int v369]) (rest := []) E hC367 hS369 (m_X12_must l X Γ H367 hC367 h0 g0 v369 (a1 := v369.toInt) rfl ca gca uc tq ((kp_R hKp367 g0 (ci := 11) (k := 7) rfl (by decide) rfl).trans htq) gtq (by omega) (by omega)) cw_X12_must cl_RX12_244 g0 ⟨rfl, rfl⟩ rfl hl.1 rfl (Nat.zero_le _) (by decide) dX12_yard_256) hS369 (fun H370 locs370 hr370 hC370 hS370 => ?_)
                              obtain ⟨hp370, hr370⟩ := hr370
                              have hKp370 := hKp367.tr (hp370.mono rfl)
                              have kdd : KD H0 H370 ca 0 0 := KD.kp kdd hp370 gca rfl rfl
                              have kd2 : KD H0 H370 ca 0 520 := KD.kp kd2 hp370 gca rfl rfl
                              have tqt : ∀ j, sI H370 tq j = sI H0 tq j := fun j => (kp_aI hp370 j gtq rfl rfl).trans (tqt j)
                              have n0 : EQ H370 ca 2080 xx := EQ.kn n0 hp370 gca rfl (by unfold dpn; omega)
                              have n1 : EQ H370 ca 2081 yy := EQ.kn n1 hp370 gca rfl (by unfold dpn; omega)
                              have m371 : (sI H370 h0 (X.1.2 11 8)).toInt = (sI H367 h0 (X.1.2 11 8)).toInt := congrArg Int32.toInt (kp_I hp370 g0 (k := 8) rfl (by decide) rfl)
                              obtain ⟨f370_0, f370_1, f370_2, f370_3, f370_4, f370_5⟩ := hr370
                              have hnx9 := YIV.step hpt hp370 g0 gca hbz f370_5 f370_2 (by omega) rfl rfl hgh hk0 e91 e92 hga hgf hgt mc9.2.1
                              have hl9 : v369.toInt + tk (sI H367 h0 (X.1.2 11 14)).toInt ≤ 1 := by rcases hbz with q | q <;> omega
                              clear hbz
                              clear hz9
                              refine lv_goto (tgt := 158) hx hb dX12_yard_259 rfl ?_
                              exact ih256 H370 locs370 ls (by omega) (by omega) (by omega) (fun q => hxy9 (by omega)) (hnx9) hC370 hS370 hKp370 kdd kd2 tqt n0 n1 hl
                            · have hw2 := hw
                              refine q_if_eq hx hb (a := 0) (by decide) (tgt := 186) dX12_yard_176 rfl (fun c372 => ?_) (fun c372 => absurd c372 (by omega))
                              refine lv_aload_n hx hb dX12_yard_186 rfl (lv_at hl 1 rfl) ?_
                              refine q_goIp (q_runV (As := []) (rest := []) E hC256 hS365 (m_X12_isSnow l X Γ H256 hC256 h0 g0 ca gca uc) cw_X12_isSnow cl_RX12_178 g0 ⟨rfl, rfl⟩ rfl hl.1 rfl (Nat.zero_le _) (by decide) dX12_yard_187) hS365 (fun v373 locs373 hr373 hS373 => ?_)
                              rcases hr373 with ⟨rfl, hw⟩ | ⟨rfl, hw⟩
                              · have hw4 := hw
                                refine q_if_eq hx hb (a := 1) (by decide) (tgt := 201) dX12_yard_190 rfl (fun c374 => absurd c374 (by omega)) (fun c374 => ?_)
                                refine lv_aload_n hx hb dX12_yard_193 rfl (lv_at hl 1 rfl) ?_
                                refine lv_iconst (v := 0) hx hb dX12_yard_194 rfl ?_
                                refine q_goV (q_runV (As := [.int 0]) (rest := []) E hC256 hS373 (m_X12_readCell l X Γ H256 hC256 h0 g0 0 (a1 := 0) (by decide) ca gca uc tq ((kp_R hKp256 g0 (ci := 11) (k := 7) rfl (by decide) rfl).trans htq) gtq kd vl w3 pos N _ S mc ym (by omega) (by first | exact ((mc.word (by decide)).mp hw4).1 | exact ((mc.word (by decide)).mp hw6).1 | exact ((mc.word (by decide)).mp hw8).1) (by omega) (by omega)) cw_X12_readCell cl_RX12_261 g0 ⟨rfl, rfl⟩ rfl hl.1 rfl (Nat.zero_le _) (by decide) dX12_yard_195) hS373 (fun H375 locs375 hr375 hC375 hS375 => ?_)
                                obtain ⟨hp375, hr375⟩ := hr375
                                have hKp375 := hKp256.tr (hp375.mono rfl)
                                have kdd : KD H0 H375 ca 0 0 := KD.kp kdd hp375 gca rfl rfl
                                have kd2 : KD H0 H375 ca 0 520 := KD.kp kd2 hp375 gca rfl rfl
                                have tqt : ∀ j, sI H375 tq j = sI H0 tq j := fun j => (kp_aI hp375 j gtq rfl rfl).trans (tqt j)
                                have n0 : EQ H375 ca 2080 xx := EQ.kn n0 hp375 gca rfl (by unfold dpn; omega)
                                have n1 : EQ H375 ca 2081 yy := EQ.kn n1 hp375 gca rfl (by unfold dpn; omega)
                                have m376 : (sI H375 h0 (X.1.2 11 8)).toInt = (sI H256 h0 (X.1.2 11 8)).toInt := congrArg Int32.toInt (kp_I hp375 g0 (k := 8) rfl (by decide) rfl)
                                obtain ⟨f375_0, f375_1, f375_2, f375_3, f375_4⟩ := hr375
                                have hpt := PTR.cell f375_4 ((mc9.word (by decide)).mp hw4) (Or.inl ⟨rfl, rfl⟩)
                                refine lv_goto (tgt := 249) hx hb dX12_yard_198 rfl ?_
                                refine lv_aload_n hx hb dX12_yard_249 rfl (lv_at hl 1 rfl) ?_
                                refine lv_aload_n hx hb dX12_yard_250 rfl (lv_at hl 1 rfl) ?_
                                refine lv_bipush (v := 59) hx hb dX12_yard_251 rfl ?_
                                have hz9 := tk_or (sI H375 h0 (X.1.2 11 14)).toInt
                                refine q_goIp (q_runV (As := [.int 59]) (rest := [.ref h0]) E hC375 hS375 (m_X12_isSign l X Γ H375 hC375 h0 g0 59 (a1 := 59) (by decide) ca gca uc) cw_X12_isSign cl_RX12_255 g0 ⟨rfl, rfl⟩ rfl hl.1 rfl (show _ ≤ _ from by simp [Value.category]) (by decide) dX12_yard_253) hS375 (fun v377 locs377 hr377 hS377 => ?_)
                                have hbz : (v377.toInt = 1 ∧ _) ∨ (v377.toInt = 0 ∧ _) := hr377.imp (fun h => ⟨by rw [h.1]; decide, h.2⟩) (fun h => ⟨by rw [h.1]; decide, h.2⟩)
                                have b377 : 0 ≤ v377.toInt ∧ v377.toInt ≤ 1 := by rcases hbz with q | q <;> (have q1 := q.1; omega)
                                clear hr377
                                refine q_goV (q_runV (As := [.int v377]) (rest := []) E hC375 hS377 (m_X12_must l X Γ H375 hC375 h0 g0 v377 (a1 := v377.toInt) rfl ca gca uc tq ((kp_R hKp375 g0 (ci := 11) (k := 7) rfl (by decide) rfl).trans htq) gtq (by omega) (by omega)) cw_X12_must cl_RX12_244 g0 ⟨rfl, rfl⟩ rfl hl.1 rfl (Nat.zero_le _) (by decide) dX12_yard_256) hS377 (fun H378 locs378 hr378 hC378 hS378 => ?_)
                                obtain ⟨hp378, hr378⟩ := hr378
                                have hKp378 := hKp375.tr (hp378.mono rfl)
                                have kdd : KD H0 H378 ca 0 0 := KD.kp kdd hp378 gca rfl rfl
                                have kd2 : KD H0 H378 ca 0 520 := KD.kp kd2 hp378 gca rfl rfl
                                have tqt : ∀ j, sI H378 tq j = sI H0 tq j := fun j => (kp_aI hp378 j gtq rfl rfl).trans (tqt j)
                                have n0 : EQ H378 ca 2080 xx := EQ.kn n0 hp378 gca rfl (by unfold dpn; omega)
                                have n1 : EQ H378 ca 2081 yy := EQ.kn n1 hp378 gca rfl (by unfold dpn; omega)
                                have m379 : (sI H378 h0 (X.1.2 11 8)).toInt = (sI H375 h0 (X.1.2 11 8)).toInt := congrArg Int32.toInt (kp_I hp378 g0 (k := 8) rfl (by decide) rfl)
                                obtain ⟨f378_0, f378_1, f378_2, f378_3, f378_4, f378_5⟩ := hr378
                                have hnx9 := YIV.step hpt hp378 g0 gca hbz f378_5 f378_2 (by omega) rfl rfl hgh hk0 e91 e92 hga hgf hgt mc9.2.1
                                have hl9 : v377.toInt + tk (sI H375 h0 (X.1.2 11 14)).toInt ≤ 1 := by rcases hbz with q | q <;> omega
                                clear hbz
                                clear hz9
                                refine lv_goto (tgt := 158) hx hb dX12_yard_259 rfl ?_
                                exact ih256 H378 locs378 ls (by omega) (by omega) (by omega) (fun q => hxy9 (by omega)) (hnx9) hC378 hS378 hKp378 kdd kd2 tqt n0 n1 hl
                              · have hw4 := hw
                                refine q_if_eq hx hb (a := 0) (by decide) (tgt := 201) dX12_yard_190 rfl (fun c380 => ?_) (fun c380 => absurd c380 (by omega))
                                refine lv_aload_n hx hb dX12_yard_201 rfl (lv_at hl 1 rfl) ?_
                                refine q_goIp (q_runV (As := []) (rest := []) E hC256 hS373 (m_X12_isWall l X Γ H256 hC256 h0 g0 ca gca uc) cw_X12_isWall cl_RX12_163 g0 ⟨rfl, rfl⟩ rfl hl.1 rfl (Nat.zero_le _) (by decide) dX12_yard_202) hS373 (fun v381 locs381 hr381 hS381 => ?_)
                                rcases hr381 with ⟨rfl, hw⟩ | ⟨rfl, hw⟩
                                · have hw6 := hw
                                  refine q_if_eq hx hb (a := 1) (by decide) (tgt := 216) dX12_yard_205 rfl (fun c382 => absurd c382 (by omega)) (fun c382 => ?_)
                                  refine lv_aload_n hx hb dX12_yard_208 rfl (lv_at hl 1 rfl) ?_
                                  refine lv_iconst (v := 1) hx hb dX12_yard_209 rfl ?_
                                  refine q_goV (q_runV (As := [.int 1]) (rest := []) E hC256 hS381 (m_X12_readCell l X Γ H256 hC256 h0 g0 1 (a1 := 1) (by decide) ca gca uc tq ((kp_R hKp256 g0 (ci := 11) (k := 7) rfl (by decide) rfl).trans htq) gtq kd vl w3 pos N _ S mc ym (by omega) (by first | exact ((mc.word (by decide)).mp hw4).1 | exact ((mc.word (by decide)).mp hw6).1 | exact ((mc.word (by decide)).mp hw8).1) (by omega) (by omega)) cw_X12_readCell cl_RX12_261 g0 ⟨rfl, rfl⟩ rfl hl.1 rfl (Nat.zero_le _) (by decide) dX12_yard_210) hS381 (fun H383 locs383 hr383 hC383 hS383 => ?_)
                                  obtain ⟨hp383, hr383⟩ := hr383
                                  have hKp383 := hKp256.tr (hp383.mono rfl)
                                  have kdd : KD H0 H383 ca 0 0 := KD.kp kdd hp383 gca rfl rfl
                                  have kd2 : KD H0 H383 ca 0 520 := KD.kp kd2 hp383 gca rfl rfl
                                  have tqt : ∀ j, sI H383 tq j = sI H0 tq j := fun j => (kp_aI hp383 j gtq rfl rfl).trans (tqt j)
                                  have n0 : EQ H383 ca 2080 xx := EQ.kn n0 hp383 gca rfl (by unfold dpn; omega)
                                  have n1 : EQ H383 ca 2081 yy := EQ.kn n1 hp383 gca rfl (by unfold dpn; omega)
                                  have m384 : (sI H383 h0 (X.1.2 11 8)).toInt = (sI H256 h0 (X.1.2 11 8)).toInt := congrArg Int32.toInt (kp_I hp383 g0 (k := 8) rfl (by decide) rfl)
                                  obtain ⟨f383_0, f383_1, f383_2, f383_3, f383_4⟩ := hr383
                                  have hpt := PTR.cell f383_4 ((mc9.word (by decide)).mp hw6) (Or.inr (Or.inl ⟨rfl, rfl⟩))
                                  refine lv_goto (tgt := 249) hx hb dX12_yard_213 rfl ?_
                                  refine lv_aload_n hx hb dX12_yard_249 rfl (lv_at hl 1 rfl) ?_
                                  refine lv_aload_n hx hb dX12_yard_250 rfl (lv_at hl 1 rfl) ?_
                                  refine lv_bipush (v := 59) hx hb dX12_yard_251 rfl ?_
                                  have hz9 := tk_or (sI H383 h0 (X.1.2 11 14)).toInt
                                  refine q_goIp (q_runV (As := [.int 59]) (rest := [.ref h0]) E hC383 hS383 (m_X12_isSign l X Γ H383 hC383 h0 g0 59 (a1 := 59) (by decide) ca gca uc) cw_X12_isSign cl_RX12_255 g0 ⟨rfl, rfl⟩ rfl hl.1 rfl (show _ ≤ _ from by simp [Value.category]) (by decide) dX12_yard_253) hS383 (fun v385 locs385 hr385 hS385 => ?_)
                                  have hbz : (v385.toInt = 1 ∧ _) ∨ (v385.toInt = 0 ∧ _) := hr385.imp (fun h => ⟨by rw [h.1]; decide, h.2⟩) (fun h => ⟨by rw [h.1]; decide, h.2⟩)
                                  have b385 : 0 ≤ v385.toInt ∧ v385.toInt ≤ 1 := by rcases hbz with q | q <;> (have q1 := q.1; omega)
                                  clear hr385
                                  refine q_goV (q_runV (As := [.int v385]) (rest := []) E hC383 hS385 (m_X12_must l X Γ H383 hC383 h0 g0 v385 (a1 := v385.toInt) rfl ca gca uc tq ((kp_R hKp383 g0 (ci := 11) (k := 7) rfl (by decide) rfl).trans htq) gtq (by omega) (by omega)) cw_X12_must cl_RX12_244 g0 ⟨rfl, rfl⟩ rfl hl.1 rfl (Nat.zero_le _) (by decide) dX12_yard_256) hS385 (fun H386 locs386 hr386 hC386 hS386 => ?_)
                                  obtain ⟨hp386, hr386⟩ := hr386
                                  have hKp386 := hKp383.tr (hp386.mono rfl)
                                  have kdd : KD H0 H386 ca 0 0 := KD.kp kdd hp386 gca rfl rfl
                                  have kd2 : KD H0 H386 ca 0 520 := KD.kp kd2 hp386 gca rfl rfl
                                  have tqt : ∀ j, sI H386 tq j = sI H0 tq j := fun j => (kp_aI hp386 j gtq rfl rfl).trans (tqt j)
                                  have n0 : EQ H386 ca 2080 xx := EQ.kn n0 hp386 gca rfl (by unfold dpn; omega)
                                  have n1 : EQ H386 ca 2081 yy := EQ.kn n1 hp386 gca rfl (by unfold dpn; omega)
                                  have m387 : (sI H386 h0 (X.1.2 11 8)).toInt = (sI H383 h0 (X.1.2 11 8)).toInt := congrArg Int32.toInt (kp_I hp386 g0 (k := 8) rfl (by decide) rfl)
                                  obtain ⟨f386_0, f386_1, f386_2, f386_3, f386_4, f386_5⟩ := hr386
                                  have hnx9 := YIV.step hpt hp386 g0 gca hbz f386_5 f386_2 (by omega) rfl rfl hgh hk0 e91 e92 hga hgf hgt mc9.2.1
                                  have hl9 : v385.toInt + tk (sI H383 h0 (X.1.2 11 14)).toInt ≤ 1 := by rcases hbz with q | q <;> omega
                                  clear hbz
                                  clear hz9
                                  refine lv_goto (tgt := 158) hx hb dX12_yard_259 rfl ?_
                                  exact ih256 H386 locs386 ls (by omega) (by omega) (by omega) (fun q => hxy9 (by omega)) (hnx9) hC386 hS386 hKp386 kdd kd2 tqt n0 n1 hl
                                · have hw6 := hw
                                  refine q_if_eq hx hb (a := 0) (by decide) (tgt := 216) dX12_yard_205 rfl (fun c388 => ?_) (fun c388 => absurd c388 (by omega))
                                  refine lv_aload_n hx hb dX12_yard_216 rfl (lv_at hl 1 rfl) ?_
                                  refine q_goIp (q_runV (As := []) (rest := []) E hC256 hS381 (m_X12_isSun l X Γ H256 hC256 h0 g0 ca gca uc) cw_X12_isSun cl_RX12_187 g0 ⟨rfl, rfl⟩ rfl hl.1 rfl (Nat.zero_le _) (by decide) dX12_yard_217) hS381 (fun v389 locs389 hr389 hS389 => ?_)
                                  rcases hr389 with ⟨rfl, hw⟩ | ⟨rfl, hw⟩
                                  · have hw8 := hw
                                    refine q_if_eq hx hb (a := 1) (by decide) (tgt := 231) dX12_yard_220 rfl (fun c390 => absurd c390 (by omega)) (fun c390 => ?_)
                                    refine lv_aload_n hx hb dX12_yard_223 rfl (lv_at hl 1 rfl) ?_
                                    refine lv_iconst (v := 2) hx hb dX12_yard_224 rfl ?_
                                    refine q_goV (q_runV (As := [.int 2]) (rest := []) E hC256 hS389 (m_X12_readCell l X Γ H256 hC256 h0 g0 2 (a1 := 2) (by decide) ca gca uc tq ((kp_R hKp256 g0 (ci := 11) (k := 7) rfl (by decide) rfl).trans htq) gtq kd vl w3 pos N _ S mc ym (by omega) (by first | exact ((mc.word (by decide)).mp hw4).1 | exact ((mc.word (by decide)).mp hw6).1 | exact ((mc.word (by decide)).mp hw8).1) (by omega) (by omega)) cw_X12_readCell cl_RX12_261 g0 ⟨rfl, rfl⟩ rfl hl.1 rfl (Nat.zero_le _) (by decide) dX12_yard_225) hS389 (fun H391 locs391 hr391 hC391 hS391 => ?_)
                                    obtain ⟨hp391, hr391⟩ := hr391
                                    have hKp391 := hKp256.tr (hp391.mono rfl)
                                    have kdd : KD H0 H391 ca 0 0 := KD.kp kdd hp391 gca rfl rfl
                                    have kd2 : KD H0 H391 ca 0 520 := KD.kp kd2 hp391 gca rfl rfl
                                    have tqt : ∀ j, sI H391 tq j = sI H0 tq j := fun j => (kp_aI hp391 j gtq rfl rfl).trans (tqt j)
                                    have n0 : EQ H391 ca 2080 xx := EQ.kn n0 hp391 gca rfl (by unfold dpn; omega)
                                    have n1 : EQ H391 ca 2081 yy := EQ.kn n1 hp391 gca rfl (by unfold dpn; omega)
                                    have m392 : (sI H391 h0 (X.1.2 11 8)).toInt = (sI H256 h0 (X.1.2 11 8)).toInt := congrArg Int32.toInt (kp_I hp391 g0 (k := 8) rfl (by decide) rfl)
                                    obtain ⟨f391_0, f391_1, f391_2, f391_3, f391_4⟩ := hr391
                                    have hpt := PTR.cell f391_4 ((mc9.word (by decide)).mp hw8) (Or.inr (Or.inr ⟨rfl, rfl⟩))
                                    refine lv_goto (tgt := 249) hx hb dX12_yard_228 rfl ?_
                                    refine lv_aload_n hx hb dX12_yard_249 rfl (lv_at hl 1 rfl) ?_
                                    refine lv_aload_n hx hb dX12_yard_250 rfl (lv_at hl 1 rfl) ?_
                                    refine lv_bipush (v := 59) hx hb dX12_yard_251 rfl ?_
                                    have hz9 := tk_or (sI H391 h0 (X.1.2 11 14)).toInt
                                    refine q_goIp (q_runV (As := [.int 59]) (rest := [.ref h0]) E hC391 hS391 (m_X12_isSign l X Γ H391 hC391 h0 g0 59 (a1 := 59) (by decide) ca gca uc) cw_X12_isSign cl_RX12_255 g0 ⟨rfl, rfl⟩ rfl hl.1 rfl (show _ ≤ _ from by simp [Value.category]) (by decide) dX12_yard_253) hS391 (fun v393 locs393 hr393 hS393 => ?_)
                                    have hbz : (v393.toInt = 1 ∧ _) ∨ (v393.toInt = 0 ∧ _) := hr393.imp (fun h => ⟨by rw [h.1]; decide, h.2⟩) (fun h => ⟨by rw [h.1]; decide, h.2⟩)
                                    have b393 : 0 ≤ v393.toInt ∧ v393.toInt ≤ 1 := by rcases hbz with q | q <;> (have q1 := q.1; omega)
                                    clear hr393
                                    refine q_goV (q_runV (As := [.int v393]) (rest := []) E hC391 hS393 (m_X12_must l X Γ H391 hC391 h0 g0 v393 (a1 := v393.toInt) rfl ca gca uc tq ((kp_R hKp391 g0 (ci := 11) (k := 7) rfl (by decide) rfl).trans htq) gtq (by omega) (by omega)) cw_X12_must cl_RX12_244 g0 ⟨rfl, rfl⟩ rfl hl.1 rfl (Nat.zero_le _) (by decide) dX12_yard_256) hS393 (fun H394 locs394 hr394 hC394 hS394 => ?_)
                                    obtain ⟨hp394, hr394⟩ := hr394
                                    have hKp394 := hKp391.tr (hp394.mono rfl)
                                    have kdd : KD H0 H394 ca 0 0 := KD.kp kdd hp394 gca rfl rfl
                                    have kd2 : KD H0 H394 ca 0 520 := KD.kp kd2 hp394 gca rfl rfl
                                    have tqt : ∀ j, sI H394 tq j = sI H0 tq j := fun j => (kp_aI hp394 j gtq rfl rfl).trans (tqt j)
                                    have n0 : EQ H394 ca 2080 xx := EQ.kn n0 hp394 gca rfl (by unfold dpn; omega)
                                    have n1 : EQ H394 ca 2081 yy := EQ.kn n1 hp394 gca rfl (by unfold dpn; omega)
                                    have m395 : (sI H394 h0 (X.1.2 11 8)).toInt = (sI H391 h0 (X.1.2 11 8)).toInt := congrArg Int32.toInt (kp_I hp394 g0 (k := 8) rfl (by decide) rfl)
                                    obtain ⟨f394_0, f394_1, f394_2, f394_3, f394_4, f394_5⟩ := hr394
                                    have hnx9 := YIV.step hpt hp394 g0 gca hbz f394_5 f394_2 (by omega) rfl rfl hgh hk0 e91 e92 hga hgf hgt mc9.2.1
                                    have hl9 : v393.toInt + tk (sI H391 h0 (X.1.2 11 14)).toInt ≤ 1 := by rcases hbz with q | q <;> omega
                                    clear hbz
                                    clear hz9
                                    refine lv_goto (tgt := 158) hx hb dX12_yard_259 rfl ?_
                                    exact ih256 H394 locs394 ls (by omega) (by omega) (by omega) (fun q => hxy9 (by omega)) (hnx9) hC394 hS394 hKp394 kdd kd2 tqt n0 n1 hl
                                  · have hw8 := hw
                                    refine q_if_eq hx hb (a := 0) (by decide) (tgt := 231) dX12_yard_220 rfl (fun c396 => ?_) (fun c396 => absurd c396 (by omega))
                                    refine lv_aload_n hx hb dX12_yard_231 rfl (lv_at hl 1 rfl) ?_
                                    refine q_goIp (q_runV (As := []) (rest := []) E hC256 hS389 (m_X12_isNo l X Γ H256 hC256 h0 g0 ca gca uc) cw_X12_isNo cl_RX12_193 g0 ⟨rfl, rfl⟩ rfl hl.1 rfl (Nat.zero_le _) (by decide) dX12_yard_232) hS389 (fun v397 locs397 hr397 hS397 => ?_)
                                    rcases hr397 with ⟨rfl, hw⟩ | ⟨rfl, hw⟩
                                    · have hw10 := hw
                                      refine q_if_eq hx hb (a := 1) (by decide) (tgt := 245) dX12_yard_235 rfl (fun c398 => absurd c398 (by omega)) (fun c398 => ?_)
                                      refine lv_aload_n hx hb dX12_yard_238 rfl (lv_at hl 1 rfl) ?_
                                      refine q_goV (q_runV (As := []) (rest := []) E hC256 hS397 (m_X12_readArticle l X Γ H256 hC256 h0 g0 ca gca uc tq ((kp_R hKp256 g0 (ci := 11) (k := 7) rfl (by decide) rfl).trans htq) gtq kd vl w3 pos N _ S mc ym (by omega) ((mc.word (by decide)).mp hw10).1) cw_X12_readArticle cl_RX12_264 g0 ⟨rfl, rfl⟩ rfl hl.1 rfl (Nat.zero_le _) (by decide) dX12_yard_239) hS397 (fun H399 locs399 hr399 hC399 hS399 => ?_)
                                      obtain ⟨hp399, hr399⟩ := hr399
                                      have hKp399 := hKp256.tr (hp399.mono rfl)
                                      have kdd : KD H0 H399 ca 0 0 := KD.kp kdd hp399 gca rfl rfl
                                      have kd2 : KD H0 H399 ca 0 520 := KD.kp kd2 hp399 gca rfl rfl
                                      have tqt : ∀ j, sI H399 tq j = sI H0 tq j := fun j => (kp_aI hp399 j gtq rfl rfl).trans (tqt j)
                                      have n0 : EQ H399 ca 2080 xx := EQ.kn n0 hp399 gca rfl (by unfold dpn; omega)
                                      have n1 : EQ H399 ca 2081 yy := EQ.kn n1 hp399 gca rfl (by unfold dpn; omega)
                                      have m400 : (sI H399 h0 (X.1.2 11 8)).toInt = (sI H256 h0 (X.1.2 11 8)).toInt := congrArg Int32.toInt (kp_I hp399 g0 (k := 8) rfl (by decide) rfl)
                                      obtain ⟨f399_0, f399_1, f399_2, f399_3, f399_4⟩ := hr399
                                      have hpt := PTR.art f399_4 ((mc9.word (by decide)).mp hw10)
                                      refine lv_goto (tgt := 249) hx hb dX12_yard_242 rfl ?_
                                      refine lv_aload_n hx hb dX12_yard_249 rfl (lv_at hl 1 rfl) ?_
                                      refine lv_aload_n hx hb dX12_yard_250 rfl (lv_at hl 1 rfl) ?_
                                      refine lv_bipush (v := 59) hx hb dX12_yard_251 rfl ?_
                                      have hz9 := tk_or (sI H399 h0 (X.1.2 11 14)).toInt
                                      refine q_goIp (q_runV (As := [.int 59]) (rest := [.ref h0]) E hC399 hS399 (m_X12_isSign l X Γ H399 hC399 h0 g0 59 (a1 := 59) (by decide) ca gca uc) cw_X12_isSign cl_RX12_255 g0 ⟨rfl, rfl⟩ rfl hl.1 rfl (show _ ≤ _ from by simp [Value.category]) (by decide) dX12_yard_253) hS399 (fun v401 locs401 hr401 hS401 => ?_)
                                      have hbz : (v401.toInt = 1 ∧ _) ∨ (v401.toInt = 0 ∧ _) := hr401.imp (fun h => ⟨by rw [h.1]; decide, h.2⟩) (fun h => ⟨by rw [h.1]; decide, h.2⟩)
                                      have b401 : 0 ≤ v401.toInt ∧ v401.toInt ≤ 1 := by rcases hbz with q | q <;> (have q1 := q.1; omega)
                                      clear hr401
                                      refine q_goV (q_runV (As := [.int v401]) (rest := []) E hC399 hS401 (m_X12_must l X Γ H399 hC399 h0 g0 v401 (a1 := v401.toInt) rfl ca gca uc tq ((kp_R hKp399 g0 (ci := 11) (k := 7) rfl (by decide) rfl).trans htq) gtq (by omega) (by omega)) cw_X12_must cl_RX12_244 g0 ⟨rfl, rfl⟩ rfl hl.1 rfl (Nat.zero_le _) (by decide) dX12_yard_256) hS401 (fun H402 locs402 hr402 hC402 hS402 => ?_)
                                      obtain ⟨hp402, hr402⟩ := hr402
                                      have hKp402 := hKp399.tr (hp402.mono rfl)
                                      have kdd : KD H0 H402 ca 0 0 := KD.kp kdd hp402 gca rfl rfl
                                      have kd2 : KD H0 H402 ca 0 520 := KD.kp kd2 hp402 gca rfl rfl
                                      have tqt : ∀ j, sI H402 tq j = sI H0 tq j := fun j => (kp_aI hp402 j gtq rfl rfl).trans (tqt j)
                                      have n0 : EQ H402 ca 2080 xx := EQ.kn n0 hp402 gca rfl (by unfold dpn; omega)
                                      have n1 : EQ H402 ca 2081 yy := EQ.kn n1 hp402 gca rfl (by unfold dpn; omega)
                                      have m403 : (sI H402 h0 (X.1.2 11 8)).toInt = (sI H399 h0 (X.1.2 11 8)).toInt := congrArg Int32.toInt (kp_I hp402 g0 (k := 8) rfl (by decide) rfl)
                                      obtain ⟨f402_0, f402_1, f402_2, f402_3, f402_4, f402_5⟩ := hr402
                                      have hnx9 := YIV.step hpt hp402 g0 gca hbz f402_5 f402_2 (by omega) rfl rfl hgh hk0 e91 e92 hga hgf hgt mc9.2.1
                                      have hl9 : v401.toInt + tk (sI H399 h0 (X.1.2 11 14)).toInt ≤ 1 := by rcases hbz with q | q <;> omega
                                      clear hbz
                                      clear hz9
                                      refine lv_goto (tgt := 158) hx hb dX12_yard_259 rfl ?_
                                      exact ih256 H402 locs402 ls (by omega) (by omega) (by omega) (fun q => hxy9 (by omega)) (hnx9) hC402 hS402 hKp402 kdd kd2 tqt n0 n1 hl
                                    · have hw10 := hw
                                      refine q_if_eq hx hb (a := 0) (by decide) (tgt := 245) dX12_yard_235 rfl (fun c404 => ?_) (fun c404 => absurd c404 (by omega))
                                      refine lv_aload_n hx hb dX12_yard_245 rfl (lv_at hl 1 rfl) ?_
                                      refine q_goV (q_runV (As := []) (rest := []) E hC256 hS397 (m_X12_wrong l X Γ H256 hC256 h0 g0 ca gca uc) cw_X12_wrong cl_RX12_231 g0 ⟨rfl, rfl⟩ rfl hl.1 rfl (Nat.zero_le _) (by decide) dX12_yard_246) hS397 (fun H405 locs405 hr405 hC405 hS405 => ?_)
                                      obtain ⟨hp405, hr405⟩ := hr405
                                      have hKp405 := hKp256.tr (hp405.mono rfl)
                                      have kdd : KD H0 H405 ca 0 0 := KD.kp kdd hp405 gca rfl rfl
                                      have kd2 : KD H0 H405 ca 0 520 := KD.kp kd2 hp405 gca rfl rfl
                                      have tqt : ∀ j, sI H405 tq j = sI H0 tq j := fun j => (kp_aI hp405 j gtq rfl rfl).trans (tqt j)
                                      have n0 : EQ H405 ca 2080 xx := EQ.kn n0 hp405 gca rfl (by unfold dpn; omega)
                                      have n1 : EQ H405 ca 2081 yy := EQ.kn n1 hp405 gca rfl (by unfold dpn; omega)
                                      have ym := ym.kp hp405 g0 gca rfl rfl
                                      have m406 : (sI H405 h0 (X.1.2 11 8)).toInt = (sI H256 h0 (X.1.2 11 8)).toInt := congrArg Int32.toInt (kp_I hp405 g0 (k := 8) rfl (by decide) rfl)
                                      obtain ⟨f405_0, f405_1, f405_2, f405_3⟩ := hr405
                                      have hpt := PTR.none (H := H405) (Γ := Γ) (ca := ca) (S := S) (by omega) mc9 hw2 hw4 hw6 hw8 hw10
                                      refine lv_aload_n hx hb dX12_yard_249 rfl (lv_at hl 1 rfl) ?_
                                      refine lv_aload_n hx hb dX12_yard_250 rfl (lv_at hl 1 rfl) ?_
                                      refine lv_bipush (v := 59) hx hb dX12_yard_251 rfl ?_
                                      have hz9 := tk_or (sI H405 h0 (X.1.2 11 14)).toInt
                                      refine q_goIp (q_runV (As := [.int 59]) (rest := [.ref h0]) E hC405 hS405 (m_X12_isSign l X Γ H405 hC405 h0 g0 59 (a1 := 59) (by decide) ca gca uc) cw_X12_isSign cl_RX12_255 g0 ⟨rfl, rfl⟩ rfl hl.1 rfl (show _ ≤ _ from by simp [Value.category]) (by decide) dX12_yard_253) hS405 (fun v407 locs407 hr407 hS407 => ?_)
                                      have hbz : (v407.toInt = 1 ∧ _) ∨ (v407.toInt = 0 ∧ _) := hr407.imp (fun h => ⟨by rw [h.1]; decide, h.2⟩) (fun h => ⟨by rw [h.1]; decide, h.2⟩)
                                      have b407 : 0 ≤ v407.toInt ∧ v407.toInt ≤ 1 := by rcases hbz with q | q <;> (have q1 := q.1; omega)
                                      clear hr407
                                      refine q_goV (q_runV (As := [.int v407]) (rest := []) E hC405 hS407 (m_X12_must l X Γ H405 hC405 h0 g0 v407 (a1 := v407.toInt) rfl ca gca uc tq ((kp_R hKp405 g0 (ci := 11) (k := 7) rfl (by decide) rfl).trans htq) gtq (by omega) (by omega)) cw_X12_must cl_RX12_244 g0 ⟨rfl, rfl⟩ rfl hl.1 rfl (Nat.zero_le _) (by decide) dX12_yard_256) hS407 (fun H408 locs408 hr408 hC408 hS408 => ?_)
                                      obtain ⟨hp408, hr408⟩ := hr408
                                      have hKp408 := hKp405.tr (hp408.mono rfl)
                                      have kdd : KD H0 H408 ca 0 0 := KD.kp kdd hp408 gca rfl rfl
                                      have kd2 : KD H0 H408 ca 0 520 := KD.kp kd2 hp408 gca rfl rfl
                                      have tqt : ∀ j, sI H408 tq j = sI H0 tq j := fun j => (kp_aI hp408 j gtq rfl rfl).trans (tqt j)
                                      have n0 : EQ H408 ca 2080 xx := EQ.kn n0 hp408 gca rfl (by unfold dpn; omega)
                                      have n1 : EQ H408 ca 2081 yy := EQ.kn n1 hp408 gca rfl (by unfold dpn; omega)
                                      have m409 : (sI H408 h0 (X.1.2 11 8)).toInt = (sI H405 h0 (X.1.2 11 8)).toInt := congrArg Int32.toInt (kp_I hp408 g0 (k := 8) rfl (by decide) rfl)
                                      obtain ⟨f408_0, f408_1, f408_2, f408_3, f408_4, f408_5⟩ := hr408
                                      have hnx9 := YIV.step hpt hp408 g0 gca hbz f408_5 f408_2 (by omega) rfl rfl hgh hk0 e91 e92 hga hgf hgt mc9.2.1
                                      have hl9 : v407.toInt + tk (sI H405 h0 (X.1.2 11 14)).toInt ≤ 1 := by rcases hbz with q | q <;> omega
                                      clear hbz
                                      clear hz9
                                      refine lv_goto (tgt := 158) hx hb dX12_yard_259 rfl ?_
                                      exact ih256 H408 locs408 ls (by omega) (by omega) (by omega) (fun q => hxy9 (by omega)) (hnx9) hC408 hS408 hKp408 kdd kd2 tqt n0 n1 hl
                    exact L158 903 H254 locs254 ls (by omega) (by omega) (by omega) (fun q => ⟨by first | exact hxv (by omega) | omega, by first | exact hyv (by omega) | omega⟩) (by first | exact YIV.no (by omega) hno | exact YIV.of hd hpar2 hN9) hC254 hS254 hKp254 kdd kd2 tqt n0 n1 hl
                  · have n09 := n0; unfold EQ at n09; have hxv9 := hxv
                    have hno : ∀ w h, ¬ gYard kd vl w h := fun w h q => by have q1 := q.1.2.2.1; have q2 := hxv (by omega); omega
                    refine lv_aload_n hx hb dX12_yard_119 rfl (lv_at hl 1 rfl) ?_
                    refine lv_iconst (v := 4) hx hb dX12_yard_120 rfl ?_
                    refine lv_iload_n hx hb dX12_yard_121 rfl (lv_at hl 0 rfl) ?_
                    refine q_goV (q_runV (As := [.int 4, .int v50]) (rest := []) E hC53 hS53 (m_X12_fail l X Γ H53 hC53 h0 g0 4 (a1 := 4) (by decide) v50 (a2 := v50.toInt) rfl ca gca uc (by omega) (by omega)) cw_X12_fail cl_RX12_224 g0 ⟨rfl, rfl⟩ rfl hl.1 rfl (Nat.zero_le _) (by decide) dX12_yard_122) hS53 (fun H410 locs410 hr410 hC410 hS410 => ?_)
                    obtain ⟨hp410, hr410⟩ := hr410
                    have hKp410 := hKp53.tr (hp410.mono rfl)
                    have kdd : KD H0 H410 ca 0 0 := KD.kp kdd hp410 gca rfl rfl
                    have kd2 : KD H0 H410 ca 0 520 := KD.kp kd2 hp410 gca rfl rfl
                    have tqt : ∀ j, sI H410 tq j = sI H0 tq j := fun j => (kp_aI hp410 j gtq rfl rfl).trans (tqt j)
                    have n0 : EQ H410 ca 2080 xx := EQ.kn n0 hp410 gca rfl (by unfold dpn; omega)
                    have m411 : (sI H410 h0 (X.1.2 11 8)).toInt = (sI H53 h0 (X.1.2 11 8)).toInt := congrArg Int32.toInt (kp_I hp410 g0 (k := 8) rfl (by decide) rfl)
                    obtain ⟨f410_0, f410_1, f410_2, f410_3⟩ := hr410
                    have hd := HD.dead (i := 0) (S := (0, 0, 0, 0, (fun _ _ => 0), fun _ => -1)) (kd := kd) (vl := vl) (w3 := w3) (pos := pos) (N := N) (tq := tq) (ca := ca) (X := X) (Γ := Γ) (H := H410) (r := h0) (by omega)
                    have n09 := n0; unfold EQ at n09
                    have hpar : PARN vl (sI H410 h0 (X.1.2 11 12)).toInt := by by_cases hz9 : (sI H410 h0 (X.1.2 11 12)).toInt = 0; exact Or.inl (by have q2 := hxv (by omega); omega); exact Or.inr hz9
                    refine lv_aload_n hx hb dX12_yard_125 rfl (lv_at hl 1 rfl) ?_
                    refine lv_aload_n hx hb dX12_yard_126 rfl (lv_at hl 1 rfl) ?_
                    refine q_goIp (q_runV (As := []) (rest := [.ref h0]) E hC410 hS410 (m_X12_isHigh l X Γ H410 hC410 h0 g0 ca gca uc) cw_X12_isHigh cl_RX12_169 g0 ⟨rfl, rfl⟩ rfl hl.1 rfl (show _ ≤ _ from by simp [Value.category]) (by decide) dX12_yard_127) hS410 (fun v412 locs412 hr412 hS412 => ?_)
                    have hbz : (v412.toInt = 1 ∧ _) ∨ (v412.toInt = 0 ∧ _) := hr412.imp (fun h => ⟨by rw [h.1]; decide, h.2⟩) (fun h => ⟨by rw [h.1]; decide, h.2⟩)
                    have b412 : 0 ≤ v412.toInt ∧ v412.toInt ≤ 1 := by rcases hbz with q | q <;> (have q1 := q.1; omega)
                    clear hr412
                    refine q_goV (q_runV (As := [.int v412]) (rest := []) E hC410 hS412 (m_X12_must l X Γ H410 hC410 h0 g0 v412 (a1 := v412.toInt) rfl ca gca uc tq ((kp_R hKp410 g0 (ci := 11) (k := 7) rfl (by decide) rfl).trans htq) gtq (by omega) (by omega)) cw_X12_must cl_RX12_244 g0 ⟨rfl, rfl⟩ rfl hl.1 rfl (Nat.zero_le _) (by decide) dX12_yard_130) hS412 (fun H413 locs413 hr413 hC413 hS413 => ?_)
                    obtain ⟨hp413, hr413⟩ := hr413
                    have hKp413 := hKp410.tr (hp413.mono rfl)
                    have kdd : KD H0 H413 ca 0 0 := KD.kp kdd hp413 gca rfl rfl
                    have kd2 : KD H0 H413 ca 0 520 := KD.kp kd2 hp413 gca rfl rfl
                    have tqt : ∀ j, sI H413 tq j = sI H0 tq j := fun j => (kp_aI hp413 j gtq rfl rfl).trans (tqt j)
                    have n0 : EQ H413 ca 2080 xx := EQ.kn n0 hp413 gca rfl (by unfold dpn; omega)
                    have m414 : (sI H413 h0 (X.1.2 11 8)).toInt = (sI H410 h0 (X.1.2 11 8)).toInt := congrArg Int32.toInt (kp_I hp413 g0 (k := 8) rfl (by decide) rfl)
                    obtain ⟨f413_0, f413_1, f413_2, f413_3, f413_4, f413_5⟩ := hr413
                    have hd := HD.must hd hp413 g0 gca (by first | exact hbz | exact Or.inl ⟨rfl, hw⟩ | exact Or.inr ⟨rfl, hw⟩) f413_5 f413_2 (by omega) rfl rfl (by decide)
                    try clear hbz
                    refine lv_aload_n hx hb dX12_yard_133 rfl (lv_at hl 1 rfl) ?_
                    refine q_getC E hC413 g0 fa_RX12_35 uc dX12_yard_134 ?_
                    refine lv_sipush (v := 2081) hx hb dX12_yard_137 rfl ?_
                    refine lv_aload_n hx hb dX12_yard_140 rfl (lv_at hl 1 rfl) ?_
                    refine lv_iconst (v := 1) hx hb dX12_yard_141 rfl ?_
                    refine lv_bipush (v := 6) hx hb dX12_yard_142 rfl ?_
                    refine q_goI (q_runV (As := [.int 1, .int 6]) (rest := [.int 2081, .ref ca]) E hC413 hS413 (m_X12_count l X Γ H413 hC413 h0 g0 1 (a1 := 1) (by decide) 6 (a2 := 6) (by decide) ca gca uc tq ((kp_R hKp413 g0 (ci := 11) (k := 7) rfl (by decide) rfl).trans htq) gtq (by omega) (by omega) (by omega) (by omega)) cw_X12_count cl_RX12_248 g0 ⟨rfl, rfl⟩ rfl hl.1 rfl (show _ ≤ _ from by simp [Value.category]) (by decide) dX12_yard_144) hS413 (fun v415 H415 locs415 hr415 hC415 hS415 => ?_)
                    obtain ⟨hp415, hr415⟩ := hr415
                    have hKp415 := hKp413.tr (hp415.mono rfl)
                    have kdd : KD H0 H415 ca 0 0 := KD.kp kdd hp415 gca rfl rfl
                    have kd2 : KD H0 H415 ca 0 520 := KD.kp kd2 hp415 gca rfl rfl
                    have tqt : ∀ j, sI H415 tq j = sI H0 tq j := fun j => (kp_aI hp415 j gtq rfl rfl).trans (tqt j)
                    have n0 : EQ H415 ca 2080 xx := EQ.kn n0 hp415 gca rfl (by unfold dpn; omega)
                    have m416 : (sI H415 h0 (X.1.2 11 8)).toInt = (sI H413 h0 (X.1.2 11 8)).toInt := congrArg Int32.toInt (kp_I hp415 g0 (k := 8) rfl (by decide) rfl)
                    obtain ⟨f415_0, f415_1, f415_2, f415_3, f415_4, f415_5, f415_6, f415_7, f415_8⟩ := hr415
                    have hdc := HD.count hd hp415 g0 gca f415_8 f415_2 (by omega) rfl rfl
                    have hd := hdc.1
                    have hv2 : IFZ (sI H415 h0 (X.1.2 11 12)).toInt (v415.toInt = vl 3) := by first | exact hdc.2 | exact fun q => absurd q (by omega)
                    clear hdc
                    refine q_cast E hC415 hS415 gca (a := 2081) (show (2081 : Int32).toInt = 2081 from by decide) (by omega) (by omega) (cs_n0 (a := 2081) (b := v415.toInt) (by omega) (by omega) rfl (by omega) (by omega)) dX12_yard_147 (fun H417 locs417 hC417 hS417 U417 => ?_)
                    have hKp417 := Kp.upD gca rfl rfl (fun _ => ⟨fun h => absurd h (by decide), fun h => absurd h (by decide), fun h => absurd h (by decide)⟩) U417 hKp415
                    have kdd : KD H0 H417 ca 0 0 := KD.up kdd U417 (by omega) (by omega)
                    have kd2 : KD H0 H417 ca 0 520 := KD.up kd2 U417 (by omega) (by omega)
                    have tqt : ∀ j, sI H417 tq j = sI H0 tq j := fun j => (up_nI U417 (ne_k gtq gca (by decide))).trans (tqt j)
                    have n0 : EQ H417 ca 2080 xx := EQ.up n0 U417 ⟨by omega, by omega⟩ (by omega)
                    have m418 : (sI H417 h0 (X.1.2 11 12)).toInt = (sI H415 h0 (X.1.2 11 12)).toInt := congrArg Int32.toInt (up_nI U417 (ne_k g0 gca (by decide)))
                    have m419 : (sI H417 h0 (X.1.2 11 14)).toInt = (sI H415 h0 (X.1.2 11 14)).toInt := congrArg Int32.toInt (up_nI U417 (ne_k g0 gca (by decide)))
                    have m420 := congrArg tk m419
                    have m421 : (sI H417 h0 (X.1.2 11 16)).toInt = (sI H415 h0 (X.1.2 11 16)).toInt := congrArg Int32.toInt (up_nI U417 (ne_k g0 gca (by decide)))
                    have m422 : (sI H417 h0 (X.1.2 11 8)).toInt = (sI H415 h0 (X.1.2 11 8)).toInt := congrArg Int32.toInt (up_nI U417 (ne_k g0 gca (by decide)))
                    have m423 : (sI H417 h0 (X.1.2 11 9)).toInt = (sI H415 h0 (X.1.2 11 9)).toInt := congrArg Int32.toInt (up_nI U417 (ne_k g0 gca (by decide)))
                    have m424 : (sI H417 h0 (X.1.2 11 17)).toInt = (sI H415 h0 (X.1.2 11 17)).toInt := congrArg Int32.toInt (up_nI U417 (ne_k g0 gca (by decide)))
                    have hd := HD.map hd (congrArg Int32.toInt (up_nI U417 (ne_k g0 gca (by decide)))) (fun hb0 mc ym => ⟨mc.ne U417 g0 gtq gca (by decide), ym.high U417 g0 gca rfl (z := vl 3) (rfl.trans (hv2 hb0))⟩)
                    obtain ⟨yy, hyy⟩ : ∃ z, v415.toInt = z := ⟨_, rfl⟩
                    have n1 : EQ H417 ca 2081 yy := (congrArg Int32.toInt (up_I U417)).trans (rfl.trans hyy)
                    have hyv : IFZ (sI H417 h0 (X.1.2 11 12)).toInt (yy = vl 3) := fun q => by have := hv2 (by omega); omega
                    have e425 := up_I U417
                    refine lv_aload_n hx hb dX12_yard_148 rfl (lv_at hl 1 rfl) ?_
                    refine lv_aload_n hx hb dX12_yard_149 rfl (lv_at hl 1 rfl) ?_
                    refine lv_bipush (v := 59) hx hb dX12_yard_150 rfl ?_
                    refine q_goIp (q_runV (As := [.int 59]) (rest := [.ref h0]) E hC417 hS417 (m_X12_isSign l X Γ H417 hC417 h0 g0 59 (a1 := 59) (by decide) ca gca uc) cw_X12_isSign cl_RX12_255 g0 ⟨rfl, rfl⟩ rfl hl.1 rfl (show _ ≤ _ from by simp [Value.category]) (by decide) dX12_yard_152) hS417 (fun v426 locs426 hr426 hS426 => ?_)
                    have hbz : (v426.toInt = 1 ∧ _) ∨ (v426.toInt = 0 ∧ _) := hr426.imp (fun h => ⟨by rw [h.1]; decide, h.2⟩) (fun h => ⟨by rw [h.1]; decide, h.2⟩)
                    have b426 : 0 ≤ v426.toInt ∧ v426.toInt ≤ 1 := by rcases hbz with q | q <;> (have q1 := q.1; omega)
                    clear hr426
                    have hb0 := f_bd hC417 g0 (ci := 11) (k := 16) rfl rfl
                    refine q_goV (q_runV (As := [.int v426]) (rest := []) E hC417 hS426 (m_X12_must l X Γ H417 hC417 h0 g0 v426 (a1 := v426.toInt) rfl ca gca uc tq ((kp_R hKp417 g0 (ci := 11) (k := 7) rfl (by decide) rfl).trans htq) gtq (by omega) (by omega)) cw_X12_must cl_RX12_244 g0 ⟨rfl, rfl⟩ rfl hl.1 rfl (Nat.zero_le _) (by decide) dX12_yard_155) hS426 (fun H427 locs427 hr427 hC427 hS427 => ?_)
                    obtain ⟨hp427, hr427⟩ := hr427
                    have hKp427 := hKp417.tr (hp427.mono rfl)
                    have kdd : KD H0 H427 ca 0 0 := KD.kp kdd hp427 gca rfl rfl
                    have kd2 : KD H0 H427 ca 0 520 := KD.kp kd2 hp427 gca rfl rfl
                    have tqt : ∀ j, sI H427 tq j = sI H0 tq j := fun j => (kp_aI hp427 j gtq rfl rfl).trans (tqt j)
                    have n0 : EQ H427 ca 2080 xx := EQ.kn n0 hp427 gca rfl (by unfold dpn; omega)
                    have n1 : EQ H427 ca 2081 yy := EQ.kn n1 hp427 gca rfl (by unfold dpn; omega)
                    have m428 : (sI H427 h0 (X.1.2 11 8)).toInt = (sI H417 h0 (X.1.2 11 8)).toInt := congrArg Int32.toInt (kp_I hp427 g0 (k := 8) rfl (by decide) rfl)
                    obtain ⟨f427_0, f427_1, f427_2, f427_3, f427_4, f427_5⟩ := hr427
                    have hd := HD.sign hd hp427 g0 gca hbz f427_5 f427_2 (by omega) rfl rfl
                    try clear hbz
                    have hpar2 : PARN vl (sI H427 h0 (X.1.2 11 12)).toInt := by rcases hpar with q | q; exact Or.inl q; exact Or.inr (by omega)
                    have L158 : ∀ (n429 : Nat) (H429 : Heap) (locs429 : List Loc) (ls : Array Slot), 0 < n429 ∧ ((sI H429 h0 (X.1.2 11 12)).toInt ≠ 0 ∨ 902 - (sI H429 h0 (X.1.2 11 16)).toInt < n429) → ((sI H429 h0 (X.1.2 11 12)).toInt = 0 → 2 ≤ xx ∧ 1 ≤ yy) → (sI H429 h0 (X.1.2 11 8)).toInt = 0 → XYV (sI H429 h0 (X.1.2 11 12)).toInt xx yy vl → YIV X Γ H429 h0 tq ca kd vl w3 pos N → Conf X Γ H429 → va_S (AΓ Γ) H0 H429 locs429 → Kp X Γ [1, 6, 8, 9, 11, 12, 14, 19, 22, 24, 26, 28, 30, 38] H0 H429 → (KD H0 H429 ca 0 0) → (KD H0 H429 ca 0 520) → (∀ j, sI H429 tq j = sI H0 tq j) → (EQ H429 ca 2080 xx) → (EQ H429 ca 2081 yy) → lv_has ls 4 [(2, .int v50), (0, .ref h0), (1, .int p1)] → W p l e (rmL 5) s m args below meth c H429 locs429 0 0 Qz (F0 m 158 ls []) := by
                      intro n429
                      induction n429 with
                      | zero => intro H429 locs429 ls hm429 iv429_0 iv429_1 iv429_2 iv429_3 hC429 hS429 hKp429 kdd kd2 tqt n0 n1 hl; exact absurd hm429 (by omega)
                      | succ n429 ih429 =>
                        intro H429 locs429 ls hm429 iv429_0 iv429_1 iv429_2 iv429_3 hC429 hS429 hKp429 kdd kd2 tqt n0 n1 hl
                        have hb1 := f_bd hC429 g0 (ci := 11) (k := 16) rfl rfl
                        have hb2 := f_bd hC429 g0 (ci := 11) (k := 12) rfl rfl
                        have yiv := iv429_3
                        have hxy9 := iv429_2
                        refine lv_aload_n hx hb dX12_yard_158 rfl (lv_at hl 1 rfl) ?_
                        refine q_getI E hC429 g0 fa_RX12_218 dX12_yard_159 (fun v430 ev430 lv430 uv430 => ?_)
                        have m431 : (sI H429 h0 (X.1.2 11 12)).toInt = v430.toInt := (congrArg Int32.toInt ev430).trans rfl
                        refine q_if_ne hx hb (a := v430.toInt) rfl (tgt := 262) dX12_yard_162 rfl (fun c432 => ?_) (fun c432 => ?_)
                        · have hres : RESY kd vl (sI H429 h0 (X.1.2 11 12)).toInt := by by_cases hz9 : (sI H429 h0 (X.1.2 11 12)).toInt = 0 <;> first | exact Or.inr ⟨hz9, yiv.2 hz9⟩ | exact Or.inl ⟨hz9, YIV.fin hgh mc (mc.tok.1.mp (by omega)) hga hgf⟩ | (exfalso; omega)
                          obtain ⟨b9, hb9⟩ : ∃ z, (sI H429 h0 (X.1.2 11 12)).toInt = z := ⟨_, rfl⟩
                          have an : ANC H429 ca b9 kd vl := by first | (have hgt9 := hgt; exact fun _ => YIV.fin2 mc ym (mc.tok.1.mp (by omega)) hgf hgt9) | exact fun q => absurd q (by omega)
                          refine lv_aload_n hx hb dX12_yard_262 rfl (lv_at hl 1 rfl) ?_
                          refine q_goI (q_runV (As := []) (rest := []) E hC429 hS429 (m_X12_isWell l X Γ H429 hC429 h0 g0 ca gca uc) cw_X12_isWell cl_RX12_267 g0 ⟨rfl, rfl⟩ rfl hl.1 rfl (Nat.zero_le _) (by decide) dX12_yard_263) hS429 (fun v433 H433 locs433 hr433 hC433 hS433 => ?_)
                          obtain ⟨hp433, hr433⟩ := hr433
                          have hKp433 := hKp429.tr (hp433.mono rfl)
                          have kdd : KD H0 H433 ca 0 0 := KD.kp kdd hp433 gca rfl rfl
                          have kd2 : KD H0 H433 ca 0 520 := KD.kp kd2 hp433 gca rfl rfl
                          have tqt : ∀ j, sI H433 tq j = sI H0 tq j := fun j => (kp_aI hp433 j gtq rfl rfl).trans (tqt j)
                          have n0 : EQ H433 ca 2080 xx := EQ.kn n0 hp433 gca rfl (by unfold dpn; omega)
                          have n1 : EQ H433 ca 2081 yy := EQ.kn n1 hp433 gca rfl (by unfold dpn; omega)
                          have an : ANC H433 ca b9 kd vl := an.kp hp433 gca rfl
                          have m434 : (sI H433 h0 (X.1.2 11 12)).toInt = (sI H429 h0 (X.1.2 11 12)).toInt := congrArg Int32.toInt (kp_I hp433 g0 (k := 12) rfl (by decide) rfl)
                          have m435 : (sI H433 h0 (X.1.2 11 14)).toInt = (sI H429 h0 (X.1.2 11 14)).toInt := congrArg Int32.toInt (kp_I hp433 g0 (k := 14) rfl (by decide) rfl)
                          have m436 : (sI H433 h0 (X.1.2 11 16)).toInt = (sI H429 h0 (X.1.2 11 16)).toInt := congrArg Int32.toInt (kp_I hp433 g0 (k := 16) rfl (by decide) rfl)
                          have m437 : (sI H433 h0 (X.1.2 11 8)).toInt = (sI H429 h0 (X.1.2 11 8)).toInt := congrArg Int32.toInt (kp_I hp433 g0 (k := 8) rfl (by decide) rfl)
                          have m438 : (sI H433 h0 (X.1.2 11 9)).toInt = (sI H429 h0 (X.1.2 11 9)).toInt := congrArg Int32.toInt (kp_I hp433 g0 (k := 9) rfl (by decide) rfl)
                          have m439 : (sI H433 h0 (X.1.2 11 17)).toInt = (sI H429 h0 (X.1.2 11 17)).toInt := congrArg Int32.toInt (kp_I hp433 g0 (k := 17) rfl (by decide) rfl)
                          rcases hr433 with ⟨rfl, hiw⟩ | ⟨rfl, hiw⟩
                          · have hgy := (Or.resolve_right hres (fun q => absurd q.1 (by omega))).2
                            clear hres
                            have hxx9 := hxy9 (by omega)
                            have hb90 : b9 = 0 := by omega
                            refine q_if_ne hx hb (a := 1) (by decide) (tgt := 271) dX12_yard_266 rfl (fun c440 => ?_) (fun c440 => absurd c440 (by omega))
                            have hxy : 2 ≤ xx ∧ 1 ≤ yy := by omega
                            refine lv_iconst (v := 0) hx hb dX12_yard_271 rfl ?_
                            refine lv_istore_n hx hb dX12_yard_272 rfl hl (by decide) rfl (fun ls hl => ?_)
                            have hl : lv_has ls 4 [(3, .int 0), (2, .int v50), (0, .ref h0), (1, .int p1)] := hl
                            have L273 : ∀ (n442 : Nat) (H442 : Heap) (locs442 : List Loc) (v441 : Int32) (z441 : Int) (ls : Array Slot), (36 - z441).toNat < n442 → v441.toInt = z441 → z441 ≤ 36 → 0 ≤ z441 → (sI H442 h0 (X.1.2 11 8)).toInt = 0 → Conf X Γ H442 → va_S (AΓ Γ) H0 H442 locs442 → Kp X Γ [1, 6, 8, 9, 11, 12, 14, 19, 22, 24, 26, 28, 30, 38] H0 H442 → (KD H0 H442 ca 0 0) → (KD H0 H442 ca 0 520) → (∀ j, sI H442 tq j = sI H0 tq j) → (EQ H442 ca 2080 xx) → (EQ H442 ca 2081 yy) → (ANC H442 ca b9 kd vl) → lv_has ls 4 [(3, .int v441), (2, .int v50), (0, .ref h0), (1, .int p1)] → W p l e (rmL 5) s m args below meth c H442 locs442 0 0 Qz (F0 m 273 ls []) := by
                              intro n442
                              induction n442 with
                              | zero => intro H442 locs442 v441 z441 ls hm442 ev441 iv442_0 iv442_1 iv442_2 hC442 hS442 hKp442 kdd kd2 tqt n0 n1 an hl; exact absurd hm442 (Nat.not_lt_zero _)
                              | succ n442 ih442 =>
                                intro H442 locs442 v441 z441 ls hm442 ev441 iv442_0 iv442_1 iv442_2 hC442 hS442 hKp442 kdd kd2 tqt n0 n1 an hl
                                refine lv_iload_n hx hb dX12_yard_273 rfl (lv_at hl 0 rfl) ?_
                                refine lv_bipush (v := 36) hx hb dX12_yard_274 rfl ?_
                                refine q_icmp_ge hx hb (a := z441) (b := 36) ev441 (by decide) (tgt := 305) dX12_yard_276 rfl (fun c443 => ?_) (fun c443 => ?_)
                                · refine lv_iconst (v := 0) hx hb dX12_yard_305 rfl ?_
                                  refine lv_istore_n hx hb dX12_yard_306 rfl hl (by decide) rfl (fun ls hl => ?_)
                                  have hl : lv_has ls 4 [(3, .int 0), (2, .int v50), (0, .ref h0), (1, .int p1)] := hl
                                  have L307 : ∀ (n445 : Nat) (H445 : Heap) (locs445 : List Loc) (v444 : Int32) (z444 : Int) (ls : Array Slot), (520 - z444).toNat < n445 → v444.toInt = z444 → z444 ≤ 520 → 0 ≤ z444 → CPd H445 ca 2080 0 z444 → (sI H445 h0 (X.1.2 11 8)).toInt = 0 → Conf X Γ H445 → va_S (AΓ Γ) H0 H445 locs445 → Kp X Γ [1, 6, 8, 9, 11, 12, 14, 19, 22, 24, 26, 28, 30, 38] H0 H445 → (KD H0 H445 ca 0 520) → (∀ j, sI H445 tq j = sI H0 tq j) → (EQ H445 ca 2080 xx) → (EQ H445 ca 2081 yy) → (ANC H445 ca b9 kd vl) → lv_has ls 4 [(3, .int v444), (2, .int v50), (0, .ref h0), (1, .int p1)] → W p l e (rmL 5) s m args below meth c H445 locs445 0 0 Qz (F0 m 307 ls []) := by
                                    intro n445
                                    induction n445 with
                                    | zero => intro H445 locs445 v444 z444 ls hm445 ev444 iv445_0 iv445_1 iv445_2 iv445_3 hC445 hS445 hKp445 kd2 tqt n0 n1 an hl; exact absurd hm445 (Nat.not_lt_zero _)
                                    | succ n445 ih445 =>
                                      intro H445 locs445 v444 z444 ls hm445 ev444 iv445_0 iv445_1 iv445_2 iv445_3 hC445 hS445 hKp445 kd2 tqt n0 n1 an hl
                                      have cpd := iv445_2
                                      refine lv_iload_n hx hb dX12_yard_307 rfl (lv_at hl 0 rfl) ?_
                                      refine lv_sipush (v := 520) hx hb dX12_yard_308 rfl ?_
                                      refine q_icmp_ge hx hb (a := z444) (b := 520) ev444 (by decide) (tgt := 336) dX12_yard_311 rfl (fun c446 => ?_) (fun c446 => ?_)
                                      · refine lv_aload_n hx hb dX12_yard_336 rfl (lv_at hl 2 rfl) ?_
                                        refine q_getC E hC445 g0 fa_RX12_35 uc dX12_yard_337 ?_
                                        refine lv_iconst (v := 0) hx hb dX12_yard_340 rfl ?_
                                        refine q_cald E hC445 (lo := 0) (hi := 6) gca (a := 0) (show (0 : Int32).toInt = 0 from by decide) (by omega) (by omega) (cr_c0 (by omega) (by omega)) dX12_yard_341 (fun v447 ev447 lv447 uv447 => ?_)
                                        have m448 : (sI H445 ca (0 : Int).toNat).toInt = v447.toInt := congrArg Int32.toInt ev447
                                        refine lv_aload_n hx hb dX12_yard_342 rfl (lv_at hl 2 rfl) ?_
                                        refine q_getC E hC445 g0 fa_RX12_35 uc dX12_yard_343 ?_
                                        refine lv_iconst (v := 1) hx hb dX12_yard_346 rfl ?_
                                        refine q_cald E hC445 (lo := 0) (hi := 6) gca (a := 1) (show (1 : Int32).toInt = 1 from by decide) (by omega) (by omega) (cr_c0 (by omega) (by omega)) dX12_yard_347 (fun v449 ev449 lv449 uv449 => ?_)
                                        have m450 : (sI H445 ca (1 : Int).toNat).toInt = v449.toInt := congrArg Int32.toInt ev449
                                        refine lv_imul hx hb dX12_yard_348 (lv_topi (fun v451 ev451 => ?_))
                                        have h90 : sI H445 ca (0 : Int).toNat = sI H445 ca (2080 : Int).toNat := cpd 0 (by decide) (by omega); have h91 : sI H445 ca (1 : Int).toNat = sI H445 ca (2081 : Int).toNat := cpd 1 (by decide) (by omega); have n09 := n0; unfold EQ at n09; have n19 := n1; unfold EQ at n19; rw [← h90] at n09; rw [← h91] at n19; have hmul := mul_small ev451 (a := vl 1) (b := vl 3) (by omega) (by omega) (gYard_bd hgy)
                                        have hpost : KD H0 H445 ca 0 0 ∨ (KD H0 H445 ca 0 520 ∧ YI H445 ca) := Or.inr ⟨kd2, YI.mk hC445 gca cpd (by omega) n0 n1 hxy⟩
                                        obtain ⟨T9, hfT9, an9⟩ := an hb90
                                        have hym : YMR (sI H0 h0 (X.1.2 11 8)).toInt a1 kd vl (v451 : Int32).toInt (KD H0 H445 ca 0 0) (QYA H445 ca kd vl) := Or.inr ⟨by omega, by omega, Or.inl ⟨vl 1, vl 3, hgy, rfl.trans hmul, T9, hfT9, an9.fin cpd (by omega)⟩⟩
                                        have c452 : v451.toInt = v451.toInt := rfl
                                        exact ret v451 H445 locs445 _ _ dX12_yard_349 ⟨hKp445, ⟨hpost, by omega, hym⟩⟩ hC445 hS445
                                      · refine lv_aload_n hx hb dX12_yard_314 rfl (lv_at hl 2 rfl) ?_
                                        refine q_getC E hC445 g0 fa_RX12_35 uc dX12_yard_315 ?_
                                        refine lv_iload_n hx hb dX12_yard_318 rfl (lv_at hl 0 rfl) ?_
                                        refine lv_aload_n hx hb dX12_yard_319 rfl (lv_at hl 2 rfl) ?_
                                        refine q_getC E hC445 g0 fa_RX12_35 uc dX12_yard_320 ?_
                                        refine lv_sipush (v := 2080) hx hb dX12_yard_323 rfl ?_
                                        refine lv_iload_n hx hb dX12_yard_326 rfl (lv_at hl 0 rfl) ?_
                                        refine lv_iadd hx hb dX12_yard_327 (lv_topi (fun v453 ev453 => ?_))
                                        have ev453i : v453.toInt = (2080 + z444) := i_add ev453 (by decide) ev444 (by omega) (by omega)
                                        refine q_craw E hC445 gca (a := (2080 + z444)) ev453i (by omega) (by omega) dX12_yard_328 (fun v454 ev454 tv454 => ?_)
                                        refine q_cast E hC445 hS445 gca (a := z444) ev444 (by omega) (by omega) (cT_nb (k := z444) rfl rfl (by omega) (by omega) tv454) dX12_yard_329 (fun H455 locs455 hC455 hS455 U455 => ?_)
                                        have hKp455 := Kp.upD gca rfl rfl (fun _ => ⟨fun h => absurd h (by decide), fun h => absurd h (by decide), fun h => absurd h (by decide)⟩) U455 hKp445
                                        have kd2 : KD H0 H455 ca 0 520 := KD.up kd2 U455 (by omega) (by omega)
                                        have tqt : ∀ j, sI H455 tq j = sI H0 tq j := fun j => (up_nI U455 (ne_k gtq gca (by decide))).trans (tqt j)
                                        have n0 : EQ H455 ca 2080 xx := EQ.up n0 U455 ⟨by omega, by omega⟩ (by omega)
                                        have n1 : EQ H455 ca 2081 yy := EQ.up n1 U455 ⟨by omega, by omega⟩ (by omega)
                                        have an : ANC H455 ca b9 kd vl := an.up U455 (by omega)
                                        have m456 : (sI H455 h0 (X.1.2 11 12)).toInt = (sI H445 h0 (X.1.2 11 12)).toInt := congrArg Int32.toInt (up_nI U455 (ne_k g0 gca (by decide)))
                                        have m457 : (sI H455 h0 (X.1.2 11 14)).toInt = (sI H445 h0 (X.1.2 11 14)).toInt := congrArg Int32.toInt (up_nI U455 (ne_k g0 gca (by decide)))
                                        have m458 := congrArg tk m457
                                        have m459 : (sI H455 h0 (X.1.2 11 16)).toInt = (sI H445 h0 (X.1.2 11 16)).toInt := congrArg Int32.toInt (up_nI U455 (ne_k g0 gca (by decide)))
                                        have m460 : (sI H455 h0 (X.1.2 11 8)).toInt = (sI H445 h0 (X.1.2 11 8)).toInt := congrArg Int32.toInt (up_nI U455 (ne_k g0 gca (by decide)))
                                        have m461 : (sI H455 h0 (X.1.2 11 9)).toInt = (sI H445 h0 (X.1.2 11 9)).toInt := congrArg Int32.toInt (up_nI U455 (ne_k g0 gca (by decide)))
                                        have m462 : (sI H455 h0 (X.1.2 11 17)).toInt = (sI H445 h0 (X.1.2 11 17)).toInt := congrArg Int32.toInt (up_nI U455 (ne_k g0 gca (by decide)))
                                        have cpd : CPd H455 ca 2080 0 (z444 + 1) := CPd.step cpd (a := z444) (by omega) U455 ev454 (by omega) (by omega) (by omega)
                                        have e463 := up_I U455
                                        obtain ⟨v464, ev464⟩ : ∃ z, z = v444 + Int32.ofInt 1 := ⟨_, rfl⟩
                                        have ev464i : v464.toInt = (z444 + 1) := i_add ev464 ev444 (by decide) (by omega) (by omega)
                                        refine lv_iinc hx hb dX12_yard_330 hl (k := 0) rfl ev464.symm (by decide) rfl (fun ls hl => ?_)
                                        have hl : lv_has ls 4 [(3, .int v464), (2, .int v50), (0, .ref h0), (1, .int p1)] := hl
                                        refine lv_goto (tgt := 307) hx hb dX12_yard_333 rfl ?_
                                        exact ih445 H455 locs455 v464 ((z444 + 1)) ls (by omega) ev464i (by omega) (by omega) (cpd) (by omega) hC455 hS455 hKp455 kd2 tqt n0 n1 an hl
                                  exact L307 _ H442 locs442 0 0 ls (Nat.lt_succ_self _) (by decide) (by omega) (by omega) (CPd.nil (by omega)) (by omega) hC442 hS442 hKp442 kd2 tqt n0 n1 an hl
                                · refine lv_aload_n hx hb dX12_yard_279 rfl (lv_at hl 2 rfl) ?_
                                  refine q_getC E hC442 g0 fa_RX12_35 uc dX12_yard_280 ?_
                                  refine lv_sipush (v := 2214) hx hb dX12_yard_283 rfl ?_
                                  refine lv_iload_n hx hb dX12_yard_286 rfl (lv_at hl 0 rfl) ?_
                                  refine lv_iadd hx hb dX12_yard_287 (lv_topi (fun v465 ev465 => ?_))
                                  have ev465i : v465.toInt = (2214 + z441) := i_add ev465 (by decide) ev441 (by omega) (by omega)
                                  refine lv_aload_n hx hb dX12_yard_288 rfl (lv_at hl 2 rfl) ?_
                                  refine q_getC E hC442 g0 fa_RX12_35 uc dX12_yard_289 ?_
                                  refine lv_sipush (v := 2142) hx hb dX12_yard_292 rfl ?_
                                  refine lv_iload_n hx hb dX12_yard_295 rfl (lv_at hl 0 rfl) ?_
                                  refine lv_iadd hx hb dX12_yard_296 (lv_topi (fun v466 ev466 => ?_))
                                  have ev466i : v466.toInt = (2142 + z441) := i_add ev466 (by decide) ev441 (by omega) (by omega)
                                  refine q_cald E hC442 (lo := 0) (hi := 99) gca (a := (2142 + z441)) ev466i (by omega) (by omega) (cr_n26 (by omega) (by omega)) dX12_yard_297 (fun v467 ev467 lv467 uv467 => ?_)
                                  have m468 : (sI H442 ca ((2142 + z441) : Int).toNat).toInt = v467.toInt := congrArg Int32.toInt ev467
                                  refine q_cast E hC442 hS442 gca (a := (2214 + z441)) ev465i (by omega) (by omega) (cs_n134 (a := (2214 + z441)) (by omega) (by omega)) dX12_yard_298 (fun H469 locs469 hC469 hS469 U469 => ?_)
                                  have hKp469 := Kp.upD gca rfl rfl (fun _ => ⟨fun h => absurd h (by decide), fun h => absurd h (by decide), fun h => absurd h (by decide)⟩) U469 hKp442
                                  have kdd : KD H0 H469 ca 0 0 := KD.up kdd U469 (by omega) (by omega)
                                  have kd2 : KD H0 H469 ca 0 520 := KD.up kd2 U469 (by omega) (by omega)
                                  have tqt : ∀ j, sI H469 tq j = sI H0 tq j := fun j => (up_nI U469 (ne_k gtq gca (by decide))).trans (tqt j)
                                  have n0 : EQ H469 ca 2080 xx := EQ.up n0 U469 ⟨by omega, by omega⟩ (by omega)
                                  have n1 : EQ H469 ca 2081 yy := EQ.up n1 U469 ⟨by omega, by omega⟩ (by omega)
                                  have an : ANC H469 ca b9 kd vl := an.up U469 (by omega)
                                  have m470 : (sI H469 h0 (X.1.2 11 12)).toInt = (sI H442 h0 (X.1.2 11 12)).toInt := congrArg Int32.toInt (up_nI U469 (ne_k g0 gca (by decide)))
                                  have m471 : (sI H469 h0 (X.1.2 11 14)).toInt = (sI H442 h0 (X.1.2 11 14)).toInt := congrArg Int32.toInt (up_nI U469 (ne_k g0 gca (by decide)))
                                  have m472 := congrArg tk m471
                                  have m473 : (sI H469 h0 (X.1.2 11 16)).toInt = (sI H442 h0 (X.1.2 11 16)).toInt := congrArg Int32.toInt (up_nI U469 (ne_k g0 gca (by decide)))
                                  have m474 : (sI H469 h0 (X.1.2 11 8)).toInt = (sI H442 h0 (X.1.2 11 8)).toInt := congrArg Int32.toInt (up_nI U469 (ne_k g0 gca (by decide)))
                                  have m475 : (sI H469 h0 (X.1.2 11 9)).toInt = (sI H442 h0 (X.1.2 11 9)).toInt := congrArg Int32.toInt (up_nI U469 (ne_k g0 gca (by decide)))
                                  have m476 : (sI H469 h0 (X.1.2 11 17)).toInt = (sI H442 h0 (X.1.2 11 17)).toInt := congrArg Int32.toInt (up_nI U469 (ne_k g0 gca (by decide)))
                                  have e477 := up_I U469
                                  obtain ⟨v478, ev478⟩ : ∃ z, z = v441 + Int32.ofInt 1 := ⟨_, rfl⟩
                                  have ev478i : v478.toInt = (z441 + 1) := i_add ev478 ev441 (by decide) (by omega) (by omega)
                                  refine lv_iinc hx hb dX12_yard_299 hl (k := 0) rfl ev478.symm (by decide) rfl (fun ls hl => ?_)
                                  have hl : lv_has ls 4 [(3, .int v478), (2, .int v50), (0, .ref h0), (1, .int p1)] := hl
                                  refine lv_goto (tgt := 273) hx hb dX12_yard_302 rfl ?_
                                  exact ih442 H469 locs469 v478 ((z441 + 1)) ls (by omega) ev478i (by omega) (by omega) (by omega) hC469 hS469 hKp469 kdd kd2 tqt n0 n1 an hl
                            exact L273 _ H433 locs433 0 0 ls (Nat.lt_succ_self _) (by decide) (by omega) (by omega) (by omega) hC433 hS433 hKp433 kdd kd2 tqt n0 n1 an hl
                          · have hno : ∀ w h, ¬ gYard kd vl w h := (Or.resolve_left hres (fun q => absurd q.1 (by omega))).2
                            clear hres
                            refine q_if_ne hx hb (a := 0) (by decide) (tgt := 271) dX12_yard_266 rfl (fun c479 => absurd c479 (by omega)) (fun c479 => ?_)
                            refine lv_iconst (v := (-1)) hx hb dX12_yard_269 rfl ?_
                            have e480 := (kp_I hp433 g0 (k := 12) rfl (by decide) rfl).trans ev430
                            have m481 : (sI H433 h0 (X.1.2 11 12)).toInt = v430.toInt := (congrArg Int32.toInt e480).trans rfl
                            have hpost : KD H0 H433 ca 0 0 ∨ (KD H0 H433 ca 0 520 ∧ YI H433 ca) := Or.inl kdd
                            have hym : YMR (sI H0 h0 (X.1.2 11 8)).toInt a1 kd vl ((-1) : Int32).toInt (KD H0 H433 ca 0 0) (QYA H433 ca kd vl) := Or.inr ⟨by omega, by omega, Or.inr ⟨hno, by decide, kdd⟩⟩
                            have c482 : ((-1) : Int32).toInt = (-1) := (by decide)
                            exact ret (-1) H433 locs433 _ _ dX12_yard_270 ⟨hKp433, ⟨hpost, by omega, hym⟩⟩ hC433 hS433
                        · obtain ⟨hgh, S, i, f, mc, ym, e91, e92, hga0, hgf, hgt⟩ := yiv.1 (by omega)
                          have hga : IFFP (gAcc kd vl f S i) (gAcc kd vl 1000 (Si0 vl) 5) := hga0
                          clear hga0
                          have mc := mc
                          have ym := ym
                          refine lv_aload_n hx hb dX12_yard_165 rfl (lv_at hl 1 rfl) ?_
                          refine q_getI E hC429 g0 fa_RX12_120 dX12_yard_166 (fun v483 ev483 _ _ => ?_)
                          have m484 : (sI H429 h0 (X.1.2 11 14)).toInt = v483.toInt := (congrArg Int32.toInt ev483).trans rfl
                          refine q_if_eq hx hb (a := v483.toInt) rfl (tgt := 262) dX12_yard_169 rfl (fun c485 => ?_) (fun c485 => ?_)
                          · have hres : RESY kd vl (sI H429 h0 (X.1.2 11 12)).toInt := by by_cases hz9 : (sI H429 h0 (X.1.2 11 12)).toInt = 0 <;> first | exact Or.inr ⟨hz9, yiv.2 hz9⟩ | exact Or.inl ⟨hz9, YIV.fin hgh mc (mc.tok.1.mp (by omega)) hga hgf⟩ | (exfalso; omega)
                            obtain ⟨b9, hb9⟩ : ∃ z, (sI H429 h0 (X.1.2 11 12)).toInt = z := ⟨_, rfl⟩
                            have an : ANC H429 ca b9 kd vl := by first | (have hgt9 := hgt; exact fun _ => YIV.fin2 mc ym (mc.tok.1.mp (by omega)) hgf hgt9) | exact fun q => absurd q (by omega)
                            refine lv_aload_n hx hb dX12_yard_262 rfl (lv_at hl 1 rfl) ?_
                            refine q_goI (q_runV (As := []) (rest := []) E hC429 hS429 (m_X12_isWell l X Γ H429 hC429 h0 g0 ca gca uc) cw_X12_isWell cl_RX12_267 g0 ⟨rfl, rfl⟩ rfl hl.1 rfl (Nat.zero_le _) (by decide) dX12_yard_263) hS429 (fun v486 H486 locs486 hr486 hC486 hS486 => ?_)
                            obtain ⟨hp486, hr486⟩ := hr486
                            have hKp486 := hKp429.tr (hp486.mono rfl)
                            have kdd : KD H0 H486 ca 0 0 := KD.kp kdd hp486 gca rfl rfl
                            have kd2 : KD H0 H486 ca 0 520 := KD.kp kd2 hp486 gca rfl rfl
                            have tqt : ∀ j, sI H486 tq j = sI H0 tq j := fun j => (kp_aI hp486 j gtq rfl rfl).trans (tqt j)
                            have n0 : EQ H486 ca 2080 xx := EQ.kn n0 hp486 gca rfl (by unfold dpn; omega)
                            have n1 : EQ H486 ca 2081 yy := EQ.kn n1 hp486 gca rfl (by unfold dpn; omega)
                            have an : ANC H486 ca b9 kd vl := an.kp hp486 gca rfl
                            have m487 : (sI H486 h0 (X.1.2 11 12)).toInt = (sI H429 h0 (X.1.2 11 12)).toInt := congrArg Int32.toInt (kp_I hp486 g0 (k := 12) rfl (by decide) rfl)
                            have m488 : (sI H486 h0 (X.1.2 11 14)).toInt = (sI H429 h0 (X.1.2 11 14)).toInt := congrArg Int32.toInt (kp_I hp486 g0 (k := 14) rfl (by decide) rfl)
                            have m489 : (sI H486 h0 (X.1.2 11 16)).toInt = (sI H429 h0 (X.1.2 11 16)).toInt := congrArg Int32.toInt (kp_I hp486 g0 (k := 16) rfl (by decide) rfl)
                            have m490 : (sI H486 h0 (X.1.2 11 8)).toInt = (sI H429 h0 (X.1.2 11 8)).toInt := congrArg Int32.toInt (kp_I hp486 g0 (k := 8) rfl (by decide) rfl)
                            have m491 : (sI H486 h0 (X.1.2 11 9)).toInt = (sI H429 h0 (X.1.2 11 9)).toInt := congrArg Int32.toInt (kp_I hp486 g0 (k := 9) rfl (by decide) rfl)
                            have m492 : (sI H486 h0 (X.1.2 11 17)).toInt = (sI H429 h0 (X.1.2 11 17)).toInt := congrArg Int32.toInt (kp_I hp486 g0 (k := 17) rfl (by decide) rfl)
                            rcases hr486 with ⟨rfl, hiw⟩ | ⟨rfl, hiw⟩
                            · have hgy := (Or.resolve_right hres (fun q => absurd q.1 (by omega))).2
                              clear hres
                              have hxx9 := hxy9 (by omega)
                              have hb90 : b9 = 0 := by omega
                              refine q_if_ne hx hb (a := 1) (by decide) (tgt := 271) dX12_yard_266 rfl (fun c493 => ?_) (fun c493 => absurd c493 (by omega))
                              have hxy : 2 ≤ xx ∧ 1 ≤ yy := by omega
                              refine lv_iconst (v := 0) hx hb dX12_yard_271 rfl ?_
                              refine lv_istore_n hx hb dX12_yard_272 rfl hl (by decide) rfl (fun ls hl => ?_)
                              have hl : lv_has ls 4 [(3, .int 0), (2, .int v50), (0, .ref h0), (1, .int p1)] := hl
                              have L273 : ∀ (n495 : Nat) (H495 : Heap) (locs495 : List Loc) (v494 : Int32) (z494 : Int) (ls : Array Slot), (36 - z494).toNat < n495 → v494.toInt = z494 → z494 ≤ 36 → 0 ≤ z494 → (sI H495 h0 (X.1.2 11 8)).toInt = 0 → Conf X Γ H495 → va_S (AΓ Γ) H0 H495 locs495 → Kp X Γ [1, 6, 8, 9, 11, 12, 14, 19, 22, 24, 26, 28, 30, 38] H0 H495 → (KD H0 H495 ca 0 0) → (KD H0 H495 ca 0 520) → (∀ j, sI H495 tq j = sI H0 tq j) → (EQ H495 ca 2080 xx) → (EQ H495 ca 2081 yy) → (ANC H495 ca b9 kd vl) → lv_has ls 4 [(3, .int v494), (2, .int v50), (0, .ref h0), (1, .int p1)] → W p l e (rmL 5) s m args below meth c H495 locs495 0 0 Qz (F0 m 273 ls []) := by
                                intro n495
                                induction n495 with
                                | zero => intro H495 locs495 v494 z494 ls hm495 ev494 iv495_0 iv495_1 iv495_2 hC495 hS495 hKp495 kdd kd2 tqt n0 n1 an hl; exact absurd hm495 (Nat.not_lt_zero _)
                                | succ n495 ih495 =>
                                  intro H495 locs495 v494 z494 ls hm495 ev494 iv495_0 iv495_1 iv495_2 hC495 hS495 hKp495 kdd kd2 tqt n0 n1 an hl
                                  refine lv_iload_n hx hb dX12_yard_273 rfl (lv_at hl 0 rfl) ?_
                                  refine lv_bipush (v := 36) hx hb dX12_yard_274 rfl ?_
                                  refine q_icmp_ge hx hb (a := z494) (b := 36) ev494 (by decide) (tgt := 305) dX12_yard_276 rfl (fun c496 => ?_) (fun c496 => ?_)
                                  · refine lv_iconst (v := 0) hx hb dX12_yard_305 rfl ?_
                                    refine lv_istore_n hx hb dX12_yard_306 rfl hl (by decide) rfl (fun ls hl => ?_)
                                    have hl : lv_has ls 4 [(3, .int 0), (2, .int v50), (0, .ref h0), (1, .int p1)] := hl
                                    have L307 : ∀ (n498 : Nat) (H498 : Heap) (locs498 : List Loc) (v497 : Int32) (z497 : Int) (ls : Array Slot), (520 - z497).toNat < n498 → v497.toInt = z497 → z497 ≤ 520 → 0 ≤ z497 → CPd H498 ca 2080 0 z497 → (sI H498 h0 (X.1.2 11 8)).toInt = 0 → Conf X Γ H498 → va_S (AΓ Γ) H0 H498 locs498 → Kp X Γ [1, 6, 8, 9, 11, 12, 14, 19, 22, 24, 26, 28, 30, 38] H0 H498 → (KD H0 H498 ca 0 520) → (∀ j, sI H498 tq j = sI H0 tq j) → (EQ H498 ca 2080 xx) → (EQ H498 ca 2081 yy) → (ANC H498 ca b9 kd vl) → lv_has ls 4 [(3, .int v497), (2, .int v50), (0, .ref h0), (1, .int p1)] → W p l e (rmL 5) s m args below meth c H498 locs498 0 0 Qz (F0 m 307 ls []) := by
                                      intro n498
                                      induction n498 with
                                      | zero => intro H498 locs498 v497 z497 ls hm498 ev497 iv498_0 iv498_1 iv498_2 iv498_3 hC498 hS498 hKp498 kd2 tqt n0 n1 an hl; exact absurd hm498 (Nat.not_lt_zero _)
                                      | succ n498 ih498 =>
                                        intro H498 locs498 v497 z497 ls hm498 ev497 iv498_0 iv498_1 iv498_2 iv498_3 hC498 hS498 hKp498 kd2 tqt n0 n1 an hl
                                        have cpd := iv498_2
                                        refine lv_iload_n hx hb dX12_yard_307 rfl (lv_at hl 0 rfl) ?_
                                        refine lv_sipush (v := 520) hx hb dX12_yard_308 rfl ?_
                                        refine q_icmp_ge hx hb (a := z497) (b := 520) ev497 (by decide) (tgt := 336) dX12_yard_311 rfl (fun c499 => ?_) (fun c499 => ?_)
                                        · refine lv_aload_n hx hb dX12_yard_336 rfl (lv_at hl 2 rfl) ?_
                                          refine q_getC E hC498 g0 fa_RX12_35 uc dX12_yard_337 ?_
                                          refine lv_iconst (v := 0) hx hb dX12_yard_340 rfl ?_
                                          refine q_cald E hC498 (lo := 0) (hi := 6) gca (a := 0) (show (0 : Int32).toInt = 0 from by decide) (by omega) (by omega) (cr_c0 (by omega) (by omega)) dX12_yard_341 (fun v500 ev500 lv500 uv500 => ?_)
                                          have m501 : (sI H498 ca (0 : Int).toNat).toInt = v500.toInt := congrArg Int32.toInt ev500
                                          refine lv_aload_n hx hb dX12_yard_342 rfl (lv_at hl 2 rfl) ?_
                                          refine q_getC E hC498 g0 fa_RX12_35 uc dX12_yard_343 ?_
                                          refine lv_iconst (v := 1) hx hb dX12_yard_346 rfl ?_
                                          refine q_cald E hC498 (lo := 0) (hi := 6) gca (a := 1) (show (1 : Int32).toInt = 1 from by decide) (by omega) (by omega) (cr_c0 (by omega) (by omega)) dX12_yard_347 (fun v502 ev502 lv502 uv502 => ?_)
                                          have m503 : (sI H498 ca (1 : Int).toNat).toInt = v502.toInt := congrArg Int32.toInt ev502
                                          refine lv_imul hx hb dX12_yard_348 (lv_topi (fun v504 ev504 => ?_))
                                          have h90 : sI H498 ca (0 : Int).toNat = sI H498 ca (2080 : Int).toNat := cpd 0 (by decide) (by omega); have h91 : sI H498 ca (1 : Int).toNat = sI H498 ca (2081 : Int).toNat := cpd 1 (by decide) (by omega); have n09 := n0; unfold EQ at n09; have n19 := n1; unfold EQ at n19; rw [← h90] at n09; rw [← h91] at n19; have hmul := mul_small ev504 (a := vl 1) (b := vl 3) (by omega) (by omega) (gYard_bd hgy)
                                          have hpost : KD H0 H498 ca 0 0 ∨ (KD H0 H498 ca 0 520 ∧ YI H498 ca) := Or.inr ⟨kd2, YI.mk hC498 gca cpd (by omega) n0 n1 hxy⟩
                                          obtain ⟨T9, hfT9, an9⟩ := an hb90
                                          have hym : YMR (sI H0 h0 (X.1.2 11 8)).toInt a1 kd vl (v504 : Int32).toInt (KD H0 H498 ca 0 0) (QYA H498 ca kd vl) := Or.inr ⟨by omega, by omega, Or.inl ⟨vl 1, vl 3, hgy, rfl.trans hmul, T9, hfT9, an9.fin cpd (by omega)⟩⟩
                                          have c505 : v504.toInt = v504.toInt := rfl
                                          exact ret v504 H498 locs498 _ _ dX12_yard_349 ⟨hKp498, ⟨hpost, by omega, hym⟩⟩ hC498 hS498
                                        · refine lv_aload_n hx hb dX12_yard_314 rfl (lv_at hl 2 rfl) ?_
                                          refine q_getC E hC498 g0 fa_RX12_35 uc dX12_yard_315 ?_
                                          refine lv_iload_n hx hb dX12_yard_318 rfl (lv_at hl 0 rfl) ?_
                                          refine lv_aload_n hx hb dX12_yard_319 rfl (lv_at hl 2 rfl) ?_
                                          refine q_getC E hC498 g0 fa_RX12_35 uc dX12_yard_320 ?_
                                          refine lv_sipush (v := 2080) hx hb dX12_yard_323 rfl ?_
                                          refine lv_iload_n hx hb dX12_yard_326 rfl (lv_at hl 0 rfl) ?_
                                          refine lv_iadd hx hb dX12_yard_327 (lv_topi (fun v506 ev506 => ?_))
                                          have ev506i : v506.toInt = (2080 + z497) := i_add ev506 (by decide) ev497 (by omega) (by omega)
                                          refine q_craw E hC498 gca (a := (2080 + z497)) ev506i (by omega) (by omega) dX12_yard_328 (fun v507 ev507 tv507 => ?_)
                                          refine q_cast E hC498 hS498 gca (a := z497) ev497 (by omega) (by omega) (cT_nb (k := z497) rfl rfl (by omega) (by omega) tv507) dX12_yard_329 (fun H508 locs508 hC508 hS508 U508 => ?_)
                                          have hKp508 := Kp.upD gca rfl rfl (fun _ => ⟨fun h => absurd h (by decide), fun h => absurd h (by decide), fun h => absurd h (by decide)⟩) U508 hKp498
                                          have kd2 : KD H0 H508 ca 0 520 := KD.up kd2 U508 (by omega) (by omega)
                                          have tqt : ∀ j, sI H508 tq j = sI H0 tq j := fun j => (up_nI U508 (ne_k gtq gca (by decide))).trans (tqt j)
                                          have n0 : EQ H508 ca 2080 xx := EQ.up n0 U508 ⟨by omega, by omega⟩ (by omega)
                                          have n1 : EQ H508 ca 2081 yy := EQ.up n1 U508 ⟨by omega, by omega⟩ (by omega)
                                          have an : ANC H508 ca b9 kd vl := an.up U508 (by omega)
                                          have m509 : (sI H508 h0 (X.1.2 11 12)).toInt = (sI H498 h0 (X.1.2 11 12)).toInt := congrArg Int32.toInt (up_nI U508 (ne_k g0 gca (by decide)))
                                          have m510 : (sI H508 h0 (X.1.2 11 14)).toInt = (sI H498 h0 (X.1.2 11 14)).toInt := congrArg Int32.toInt (up_nI U508 (ne_k g0 gca (by decide)))
                                          have m511 := congrArg tk m510
                                          have m512 : (sI H508 h0 (X.1.2 11 16)).toInt = (sI H498 h0 (X.1.2 11 16)).toInt := congrArg Int32.toInt (up_nI U508 (ne_k g0 gca (by decide)))
                                          have m513 : (sI H508 h0 (X.1.2 11 8)).toInt = (sI H498 h0 (X.1.2 11 8)).toInt := congrArg Int32.toInt (up_nI U508 (ne_k g0 gca (by decide)))
                                          have m514 : (sI H508 h0 (X.1.2 11 9)).toInt = (sI H498 h0 (X.1.2 11 9)).toInt := congrArg Int32.toInt (up_nI U508 (ne_k g0 gca (by decide)))
                                          have m515 : (sI H508 h0 (X.1.2 11 17)).toInt = (sI H498 h0 (X.1.2 11 17)).toInt := congrArg Int32.toInt (up_nI U508 (ne_k g0 gca (by decide)))
                                          have cpd : CPd H508 ca 2080 0 (z497 + 1) := CPd.step cpd (a := z497) (by omega) U508 ev507 (by omega) (by omega) (by omega)
                                          have e516 := up_I U508
                                          obtain ⟨v517, ev517⟩ : ∃ z, z = v497 + Int32.ofInt 1 := ⟨_, rfl⟩
                                          have ev517i : v517.toInt = (z497 + 1) := i_add ev517 ev497 (by decide) (by omega) (by omega)
                                          refine lv_iinc hx hb dX12_yard_330 hl (k := 0) rfl ev517.symm (by decide) rfl (fun ls hl => ?_)
                                          have hl : lv_has ls 4 [(3, .int v517), (2, .int v50), (0, .ref h0), (1, .int p1)] := hl
                                          refine lv_goto (tgt := 307) hx hb dX12_yard_333 rfl ?_
                                          exact ih498 H508 locs508 v517 ((z497 + 1)) ls (by omega) ev517i (by omega) (by omega) (cpd) (by omega) hC508 hS508 hKp508 kd2 tqt n0 n1 an hl
                                    exact L307 _ H495 locs495 0 0 ls (Nat.lt_succ_self _) (by decide) (by omega) (by omega) (CPd.nil (by omega)) (by omega) hC495 hS495 hKp495 kd2 tqt n0 n1 an hl
                                  · refine lv_aload_n hx hb dX12_yard_279 rfl (lv_at hl 2 rfl) ?_
                                    refine q_getC E hC495 g0 fa_RX12_35 uc dX12_yard_280 ?_
                                    refine lv_sipush (v := 2214) hx hb dX12_yard_283 rfl ?_
                                    refine lv_iload_n hx hb dX12_yard_286 rfl (lv_at hl 0 rfl) ?_
                                    refine lv_iadd hx hb dX12_yard_287 (lv_topi (fun v518 ev518 => ?_))
                                    have ev518i : v518.toInt = (2214 + z494) := i_add ev518 (by decide) ev494 (by omega) (by omega)
                                    refine lv_aload_n hx hb dX12_yard_288 rfl (lv_at hl 2 rfl) ?_
                                    refine q_getC E hC495 g0 fa_RX12_35 uc dX12_yard_289 ?_
                                    refine lv_sipush (v := 2142) hx hb dX12_yard_292 rfl ?_
                                    refine lv_iload_n hx hb dX12_yard_295 rfl (lv_at hl 0 rfl) ?_
                                    refine lv_iadd hx hb dX12_yard_296 (lv_topi (fun v519 ev519 => ?_))
                                    have ev519i : v519.toInt = (2142 + z494) := i_add ev519 (by decide) ev494 (by omega) (by omega)
                                    refine q_cald E hC495 (lo := 0) (hi := 99) gca (a := (2142 + z494)) ev519i (by omega) (by omega) (cr_n26 (by omega) (by omega)) dX12_yard_297 (fun v520 ev520 lv520 uv520 => ?_)
                                    have m521 : (sI H495 ca ((2142 + z494) : Int).toNat).toInt = v520.toInt := congrArg Int32.toInt ev520
                                    refine q_cast E hC495 hS495 gca (a := (2214 + z494)) ev518i (by omega) (by omega) (cs_n134 (a := (2214 + z494)) (by omega) (by omega)) dX12_yard_298 (fun H522 locs522 hC522 hS522 U522 => ?_)
                                    have hKp522 := Kp.upD gca rfl rfl (fun _ => ⟨fun h => absurd h (by decide), fun h => absurd h (by decide), fun h => absurd h (by decide)⟩) U522 hKp495
                                    have kdd : KD H0 H522 ca 0 0 := KD.up kdd U522 (by omega) (by omega)
                                    have kd2 : KD H0 H522 ca 0 520 := KD.up kd2 U522 (by omega) (by omega)
                                    have tqt : ∀ j, sI H522 tq j = sI H0 tq j := fun j => (up_nI U522 (ne_k gtq gca (by decide))).trans (tqt j)
                                    have n0 : EQ H522 ca 2080 xx := EQ.up n0 U522 ⟨by omega, by omega⟩ (by omega)
                                    have n1 : EQ H522 ca 2081 yy := EQ.up n1 U522 ⟨by omega, by omega⟩ (by omega)
                                    have an : ANC H522 ca b9 kd vl := an.up U522 (by omega)
                                    have m523 : (sI H522 h0 (X.1.2 11 12)).toInt = (sI H495 h0 (X.1.2 11 12)).toInt := congrArg Int32.toInt (up_nI U522 (ne_k g0 gca (by decide)))
                                    have m524 : (sI H522 h0 (X.1.2 11 14)).toInt = (sI H495 h0 (X.1.2 11 14)).toInt := congrArg Int32.toInt (up_nI U522 (ne_k g0 gca (by decide)))
                                    have m525 := congrArg tk m524
                                    have m526 : (sI H522 h0 (X.1.2 11 16)).toInt = (sI H495 h0 (X.1.2 11 16)).toInt := congrArg Int32.toInt (up_nI U522 (ne_k g0 gca (by decide)))
                                    have m527 : (sI H522 h0 (X.1.2 11 8)).toInt = (sI H495 h0 (X.1.2 11 8)).toInt := congrArg Int32.toInt (up_nI U522 (ne_k g0 gca (by decide)))
                                    have m528 : (sI H522 h0 (X.1.2 11 9)).toInt = (sI H495 h0 (X.1.2 11 9)).toInt := congrArg Int32.toInt (up_nI U522 (ne_k g0 gca (by decide)))
                                    have m529 : (sI H522 h0 (X.1.2 11 17)).toInt = (sI H495 h0 (X.1.2 11 17)).toInt := congrArg Int32.toInt (up_nI U522 (ne_k g0 gca (by decide)))
                                    have e530 := up_I U522
                                    obtain ⟨v531, ev531⟩ : ∃ z, z = v494 + Int32.ofInt 1 := ⟨_, rfl⟩
                                    have ev531i : v531.toInt = (z494 + 1) := i_add ev531 ev494 (by decide) (by omega) (by omega)
                                    refine lv_iinc hx hb dX12_yard_299 hl (k := 0) rfl ev531.symm (by decide) rfl (fun ls hl => ?_)
                                    have hl : lv_has ls 4 [(3, .int v531), (2, .int v50), (0, .ref h0), (1, .int p1)] := hl
                                    refine lv_goto (tgt := 273) hx hb dX12_yard_302 rfl ?_
                                    exact ih495 H522 locs522 v531 ((z494 + 1)) ls (by omega) ev531i (by omega) (by omega) (by omega) hC522 hS522 hKp522 kdd kd2 tqt n0 n1 an hl
                              exact L273 _ H486 locs486 0 0 ls (Nat.lt_succ_self _) (by decide) (by omega) (by omega) (by omega) hC486 hS486 hKp486 kdd kd2 tqt n0 n1 an hl
                            · have hno : ∀ w h, ¬ gYard kd vl w h := (Or.resolve_left hres (fun q => absurd q.1 (by omega))).2
                              clear hres
                              refine q_if_ne hx hb (a := 0) (by decide) (tgt := 271) dX12_yard_266 rfl (fun c532 => absurd c532 (by omega)) (fun c532 => ?_)
                              refine lv_iconst (v := (-1)) hx hb dX12_yard_269 rfl ?_
                              have e533 := (kp_I hp486 g0 (k := 12) rfl (by decide) rfl).trans ev430
                              have m534 : (sI H486 h0 (X.1.2 11 12)).toInt = v430.toInt := (congrArg Int32.toInt e533).trans rfl
                              have e535 := (kp_I hp486 g0 (k := 14) rfl (by decide) rfl).trans ev483
                              have m536 : (sI H486 h0 (X.1.2 11 14)).toInt = v483.toInt := (congrArg Int32.toInt e535).trans rfl
                              have hpost : KD H0 H486 ca 0 0 ∨ (KD H0 H486 ca 0 520 ∧ YI H486 ca) := Or.inl kdd
                              have hym : YMR (sI H0 h0 (X.1.2 11 8)).toInt a1 kd vl ((-1) : Int32).toInt (KD H0 H486 ca 0 0) (QYA H486 ca kd vl) := Or.inr ⟨by omega, by omega, Or.inr ⟨hno, by decide, kdd⟩⟩
                              have c537 : ((-1) : Int32).toInt = (-1) := (by decide)
                              exact ret (-1) H486 locs486 _ _ dX12_yard_270 ⟨hKp486, ⟨hpost, by omega, hym⟩⟩ hC486 hS486
                          · have hk0 : kd i ≠ 0 := fun q => absurd (mc.tok.1.mpr q) (by omega)
                            have mc9 := mc
                            refine lv_aload_n hx hb dX12_yard_172 rfl (lv_at hl 1 rfl) ?_
                            refine q_goIp (q_runV (As := []) (rest := []) E hC429 hS429 (m_X12_isSchool l X Γ H429 hC429 h0 g0 ca gca uc) cw_X12_isSchool cl_RX12_172 g0 ⟨rfl, rfl⟩ rfl hl.1 rfl (Nat.zero_le _) (by decide) dX12_yard_173) hS429 (fun v538 locs538 hr538 hS538 => ?_)
                            rcases hr538 with ⟨rfl, hw⟩ | ⟨rfl, hw⟩
                            · have hw2 := hw
                              refine q_if_eq hx hb (a := 1) (by decide) (tgt := 186) dX12_yard_176 rfl (fun c539 => absurd c539 (by omega)) (fun c539 => ?_)
                              refine lv_aload_n hx hb dX12_yard_179 rfl (lv_at hl 1 rfl) ?_
                              refine q_goV (q_runV (As := []) (rest := []) E hC429 hS538 (m_X12_readSchool l X Γ H429 hC429 h0 g0 ca gca uc tq ((kp_R hKp429 g0 (ci := 11) (k := 7) rfl (by decide) rfl).trans htq) gtq kd vl w3 pos N _ S mc ym (by omega) ((mc.word (by decide)).mp hw2)) cw_X12_readSchool cl_RX12_258 g0 ⟨rfl, rfl⟩ rfl hl.1 rfl (Nat.zero_le _) (by decide) dX12_yard_180) hS538 (fun H540 locs540 hr540 hC540 hS540 => ?_)
                              obtain ⟨hp540, hr540⟩ := hr540
                              have hKp540 := hKp429.tr (hp540.mono rfl)
                              have kdd : KD H0 H540 ca 0 0 := KD.kp kdd hp540 gca rfl rfl
                              have kd2 : KD H0 H540 ca 0 520 := KD.kp kd2 hp540 gca rfl rfl
                              have tqt : ∀ j, sI H540 tq j = sI H0 tq j := fun j => (kp_aI hp540 j gtq rfl rfl).trans (tqt j)
                              have n0 : EQ H540 ca 2080 xx := EQ.kn n0 hp540 gca rfl (by unfold dpn; omega)
                              have n1 : EQ H540 ca 2081 yy := EQ.kn n1 hp540 gca rfl (by unfold dpn; omega)
                              have m541 : (sI H540 h0 (X.1.2 11 8)).toInt = (sI H429 h0 (X.1.2 11 8)).toInt := congrArg Int32.toInt (kp_I hp540 g0 (k := 8) rfl (by decide) rfl)
                              obtain ⟨f540_0, f540_1, f540_2, f540_3, f540_4⟩ := hr540
                              have hpt := PTR.school f540_4 ((mc9.word (by decide)).mp hw2)
                              refine lv_goto (tgt := 249) hx hb dX12_yard_183 rfl ?_
                              refine lv_aload_n hx hb dX12_yard_249 rfl (lv_at hl 1 rfl) ?_
                              refine lv_aload_n hx hb dX12_yard_250 rfl (lv_at hl 1 rfl) ?_
                              refine lv_bipush (v := 59) hx hb dX12_yard_251 rfl ?_
                              have hz9 := tk_or (sI H540 h0 (X.1.2 11 14)).toInt
                              refine q_goIp (q_runV (As := [.int 59]) (rest := [.ref h0]) E hC540 hS540 (m_X12_isSign l X Γ H540 hC540 h0 g0 59 (a1 := 59) (by decide) ca gca uc) cw_X12_isSign cl_RX12_255 g0 ⟨rfl, rfl⟩ rfl hl.1 rfl (show _ ≤ _ from by simp [Value.category]) (by decide) dX12_yard_253) hS540 (fun v542 locs542 hr542 hS542 => ?_)
                              have hbz : (v542.toInt = 1 ∧ _) ∨ (v542.toInt = 0 ∧ _) := hr542.imp (fun h => ⟨by rw [h.1]; decide, h.2⟩) (fun h => ⟨by rw [h.1]; decide, h.2⟩)
                              have b542 : 0 ≤ v542.toInt ∧ v542.toInt ≤ 1 := by rcases hbz with q | q <;> (have q1 := q.1; omega)
                              clear hr542
                              refine q_goV (q_runV (As := [.int v542]) (rest := []) E hC540 hS542 (m_X12_must l X Γ H540 hC540 h0 g0 v542 (a1 := v542.toInt) rfl ca gca uc tq ((kp_R hKp540 g0 (ci := 11) (k := 7) rfl (by decide) rfl).trans htq) gtq (by omega) (by omega)) cw_X12_must cl_RX12_244 g0 ⟨rfl, rfl⟩ rfl hl.1 rfl (Nat.zero_le _) (by decide) dX12_yard_256) hS542 (fun H543 locs543 hr543 hC543 hS543 => ?_)
                              obtain ⟨hp543, hr543⟩ := hr543
                              have hKp543 := hKp540.tr (hp543.mono rfl)
                              have kdd : KD H0 H543 ca 0 0 := KD.kp kdd hp543 gca rfl rfl
                              have kd2 : KD H0 H543 ca 0 520 := KD.kp kd2 hp543 gca rfl rfl
                              have tqt : ∀ j, sI H543 tq j = sI H0 tq j := fun j => (kp_aI hp543 j gtq rfl rfl).trans (tqt j)
                              have n0 : EQ H543 ca 2080 xx := EQ.kn n0 hp543 gca rfl (by unfold dpn; omega)
                              have n1 : EQ H543 ca 2081 yy := EQ.kn n1 hp543 gca rfl (by unfold dpn; omega)
                              have m544 : (sI H543 h0 (X.1.2 11 8)).toInt = (sI H540 h0 (X.1.2 11 8)).toInt := congrArg Int32.toInt (kp_I hp543 g0 (k := 8) rfl (by decide) rfl)
                              obtain ⟨f543_0, f543_1, f543_2, f543_3, f543_4, f543_5⟩ := hr543
                              have hnx9 := YIV.step hpt hp543 g0 gca hbz f543_5 f543_2 (by omega) rfl rfl hgh hk0 e91 e92 hga hgf hgt mc9.2.1
                              have hl9 : v542.toInt + tk (sI H540 h0 (X.1.2 11 14)).toInt ≤ 1 := by rcases hbz with q | q <;> omega
                              clear hbz
                              clear hz9
                              refine lv_goto (tgt := 158) hx hb dX12_yard_259 rfl ?_
                              exact ih429 H543 locs543 ls (by omega) (by omega) (by omega) (fun q => hxy9 (by omega)) (hnx9) hC543 hS543 hKp543 kdd kd2 tqt n0 n1 hl
                            · have hw2 := hw
                              refine q_if_eq hx hb (a := 0) (by decide) (tgt := 186) dX12_yard_176 rfl (fun c545 => ?_) (fun c545 => absurd c545 (by omega))
                              refine lv_aload_n hx hb dX12_yard_186 rfl (lv_at hl 1 rfl) ?_
                              refine q_goIp (q_runV (As := []) (rest := []) E hC429 hS538 (m_X12_isSnow l X Γ H429 hC429 h0 g0 ca gca uc) cw_X12_isSnow cl_RX12_178 g0 ⟨rfl, rfl⟩ rfl hl.1 rfl (Nat.zero_le _) (by decide) dX12_yard_187) hS538 (fun v546 locs546 hr546 hS546 => ?_)
                              rcases hr546 with ⟨rfl, hw⟩ | ⟨rfl, hw⟩
                              · have hw4 := hw
                                refine q_if_eq hx hb (a := 1) (by decide) (tgt := 201) dX12_yard_190 rfl (fun c547 => absurd c547 (by omega)) (fun c547 => ?_)
                                refine lv_aload_n hx hb dX12_yard_193 rfl (lv_at hl 1 rfl) ?_
                                refine lv_iconst (v := 0) hx hb dX12_yard_194 rfl ?_
                                refine q_goV (q_runV (As := [.int 0]) (rest := []) E hC429 hS546 (m_X12_readCell l X Γ H429 hC429 h0 g0 0 (a1 := 0) (by decide) ca gca uc tq ((kp_R hKp429 g0 (ci := 11) (k := 7) rfl (by decide) rfl).trans htq) gtq kd vl w3 pos N _ S mc ym (by omega) (by first | exact ((mc.word (by decide)).mp hw4).1 | exact ((mc.word (by decide)).mp hw6).1 | exact ((mc.word (by decide)).mp hw8).1) (by omega) (by omega)) cw_X12_readCell cl_RX12_261 g0 ⟨rfl, rfl⟩ rfl hl.1 rfl (Nat.zero_le _) (by decide) dX12_yard_195) hS546 (fun H548 locs548 hr548 hC548 hS548 => ?_)
                                obtain ⟨hp548, hr548⟩ := hr548
                                have hKp548 := hKp429.tr (hp548.mono rfl)
                                have kdd : KD H0 H548 ca 0 0 := KD.kp kdd hp548 gca rfl rfl
                                have kd2 : KD H0 H548 ca 0 520 := KD.kp kd2 hp548 gca rfl rfl
                                have tqt : ∀ j, sI H548 tq j = sI H0 tq j := fun j => (kp_aI hp548 j gtq rfl rfl).trans (tqt j)
                                have n0 : EQ H548 ca 2080 xx := EQ.kn n0 hp548 gca rfl (by unfold dpn; omega)
                                have n1 : EQ H548 ca 2081 yy := EQ.kn n1 hp548 gca rfl (by unfold dpn; omega)
                                have m549 : (sI H548 h0 (X.1.2 11 8)).toInt = (sI H429 h0 (X.1.2 11 8)).toInt := congrArg Int32.toInt (kp_I hp548 g0 (k := 8) rfl (by decide) rfl)
                                obtain ⟨f548_0, f548_1, f548_2, f548_3, f548_4⟩ := hr548
                                have hpt := PTR.cell f548_4 ((mc9.word (by decide)).mp hw4) (Or.inl ⟨rfl, rfl⟩)
                                refine lv_goto (tgt := 249) hx hb dX12_yard_198 rfl ?_
                                refine lv_aload_n hx hb dX12_yard_249 rfl (lv_at hl 1 rfl) ?_
                                refine lv_aload_n hx hb dX12_yard_250 rfl (lv_at hl 1 rfl) ?_
                                refine lv_bipush (v := 59) hx hb dX12_yard_251 rfl ?_
                                have hz9 := tk_or (sI H548 h0 (X.1.2 11 14)).toInt
                                refine q_goIp (q_runV (As := [.int 59]) (rest := [.ref h0]) E hC548 hS548 (m_X12_isSign l X Γ H548 hC548 h0 g0 59 (a1 := 59) (by decide) ca gca uc) cw_X12_isSign cl_RX12_255 g0 ⟨rfl, rfl⟩ rfl hl.1 rfl (show _ ≤ _ from by simp [Value.category]) (by decide) dX12_yard_253) hS548 (fun v550 locs550 hr550 hS550 => ?_)
                                have hbz : (v550.toInt = 1 ∧ _) ∨ (v550.toInt = 0 ∧ _) := hr550.imp (fun h => ⟨by rw [h.1]; decide, h.2⟩) (fun h => ⟨by rw [h.1]; decide, h.2⟩)
                                have b550 : 0 ≤ v550.toInt ∧ v550.toInt ≤ 1 := by rcases hbz with q | q <;> (have q1 := q.1; omega)
                                clear hr550
                                refine q_goV (q_runV (As := [.int v550]) (rest := []) E hC548 hS550 (m_X12_must l X Γ H548 hC548 h0 g0 v550 (a1 := v550.toInt) rfl ca gca uc tq ((kp_R hKp548 g0 (ci := 11) (k := 7) rfl (by decide) rfl).trans htq) gtq (by omega) (by omega)) cw_X12_must cl_RX12_244 g0 ⟨rfl, rfl⟩ rfl hl.1 rfl (Nat.zero_le _) (by decide) dX12_yard_256) hS550 (fun H551 locs551 hr551 hC551 hS551 => ?_)
                                obtain ⟨hp551, hr551⟩ := hr551
                                have hKp551 := hKp548.tr (hp551.mono rfl)
                                have kdd : KD H0 H551 ca 0 0 := KD.kp kdd hp551 gca rfl rfl
                                have kd2 : KD H0 H551 ca 0 520 := KD.kp kd2 hp551 gca rfl rfl
                                have tqt : ∀ j, sI H551 tq j = sI H0 tq j := fun j => (kp_aI hp551 j gtq rfl rfl).trans (tqt j)
                                have n0 : EQ H551 ca 2080 xx := EQ.kn n0 hp551 gca rfl (by unfold dpn; omega)
                                have n1 : EQ H551 ca 2081 yy := EQ.kn n1 hp551 gca rfl (by unfold dpn; omega)
                                have m552 : (sI H551 h0 (X.1.2 11 8)).toInt = (sI H548 h0 (X.1.2 11 8)).toInt := congrArg Int32.toInt (kp_I hp551 g0 (k := 8) rfl (by decide) rfl)
                                obtain ⟨f551_0, f551_1, f551_2, f551_3, f551_4, f551_5⟩ := hr551
                                have hnx9 := YIV.step hpt hp551 g0 gca hbz f551_5 f551_2 (by omega) rfl rfl hgh hk0 e91 e92 hga hgf hgt mc9.2.1
                                have hl9 : v550.toInt + tk (sI H548 h0 (X.1.2 11 14)).toInt ≤ 1 := by rcases hbz with q | q <;> omega
                                clear hbz
                                clear hz9
                                refine lv_goto (tgt := 158) hx hb dX12_yard_259 rfl ?_
                                exact ih429 H551 locs551 ls (by omega) (by omega) (by omega) (fun q => hxy9 (by omega)) (hnx9) hC551 hS551 hKp551 kdd kd2 tqt n0 n1 hl
                              · have hw4 := hw
                                refine q_if_eq hx hb (a := 0) (by decide) (tgt := 201) dX12_yard_190 rfl (fun c553 => ?_) (fun c553 => absurd c553 (by omega))
                                refine lv_aload_n hx hb dX12_yard_201 rfl (lv_at hl 1 rfl) ?_
                                refine q_goIp (q_runV (As := []) (rest := []) E hC429 hS546 (m_X12_isWall l X Γ H429 hC429 h0 g0 ca gca uc) cw_X12_isWall cl_RX12_163 g0 ⟨rfl, rfl⟩ rfl hl.1 rfl (Nat.zero_le _) (by decide) dX12_yard_202) hS546 (fun v554 locs554 hr554 hS554 => ?_)
                                rcases hr554 with ⟨rfl, hw⟩ | ⟨rfl, hw⟩
                                · have hw6 := hw
                                  refine q_if_eq hx hb (a := 1) (by decide) (tgt := 216) dX12_yard_205 rfl (fun c555 => absurd c555 (by omega)) (fun c555 => ?_)
                                  refine lv_aload_n hx hb dX12_yard_208 rfl (lv_at hl 1 rfl) ?_
                                  refine lv_iconst (v := 1) hx hb dX12_yard_209 rfl ?_
                                  refine q_goV (q_runV (As := [.int 1]) (rest := []) E hC429 hS554 (m_X12_readCell l X Γ H429 hC429 h0 g0 1 (a1 := 1) (by decide) ca gca uc tq ((kp_R hKp429 g0 (ci := 11) (k := 7) rfl (by decide) rfl).trans htq) gtq kd vl w3 pos N _ S mc ym (by omega) (by first | exact ((mc.word (by decide)).mp hw4).1 | exact ((mc.word (by decide)).mp hw6).1 | exact ((mc.word (by decide)).mp hw8).1) (by omega) (by omega)) cw_X12_readCell cl_RX12_261 g0 ⟨rfl, rfl⟩ rfl hl.1 rfl (Nat.zero_le _) (by decide) dX12_yard_210) hS554 (fun H556 locs556 hr556 hC556 hS556 => ?_)
                                  obtain ⟨hp556, hr556⟩ := hr556
                                  have hKp556 := hKp429.tr (hp556.mono rfl)
                                  have kdd : KD H0 H556 ca 0 0 := KD.kp kdd hp556 gca rfl rfl
                                  have kd2 : KD H0 H556 ca 0 520 := KD.kp kd2 hp556 gca rfl rfl
                                  have tqt : ∀ j, sI H556 tq j = sI H0 tq j := fun j => (kp_aI hp556 j gtq rfl rfl).trans (tqt j)
                                  have n0 : EQ H556 ca 2080 xx := EQ.kn n0 hp556 gca rfl (by unfold dpn; omega)
                                  have n1 : EQ H556 ca 2081 yy := EQ.kn n1 hp556 gca rfl (by unfold dpn; omega)
                                  have m557 : (sI H556 h0 (X.1.2 11 8)).toInt = (sI H429 h0 (X.1.2 11 8)).toInt := congrArg Int32.toInt (kp_I hp556 g0 (k := 8) rfl (by decide) rfl)
                                  obtain ⟨f556_0, f556_1, f556_2, f556_3, f556_4⟩ := hr556
                                  have hpt := PTR.cell f556_4 ((mc9.word (by decide)).mp hw6) (Or.inr (Or.inl ⟨rfl, rfl⟩))
                                  refine lv_goto (tgt := 249) hx hb dX12_yard_213 rfl ?_
                                  refine lv_aload_n hx hb dX12_yard_249 rfl (lv_at hl 1 rfl) ?_
                                  refine lv_aload_n hx hb dX12_yard_250 rfl (lv_at hl 1 rfl) ?_
                                  refine lv_bipush (v := 59) hx hb dX12_yard_251 rfl ?_
                                  have hz9 := tk_or (sI H556 h0 (X.1.2 11 14)).toInt
                                  refine q_goIp (q_runV (As := [.int 59]) (rest := [.ref h0]) E hC556 hS556 (m_X12_isSign l X Γ H556 hC556 h0 g0 59 (a1 := 59) (by decide) ca gca uc) cw_X12_isSign cl_RX12_255 g0 ⟨rfl, rfl⟩ rfl hl.1 rfl (show _ ≤ _ from by simp [Value.category]) (by decide) dX12_yard_253) hS556 (fun v558 locs558 hr558 hS558 => ?_)
                                  have hbz : (v558.toInt = 1 ∧ _) ∨ (v558.toInt = 0 ∧ _) := hr558.imp (fun h => ⟨by rw [h.1]; decide, h.2⟩) (fun h => ⟨by rw [h.1]; decide, h.2⟩)
                                  have b558 : 0 ≤ v558.toInt ∧ v558.toInt ≤ 1 := by rcases hbz with q | q <;> (have q1 := q.1; omega)
                                  clear hr558
                                  refine q_goV (q_runV (As := [.int v558]) (rest := []) E hC556 hS558 (m_X12_must l X Γ H556 hC556 h0 g0 v558 (a1 := v558.toInt) rfl ca gca uc tq ((kp_R hKp556 g0 (ci := 11) (k := 7) rfl (by decide) rfl).trans htq) gtq (by omega) (by omega)) cw_X12_must cl_RX12_244 g0 ⟨rfl, rfl⟩ rfl hl.1 rfl (Nat.zero_le _) (by decide) dX12_yard_256) hS558 (fun H559 locs559 hr559 hC559 hS559 => ?_)
                                  obtain ⟨hp559, hr559⟩ := hr559
                                  have hKp559 := hKp556.tr (hp559.mono rfl)
                                  have kdd : KD H0 H559 ca 0 0 := KD.kp kdd hp559 gca rfl rfl
                                  have kd2 : KD H0 H559 ca 0 520 := KD.kp kd2 hp559 gca rfl rfl
                                  have tqt : ∀ j, sI H559 tq j = sI H0 tq j := fun j => (kp_aI hp559 j gtq rfl rfl).trans (tqt j)
                                  have n0 : EQ H559 ca 2080 xx := EQ.kn n0 hp559 gca rfl (by unfold dpn; omega)
                                  have n1 : EQ H559 ca 2081 yy := EQ.kn n1 hp559 gca rfl (by unfold dpn; omega)
                                  have m560 : (sI H559 h0 (X.1.2 11 8)).toInt = (sI H556 h0 (X.1.2 11 8)).toInt := congrArg Int32.toInt (kp_I hp559 g0 (k := 8) rfl (by decide) rfl)
                                  obtain ⟨f559_0, f559_1, f559_2, f559_3, f559_4, f559_5⟩ := hr559
                                  have hnx9 := YIV.step hpt hp559 g0 gca hbz f559_5 f559_2 (by omega) rfl rfl hgh hk0 e91 e92 hga hgf hgt mc9.2.1
                                  have hl9 : v558.toInt + tk (sI H556 h0 (X.1.2 11 14)).toInt ≤ 1 := by rcases hbz with q | q <;> omega
                                  clear hbz
                                  clear hz9
                                  refine lv_goto (tgt := 158) hx hb dX12_yard_259 rfl ?_
                                  exact ih429 H559 locs559 ls (by omega) (by omega) (by omega) (fun q => hxy9 (by omega)) (hnx9) hC559 hS559 hKp559 kdd kd2 tqt n0 n1 hl
                                · have hw6 := hw
                                  refine q_if_eq hx hb (a := 0) (by decide) (tgt := 216) dX12_yard_205 rfl (fun c561 => ?_) (fun c561 => absurd c561 (by omega))
                                  refine lv_aload_n hx hb dX12_yard_216 rfl (lv_at hl 1 rfl) ?_
                                  refine q_goIp (q_runV (As := []) (rest := []) E hC429 hS554 (m_X12_isSun l X Γ H429 hC429 h0 g0 ca gca uc) cw_X12_isSun cl_RX12_187 g0 ⟨rfl, rfl⟩ rfl hl.1 rfl (Nat.zero_le _) (by decide) dX12_yard_217) hS554 (fun v562 locs562 hr562 hS562 => ?_)
                                  rcases hr562 with ⟨rfl, hw⟩ | ⟨rfl, hw⟩
                                  · have hw8 := hw
                                    refine q_if_eq hx hb (a := 1) (by decide) (tgt := 231) dX12_yard_220 rfl (fun c563 => absurd c563 (by omega)) (fun c563 => ?_)
                                    refine lv_aload_n hx hb dX12_yard_223 rfl (lv_at hl 1 rfl) ?_
                                    refine lv_iconst (v := 2) hx hb dX12_yard_224 rfl ?_
                                    refine q_goV (q_runV (As := [.int 2]) (rest := []) E hC429 hS562 (m_X12_readCell l X Γ H429 hC429 h0 g0 2 (a1 := 2) (by decide) ca gca uc tq ((kp_R hKp429 g0 (ci := 11) (k := 7) rfl (by decide) rfl).trans htq) gtq kd vl w3 pos N _ S mc ym (by omega) (by first | exact ((mc.word (by decide)).mp hw4).1 | exact ((mc.word (by decide)).mp hw6).1 | exact ((mc.word (by decide)).mp hw8).1) (by omega) (by omega)) cw_X12_readCell cl_RX12_261 g0 ⟨rfl, rfl⟩ rfl hl.1 rfl (Nat.zero_le _) (by decide) dX12_yard_225) hS562 (fun H564 locs564 hr564 hC564 hS564 => ?_)
                                    obtain ⟨hp564, hr564⟩ := hr564
                                    have hKp564 := hKp429.tr (hp564.mono rfl)
                                    have kdd : KD H0 H564 ca 0 0 := KD.kp kdd hp564 gca rfl rfl
                                    have kd2 : KD H0 H564 ca 0 520 := KD.kp kd2 hp564 gca rfl rfl
                                    have tqt : ∀ j, sI H564 tq j = sI H0 tq j := fun j => (kp_aI hp564 j gtq rfl rfl).trans (tqt j)
                                    have n0 : EQ H564 ca 2080 xx := EQ.kn n0 hp564 gca rfl (by unfold dpn; omega)
                                    have n1 : EQ H564 ca 2081 yy := EQ.kn n1 hp564 gca rfl (by unfold dpn; omega)
                                    have m565 : (sI H564 h0 (X.1.2 11 8)).toInt = (sI H429 h0 (X.1.2 11 8)).toInt := congrArg Int32.toInt (kp_I hp564 g0 (k := 8) rfl (by decide) rfl)
                                    obtain ⟨f564_0, f564_1, f564_2, f564_3, f564_4⟩ := hr564
                                    have hpt := PTR.cell f564_4 ((mc9.word (by decide)).mp hw8) (Or.inr (Or.inr ⟨rfl, rfl⟩))
                                    refine lv_goto (tgt := 249) hx hb dX12_yard_228 rfl ?_
                                    refine lv_aload_n hx hb dX12_yard_249 rfl (lv_at hl 1 rfl) ?_
                                    refine lv_aload_n hx hb dX12_yard_250 rfl (lv_at hl 1 rfl) ?_
                                    refine lv_bipush (v := 59) hx hb dX12_yard_251 rfl ?_
                                    have hz9 := tk_or (sI H564 h0 (X.1.2 11 14)).toInt
                                    refine q_goIp (q_runV (As := [.int 59]) (rest := [.ref h0]) E hC564 hS564 (m_X12_isSign l X Γ H564 hC564 h0 g0 59 (a1 := 59) (by decide) ca gca uc) cw_X12_isSign cl_RX12_255 g0 ⟨rfl, rfl⟩ rfl hl.1 rfl (show _ ≤ _ from by simp [Value.category]) (by decide) dX12_yard_253) hS564 (fun v566 locs566 hr566 hS566 => ?_)
                                    have hbz : (v566.toInt = 1 ∧ _) ∨ (v566.toInt = 0 ∧ _) := hr566.imp (fun h => ⟨by rw [h.1]; decide, h.2⟩) (fun h => ⟨by rw [h.1]; decide, h.2⟩)
                                    have b566 : 0 ≤ v566.toInt ∧ v566.toInt ≤ 1 := by rcases hbz with q | q <;> (have q1 := q.1; omega)
                                    clear hr566
                                    refine q_goV (q_runV (As := [.int v566]) (rest := []) E hC564 hS566 (m_X12_must l X Γ H564 hC564 h0 g0 v566 (a1 := v566.toInt) rfl ca gca uc tq ((kp_R hKp564 g0 (ci := 11) (k := 7) rfl (by decide) rfl).trans htq) gtq (by omega) (by omega)) cw_X12_must cl_RX12_244 g0 ⟨rfl, rfl⟩ rfl hl.1 rfl (Nat.zero_le _) (by decide) dX12_yard_256) hS566 (fun H567 locs567 hr567 hC567 hS567 => ?_)
                                    obtain ⟨hp567, hr567⟩ := hr567
                                    have hKp567 := hKp564.tr (hp567.mono rfl)
                                    have kdd : KD H0 H567 ca 0 0 := KD.kp kdd hp567 gca rfl rfl
                                    have kd2 : KD H0 H567 ca 0 520 := KD.kp kd2 hp567 gca rfl rfl
                                    have tqt : ∀ j, sI H567 tq j = sI H0 tq j := fun j => (kp_aI hp567 j gtq rfl rfl).trans (tqt j)
                                    have n0 : EQ H567 ca 2080 xx := EQ.kn n0 hp567 gca rfl (by unfold dpn; omega)
                                    have n1 : EQ H567 ca 2081 yy := EQ.kn n1 hp567 gca rfl (by unfold dpn; omega)
                                    have m568 : (sI H567 h0 (X.1.2 11 8)).toInt = (sI H564 h0 (X.1.2 11 8)).toInt := congrArg Int32.toInt (kp_I hp567 g0 (k := 8) rfl (by decide) rfl)
                                    obtain ⟨f567_0, f567_1, f567_2, f567_3, f567_4, f567_5⟩ := hr567
                                    have hnx9 := YIV.step hpt hp567 g0 gca hbz f567_5 f567_2 (by omega) rfl rfl hgh hk0 e91 e92 hga hgf hgt mc9.2.1
                                    have hl9 : v566.toInt + tk (sI H564 h0 (X.1.2 11 14)).toInt ≤ 1 := by rcases hbz with q | q <;> omega
                                    clear hbz
                                    clear hz9
                                    refine lv_goto (tgt := 158) hx hb dX12_yard_259 rfl ?_
                                    exact ih429 H567 locs567 ls (by omega) (by omega) (by omega) (fun q => hxy9 (by omega)) (hnx9) hC567 hS567 hKp567 kdd kd2 tqt n0 n1 hl
                                  · have hw8 := hw
                                    refine q_if_eq hx hb (a := 0) (by decide) (tgt := 231) dX12_yard_220 rfl (fun c569 => ?_) (fun c569 => absurd c569 (by omega))
                                    refine lv_aload_n hx hb dX12_yard_231 rfl (lv_at hl 1 rfl) ?_
                                    refine q_goIp (q_runV (As := []) (rest := []) E hC429 hS562 (m_X12_isNo l X Γ H429 hC429 h0 g0 ca gca uc) cw_X12_isNo cl_RX12_193 g0 ⟨rfl, rfl⟩ rfl hl.1 rfl (Nat.zero_le _) (by decide) dX12_yard_232) hS562 (fun v570 locs570 hr570 hS570 => ?_)
                                    rcases hr570 with ⟨rfl, hw⟩ | ⟨rfl, hw⟩
                                    · have hw10 := hw
                                      refine q_if_eq hx hb (a := 1) (by decide) (tgt := 245) dX12_yard_235 rfl (fun c571 => absurd c571 (by omega)) (fun c571 => ?_)
                                      refine lv_aload_n hx hb dX12_yard_238 rfl (lv_at hl 1 rfl) ?_
                                      refine q_goV (q_runV (As := []) (rest := []) E hC429 hS570 (m_X12_readArticle l X Γ H429 hC429 h0 g0 ca gca uc tq ((kp_R hKp429 g0 (ci := 11) (k := 7) rfl (by decide) rfl).trans htq) gtq kd vl w3 pos N _ S mc ym (by omega) ((mc.word (by decide)).mp hw10).1) cw_X12_readArticle cl_RX12_264 g0 ⟨rfl, rfl⟩ rfl hl.1 rfl (Nat.zero_le _) (by decide) dX12_yard_239) hS570 (fun H572 locs572 hr572 hC572 hS572 => ?_)
                                      obtain ⟨hp572, hr572⟩ := hr572
                                      have hKp572 := hKp429.tr (hp572.mono rfl)
                                      have kdd : KD H0 H572 ca 0 0 := KD.kp kdd hp572 gca rfl rfl
                                      have kd2 : KD H0 H572 ca 0 520 := KD.kp kd2 hp572 gca rfl rfl
                                      have tqt : ∀ j, sI H572 tq j = sI H0 tq j := fun j => (kp_aI hp572 j gtq rfl rfl).trans (tqt j)
                                      have n0 : EQ H572 ca 2080 xx := EQ.kn n0 hp572 gca rfl (by unfold dpn; omega)
                                      have n1 : EQ H572 ca 2081 yy := EQ.kn n1 hp572 gca rfl (by unfold dpn; omega)
                                      have m573 : (sI H572 h0 (X.1.2 11 8)).toInt = (sI H429 h0 (X.1.2 11 8)).toInt := congrArg Int32.toInt (kp_I hp572 g0 (k := 8) rfl (by decide) rfl)
                                      obtain ⟨f572_0, f572_1, f572_2, f572_3, f572_4⟩ := hr572
                                      have hpt := PTR.art f572_4 ((mc9.word (by decide)).mp hw10)
                                      refine lv_goto (tgt := 249) hx hb dX12_yard_242 rfl ?_
                                      refine lv_aload_n hx hb dX12_yard_249 rfl (lv_at hl 1 rfl) ?_
                                      refine lv_aload_n hx hb dX12_yard_250 rfl (lv_at hl 1 rfl) ?_
                                      refine lv_bipush (v := 59) hx hb dX12_yard_251 rfl ?_
                                      have hz9 := tk_or (sI H572 h0 (X.1.2 11 14)).toInt
                                      refine q_goIp (q_runV (As := [.int 59]) (rest := [.ref h0]) E hC572 hS572 (m_X12_isSign l X Γ H572 hC572 h0 g0 59 (a1 := 59) (by decide) ca gca uc) cw_X12_isSign cl_RX12_255 g0 ⟨rfl, rfl⟩ rfl hl.1 rfl (show _ ≤ _ from by simp [Value.category]) (by decide) dX12_yard_253) hS572 (fun v574 locs574 hr574 hS574 => ?_)
                                      have hbz : (v574.toInt = 1 ∧ _) ∨ (v574.toInt = 0 ∧ _) := hr574.imp (fun h => ⟨by rw [h.1]; decide, h.2⟩) (fun h => ⟨by rw [h.1]; decide, h.2⟩)
                                      have b574 : 0 ≤ v574.toInt ∧ v574.toInt ≤ 1 := by rcases hbz with q | q <;> (have q1 := q.1; omega)
                                      clear hr574
                                      refine q_goV (q_runV (As := [.int v574]) (rest := []) E hC572 hS574 (m_X12_must l X Γ H572 hC572 h0 g0 v574 (a1 := v574.toInt) rfl ca gca uc tq ((kp_R hKp572 g0 (ci := 11) (k := 7) rfl (by decide) rfl).trans htq) gtq (by omega) (by omega)) cw_X12_must cl_RX12_244 g0 ⟨rfl, rfl⟩ rfl hl.1 rfl (Nat.zero_le _) (by decide) dX12_yard_256) hS574 (fun H575 locs575 hr575 hC575 hS575 => ?_)
                                      obtain ⟨hp575, hr575⟩ := hr575
                                      have hKp575 := hKp572.tr (hp575.mono rfl)
                                      have kdd : KD H0 H575 ca 0 0 := KD.kp kdd hp575 gca rfl rfl
                                      have kd2 : KD H0 H575 ca 0 520 := KD.kp kd2 hp575 gca rfl rfl
                                      have tqt : ∀ j, sI H575 tq j = sI H0 tq j := fun j => (kp_aI hp575 j gtq rfl rfl).trans (tqt j)
                                      have n0 : EQ H575 ca 2080 xx := EQ.kn n0 hp575 gca rfl (by unfold dpn; omega)
                                      have n1 : EQ H575 ca 2081 yy := EQ.kn n1 hp575 gca rfl (by unfold dpn; omega)
                                      have m576 : (sI H575 h0 (X.1.2 11 8)).toInt = (sI H572 h0 (X.1.2 11 8)).toInt := congrArg Int32.toInt (kp_I hp575 g0 (k := 8) rfl (by decide) rfl)
                                      obtain ⟨f575_0, f575_1, f575_2, f575_3, f575_4, f575_5⟩ := hr575
                                      have hnx9 := YIV.step hpt hp575 g0 gca hbz f575_5 f575_2 (by omega) rfl rfl hgh hk0 e91 e92 hga hgf hgt mc9.2.1
                                      have hl9 : v574.toInt + tk (sI H572 h0 (X.1.2 11 14)).toInt ≤ 1 := by rcases hbz with q | q <;> omega
                                      clear hbz
                                      clear hz9
                                      refine lv_goto (tgt := 158) hx hb dX12_yard_259 rfl ?_
                                      exact ih429 H575 locs575 ls (by omega) (by omega) (by omega) (fun q => hxy9 (by omega)) (hnx9) hC575 hS575 hKp575 kdd kd2 tqt n0 n1 hl
                                    · have hw10 := hw
                                      refine q_if_eq hx hb (a := 0) (by decide) (tgt := 245) dX12_yard_235 rfl (fun c577 => ?_) (fun c577 => absurd c577 (by omega))
                                      refine lv_aload_n hx hb dX12_yard_245 rfl (lv_at hl 1 rfl) ?_
                                      refine q_goV (q_runV (As := []) (rest := []) E hC429 hS570 (m_X12_wrong l X Γ H429 hC429 h0 g0 ca gca uc) cw_X12_wrong cl_RX12_231 g0 ⟨rfl, rfl⟩ rfl hl.1 rfl (Nat.zero_le _) (by decide) dX12_yard_246) hS570 (fun H578 locs578 hr578 hC578 hS578 => ?_)
                                      obtain ⟨hp578, hr578⟩ := hr578
                                      have hKp578 := hKp429.tr (hp578.mono rfl)
                                      have kdd : KD H0 H578 ca 0 0 := KD.kp kdd hp578 gca rfl rfl
                                      have kd2 : KD H0 H578 ca 0 520 := KD.kp kd2 hp578 gca rfl rfl
                                      have tqt : ∀ j, sI H578 tq j = sI H0 tq j := fun j => (kp_aI hp578 j gtq rfl rfl).trans (tqt j)
                                      have n0 : EQ H578 ca 2080 xx := EQ.kn n0 hp578 gca rfl (by unfold dpn; omega)
                                      have n1 : EQ H578 ca 2081 yy := EQ.kn n1 hp578 gca rfl (by unfold dpn; omega)
                                      have ym := ym.kp hp578 g0 gca rfl rfl
                                      have m579 : (sI H578 h0 (X.1.2 11 8)).toInt = (sI H429 h0 (X.1.2 11 8)).toInt := congrArg Int32.toInt (kp_I hp578 g0 (k := 8) rfl (by decide) rfl)
                                      obtain ⟨f578_0, f578_1, f578_2, f578_3⟩ := hr578
                                      have hpt := PTR.none (H := H578) (Γ := Γ) (ca := ca) (S := S) (by omega) mc9 hw2 hw4 hw6 hw8 hw10
                                      refine lv_aload_n hx hb dX12_yard_249 rfl (lv_at hl 1 rfl) ?_
                                      refine lv_aload_n hx hb dX12_yard_250 rfl (lv_at hl 1 rfl) ?_
                                      refine lv_bipush (v := 59) hx hb dX12_yard_251 rfl ?_
                                      have hz9 := tk_or (sI H578 h0 (X.1.2 11 14)).toInt
                                      refine q_goIp (q_runV (As := [.int 59]) (rest := [.ref h0]) E hC578 hS578 (m_X12_isSign l X Γ H578 hC578 h0 g0 59 (a1 := 59) (by decide) ca gca uc) cw_X12_isSign cl_RX12_255 g0 ⟨rfl, rfl⟩ rfl hl.1 rfl (show _ ≤ _ from by simp [Value.category]) (by decide) dX12_yard_253) hS578 (fun v580 locs580 hr580 hS580 => ?_)
                                      have hbz : (v580.toInt = 1 ∧ _) ∨ (v580.toInt = 0 ∧ _) := hr580.imp (fun h => ⟨by rw [h.1]; decide, h.2⟩) (fun h => ⟨by rw [h.1]; decide, h.2⟩)
                                      have b580 : 0 ≤ v580.toInt ∧ v580.toInt ≤ 1 := by rcases hbz with q | q <;> (have q1 := q.1; omega)
                                      clear hr580
                                      refine q_goV (q_runV (As := [.int v580]) (rest := []) E hC578 hS580 (m_X12_must l X Γ H578 hC578 h0 g0 v580 (a1 := v580.toInt) rfl ca gca uc tq ((kp_R hKp578 g0 (ci := 11) (k := 7) rfl (by decide) rfl).trans htq) gtq (by omega) (by omega)) cw_X12_must cl_RX12_244 g0 ⟨rfl, rfl⟩ rfl hl.1 rfl (Nat.zero_le _) (by decide) dX12_yard_256) hS580 (fun H581 locs581 hr581 hC581 hS581 => ?_)
                                      obtain ⟨hp581, hr581⟩ := hr581
                                      have hKp581 := hKp578.tr (hp581.mono rfl)
                                      have kdd : KD H0 H581 ca 0 0 := KD.kp kdd hp581 gca rfl rfl
                                      have kd2 : KD H0 H581 ca 0 520 := KD.kp kd2 hp581 gca rfl rfl
                                      have tqt : ∀ j, sI H581 tq j = sI H0 tq j := fun j => (kp_aI hp581 j gtq rfl rfl).trans (tqt j)
                                      have n0 : EQ H581 ca 2080 xx := EQ.kn n0 hp581 gca rfl (by unfold dpn; omega)
                                      have n1 : EQ H581 ca 2081 yy := EQ.kn n1 hp581 gca rfl (by unfold dpn; omega)
                                      have m582 : (sI H581 h0 (X.1.2 11 8)).toInt = (sI H578 h0 (X.1.2 11 8)).toInt := congrArg Int32.toInt (kp_I hp581 g0 (k := 8) rfl (by decide) rfl)
                                      obtain ⟨f581_0, f581_1, f581_2, f581_3, f581_4, f581_5⟩ := hr581
                                      have hnx9 := YIV.step hpt hp581 g0 gca hbz f581_5 f581_2 (by omega) rfl rfl hgh hk0 e91 e92 hga hgf hgt mc9.2.1
                                      have hl9 : v580.toInt + tk (sI H578 h0 (X.1.2 11 14)).toInt ≤ 1 := by rcases hbz with q | q <;> omega
                                      clear hbz
                                      clear hz9
                                      refine lv_goto (tgt := 158) hx hb dX12_yard_259 rfl ?_
                                      exact ih429 H581 locs581 ls (by omega) (by omega) (by omega) (fun q => hxy9 (by omega)) (hnx9) hC581 hS581 hKp581 kdd kd2 tqt n0 n1 hl
                    exact L158 903 H427 locs427 ls (by omega) (by omega) (by omega) (fun q => ⟨by first | exact hxv (by omega) | omega, by first | exact hyv (by omega) | omega⟩) (by first | exact YIV.no (by omega) hno | exact YIV.of hd hpar2 hN9) hC427 hS427 hKp427 kdd kd2 tqt n0 n1 hl
              · refine lv_aload_n hx hb dX12_yard_57 rfl (lv_at hl 1 rfl) ?_
                refine q_getR E hC45 g0 fa_RX12_41 dX12_yard_58 (fun q583 eq583 gq583 => ?_)
                have htce := eq583
                refine lv_iload_n hx hb dX12_yard_61 rfl (lv_at hl 0 rfl) ?_
                refine lv_iconst (v := 0) hx hb dX12_yard_62 rfl ?_
                refine q_iast E hC45 hS45 gq583 (by decide) rfl rfl (i_in (a := z44) ev44 (by omega) (by omega)) tv_F dX12_yard_63 (fun H584 locs584 hC584 hS584 U584 => ?_)
                have hKp584 := Kp.upA gq583 rfl (by decide) rfl U584 hKp45
                have kdd : KD H0 H584 ca 0 0 := KD.ne kdd U584 (nek gq583 gca (by decide))
                have kd2 : KD H0 H584 ca 0 520 := KD.ne kd2 U584 (nek gq583 gca (by decide))
                have tqt : ∀ j, sI H584 tq j = sI H0 tq j := fun j => (up_nI U584 (ne_k gtq gq583 (by decide))).trans (tqt j)
                have mc := mc.ne U584 g0 gtq gq583 (by decide)
                have cz := cz.ne U584 (nek gq583 gca (by decide))
                have m585 : (sI H584 h0 (X.1.2 11 12)).toInt = (sI H45 h0 (X.1.2 11 12)).toInt := congrArg Int32.toInt (up_nI U584 (ne_k g0 gq583 (by decide)))
                have m586 : (sI H584 h0 (X.1.2 11 14)).toInt = (sI H45 h0 (X.1.2 11 14)).toInt := congrArg Int32.toInt (up_nI U584 (ne_k g0 gq583 (by decide)))
                have m587 := congrArg tk m586
                have m588 : (sI H584 h0 (X.1.2 11 16)).toInt = (sI H45 h0 (X.1.2 11 16)).toInt := congrArg Int32.toInt (up_nI U584 (ne_k g0 gq583 (by decide)))
                have m589 : (sI H584 h0 (X.1.2 11 8)).toInt = (sI H45 h0 (X.1.2 11 8)).toInt := congrArg Int32.toInt (up_nI U584 (ne_k g0 gq583 (by decide)))
                have m590 : (sI H584 h0 (X.1.2 11 9)).toInt = (sI H45 h0 (X.1.2 11 9)).toInt := congrArg Int32.toInt (up_nI U584 (ne_k g0 gq583 (by decide)))
                have m591 : (sI H584 h0 (X.1.2 11 17)).toInt = (sI H45 h0 (X.1.2 11 17)).toInt := congrArg Int32.toInt (up_nI U584 (ne_k g0 gq583 (by decide)))
                have tz2 := TZM.step tz U584 g0 htce (by rw [i_ix ev44]; omega) rfl
                obtain ⟨v592, ev592⟩ : ∃ z, z = v44 + Int32.ofInt 1 := ⟨_, rfl⟩
                have ev592i : v592.toInt = (z44 + 1) := i_add ev592 ev44 (by decide) (by omega) (by omega)
                refine lv_iinc hx hb dX12_yard_64 hl (k := 0) rfl ev592.symm (by decide) rfl (fun ls hl => ?_)
                have hl : lv_has ls 4 [(2, .int v592), (0, .ref h0), (1, .int p1)] := hl
                refine lv_goto (tgt := 51) hx hb dX12_yard_67 rfl ?_
                exact ih45 H584 locs584 v592 ((z44 + 1)) ls (by omega) ev592i (by omega) (by omega) (by omega) (by omega) (mc) (cz) (tz2) hC584 hS584 hKp584 kdd kd2 tqt hl
          exact L51 _ H42 locs42 0 0 ls (Nat.lt_succ_self _) (by decide) (by omega) (by omega) (by omega) (by omega) (mc) (cz) (TZM.nil hC42 g0) hC42 hS42 hKp42 kdd kd2 tqt hl
        · refine lv_aload_n hx hb dX12_yard_32 rfl (lv_at hl 1 rfl) ?_
          refine q_getC E hC42 g0 fa_RX12_35 uc dX12_yard_33 ?_
          refine lv_sipush (v := 2080) hx hb dX12_yard_36 rfl ?_
          refine lv_iload_n hx hb dX12_yard_39 rfl (lv_at hl 0 rfl) ?_
          refine lv_iadd hx hb dX12_yard_40 (lv_topi (fun v593 ev593 => ?_))
          have ev593i : v593.toInt = (2080 + z41) := i_add ev593 (by decide) ev41 (by omega) (by omega)
          refine lv_iconst (v := 0) hx hb dX12_yard_41 rfl ?_
          refine q_cast E hC42 hS42 gca (a := (2080 + z41)) ev593i (by omega) (by omega) (cT_nz (by omega) (by omega)) dX12_yard_42 (fun H594 locs594 hC594 hS594 U594 => ?_)
          have hKp594 := Kp.upD gca rfl rfl (fun _ => ⟨fun h => absurd h (by decide), fun h => absurd h (by decide), fun h => absurd h (by decide)⟩) U594 hKp42
          have kdd : KD H0 H594 ca 0 0 := KD.up kdd U594 (by omega) (by omega)
          have kd2 : KD H0 H594 ca 0 520 := KD.up kd2 U594 (by omega) (by omega)
          have tqt : ∀ j, sI H594 tq j = sI H0 tq j := fun j => (up_nI U594 (ne_k gtq gca (by decide))).trans (tqt j)
          have mc := mc.ne U594 g0 gtq gca (by decide)
          have m595 : (sI H594 h0 (X.1.2 11 12)).toInt = (sI H42 h0 (X.1.2 11 12)).toInt := congrArg Int32.toInt (up_nI U594 (ne_k g0 gca (by decide)))
          have m596 : (sI H594 h0 (X.1.2 11 14)).toInt = (sI H42 h0 (X.1.2 11 14)).toInt := congrArg Int32.toInt (up_nI U594 (ne_k g0 gca (by decide)))
          have m597 := congrArg tk m596
          have m598 : (sI H594 h0 (X.1.2 11 16)).toInt = (sI H42 h0 (X.1.2 11 16)).toInt := congrArg Int32.toInt (up_nI U594 (ne_k g0 gca (by decide)))
          have m599 : (sI H594 h0 (X.1.2 11 8)).toInt = (sI H42 h0 (X.1.2 11 8)).toInt := congrArg Int32.toInt (up_nI U594 (ne_k g0 gca (by decide)))
          have m600 : (sI H594 h0 (X.1.2 11 9)).toInt = (sI H42 h0 (X.1.2 11 9)).toInt := congrArg Int32.toInt (up_nI U594 (ne_k g0 gca (by decide)))
          have m601 : (sI H594 h0 (X.1.2 11 17)).toInt = (sI H42 h0 (X.1.2 11 17)).toInt := congrArg Int32.toInt (up_nI U594 (ne_k g0 gca (by decide)))
          have cz2 := CZ.step cz U594 (by omega) rfl (by omega)
          have e602 := up_I U594
          obtain ⟨v603, ev603⟩ : ∃ z, z = v41 + Int32.ofInt 1 := ⟨_, rfl⟩
          have ev603i : v603.toInt = (z41 + 1) := i_add ev603 ev41 (by decide) (by omega) (by omega)
          refine lv_iinc hx hb dX12_yard_43 hl (k := 0) rfl ev603.symm (by decide) rfl (fun ls hl => ?_)
          have hl : lv_has ls 4 [(2, .int v603), (0, .ref h0), (1, .int p1)] := hl
          refine lv_goto (tgt := 25) hx hb dX12_yard_46 rfl ?_
          exact ih42 H594 locs594 v603 ((z41 + 1)) ls (by omega) ev603i (by omega) (by omega) (by omega) (by omega) (mc) (cz2) hC594 hS594 hKp594 kdd kd2 tqt hl
    exact L25 _ H39 locs39 0 0 ls (Nat.lt_succ_self _) (by decide) (by omega) (by omega) (by omega) (by omega) (mc) (CZ.nil) hC39 hS39 hKp39 kdd kd2 tqt hl
  · refine q_if_ne hx hb (a := 0) (by decide) (tgt := 23) dX12_yard_18 rfl (fun c604 => absurd c604 (by omega)) (fun c604 => ?_)
    refine lv_iconst (v := (-1)) hx hb dX12_yard_21 rfl ?_
    have hpost : KD H0 H39 ca 0 0 ∨ (KD H0 H39 ca 0 520 ∧ YI H39 ca) := Or.inl kdd
    have hym : YMR (sI H0 h0 (X.1.2 11 8)).toInt a1 kd vl ((-1) : Int32).toInt (KD H0 H39 ca 0 0) (QYA H39 ca kd vl) := Or.inl ⟨by omega, by decide, kdd⟩
    have c605 : ((-1) : Int32).toInt = (-1) := (by decide)
    exact ret (-1) H39 locs39 _ _ dX12_yard_22 ⟨hKp39, ⟨hpost, by omega, hym⟩⟩ hC39 hS39
