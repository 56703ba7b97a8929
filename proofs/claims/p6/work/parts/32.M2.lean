set_option maxRecDepth 100000 in
set_option maxHeartbeats 4000000 in
theorem m_X12_opens (l : Launch) (X : xW) (Γ : Nat → Option Nat) (H0 : Heap) (hC0 : Conf X Γ H0) (h0 : Nat) (g0 : Γ h0 = some 11) (p1 : Int32) {a1 : Int} (e1 : p1.toInt = a1) (p2 : Int32) {a2 : Int} (e2 : p2.toInt = a2) (ca : Nat) (gca : Γ ca = some 64) (uc : ∀ a, Γ a = some 64 → a = ca) : Ctr l X Γ yX12_opens cX12_opens 3 (some .boolean) 2 [.ref h0, .int p1, .int p2] H0 (QI X Γ (fun v H1 => Kp X Γ [1, 6, 8, 9, 10, 11, 12, 14, 15, 16, 17, 19, 22, 24] H0 H1 ∧ ((v = 1 ∧ ((sI H1 h0 (X.1.2 11 12)).toInt = 0 ∧ 0 ≤ a1 ∧ a1 ≤ (sI H0 h0 (X.1.2 11 8)).toInt ∧ a1 ≤ a2 ∧ (sI H1 h0 (X.1.2 11 8)).toInt = 0)) ∨ (v = 0 ∧ ((a1 < 0 ∨ (sI H0 h0 (X.1.2 11 8)).toInt < a1 ∨ a2 < a1) ∧ (sI H1 h0 (X.1.2 11 8)).toInt = (sI H0 h0 (X.1.2 11 8)).toInt))))) := by
  refine q_enterZ (own := "SnowFortsModel") (by decide) rfl (Nat.le_of_ble_eq_true rfl) ?_
  intro p e s m args below meth c ls Qz E hl ret hS0
  have hx := E.1; have hb := E.2.1
  have hKp0 : Kp X Γ [1, 6, 8, 9, 10, 11, 12, 14, 15, 16, 17, 19, 22, 24] H0 H0 := Kp.rf
  have hl : lv_has ls 3 [(0, .ref h0), (1, .int p1), (2, .int p2)] := hl
  have hz1 := f_bd hC0 g0 (ci := 11) (k := 8) rfl rfl
  refine lv_iload_n hx hb dX12_opens_0 rfl (lv_at hl 1 rfl) ?_
  refine q_if_lt hx hb (a := a1) e1 (tgt := 17) dX12_opens_1 rfl (fun c21 => ?_) (fun c21 => ?_)
  · refine lv_aload_n hx hb dX12_opens_17 rfl (lv_at hl 0 rfl) ?_
    refine lv_iconst (v := 5) hx hb dX12_opens_18 rfl ?_
    refine q_goI (q_runV (As := [.int 5]) (rest := []) E hC0 hS0 (m_X12_no l X Γ H0 hC0 h0 g0 5 (a1 := 5) (by decide) ca gca uc) cw_X12_no cl_RX12_84 g0 ⟨rfl, rfl⟩ rfl hl.1 rfl (Nat.zero_le _) (by decide) dX12_opens_19) hS0 (fun v22 H22 locs22 hr22 hC22 hS22 => ?_)
    obtain ⟨hp22, hr22⟩ := hr22
    have hKp22 := hKp0.tr (hp22.mono rfl)
    have m23 : (sI H22 h0 (X.1.2 11 8)).toInt = (sI H0 h0 (X.1.2 11 8)).toInt := congrArg Int32.toInt (kp_I hp22 g0 (k := 8) rfl (by decide) rfl)
    rcases hr22 with ⟨rfl, f22a⟩ | ⟨rfl, -⟩
    · exact absurd f22a (by decide)
    · exact ret 0 H22 locs22 _ _ dX12_opens_22 (Or.inl rfl) ⟨hKp22, Or.inr ⟨rfl, by omega, by omega⟩⟩ hC22 hS22
  · refine lv_iload_n hx hb dX12_opens_4 rfl (lv_at hl 1 rfl) ?_
    refine lv_aload_n hx hb dX12_opens_5 rfl (lv_at hl 0 rfl) ?_
    refine q_getI E hC0 g0 fa_RX12_234 dX12_opens_6 (fun v24 ev24 lv24 uv24 => ?_)
    have m25 : (sI H0 h0 (X.1.2 11 8)).toInt = v24.toInt := (congrArg Int32.toInt ev24).trans rfl
    refine q_icmp_gt hx hb (a := a1) (b := v24.toInt) e1 rfl (tgt := 17) dX12_opens_9 rfl (fun c26 => ?_) (fun c26 => ?_)
    · refine lv_aload_n hx hb dX12_opens_17 rfl (lv_at hl 0 rfl) ?_
      refine lv_iconst (v := 5) hx hb dX12_opens_18 rfl ?_
      refine q_goI (q_runV (As := [.int 5]) (rest := []) E hC0 hS0 (m_X12_no l X Γ H0 hC0 h0 g0 5 (a1 := 5) (by decide) ca gca uc) cw_X12_no cl_RX12_84 g0 ⟨rfl, rfl⟩ rfl hl.1 rfl (Nat.zero_le _) (by decide) dX12_opens_19) hS0 (fun v27 H27 locs27 hr27 hC27 hS27 => ?_)
      obtain ⟨hp27, hr27⟩ := hr27
      have hKp27 := hKp0.tr (hp27.mono rfl)
      have m28 : (sI H27 h0 (X.1.2 11 8)).toInt = (sI H0 h0 (X.1.2 11 8)).toInt := congrArg Int32.toInt (kp_I hp27 g0 (k := 8) rfl (by decide) rfl)
      rcases hr27 with ⟨rfl, f27a⟩ | ⟨rfl, -⟩
      · exact absurd f27a (by decide)
      · have e29 := (kp_I hp27 g0 (k := 8) rfl (by decide) rfl).trans ev24
        have m30 : (sI H27 h0 (X.1.2 11 8)).toInt = v24.toInt := (congrArg Int32.toInt e29).trans rfl
        exact ret 0 H27 locs27 _ _ dX12_opens_22 (Or.inl rfl) ⟨hKp27, Or.inr ⟨rfl, by omega, by omega⟩⟩ hC27 hS27
    · refine lv_iload_n hx hb dX12_opens_12 rfl (lv_at hl 1 rfl) ?_
      refine lv_iload_n hx hb dX12_opens_13 rfl (lv_at hl 2 rfl) ?_
      have c31 := i_rng p2; rw [show p2.toInt = a2 from e2] at c31
      refine q_icmp_le hx hb (a := a1) (b := a2) e1 e2 (tgt := 23) dX12_opens_14 rfl (fun c32 => ?_) (fun c32 => ?_)
      · refine lv_aload_n hx hb dX12_opens_23 rfl (lv_at hl 0 rfl) ?_
        refine lv_iload_n hx hb dX12_opens_24 rfl (lv_at hl 1 rfl) ?_
        refine q_put E hC0 hS0 g0 fp_RX12_108 (tv_I e1 (by omega) (by omega)) rfl rfl dX12_opens_25 (fun H33 locs33 hC33 hS33 U33 => ?_)
        have hKp33 := Kp.upO E g0 fp_RX12_108 rfl U33 hKp0
        have e34 := up_I U33
        have m35 : (sI H33 h0 (X.1.2 11 12)).toInt = (sI H0 h0 (X.1.2 11 12)).toInt := congrArg Int32.toInt (up_nI U33 (ne_f E 11 12 9 rfl (by decide) (by decide) (by decide)))
        have m36 : (sI H33 h0 (X.1.2 11 14)).toInt = (sI H0 h0 (X.1.2 11 14)).toInt := congrArg Int32.toInt (up_nI U33 (ne_f E 11 14 9 rfl (by decide) (by decide) (by decide)))
        have m37 := congrArg tk m36
        have m38 : (sI H33 h0 (X.1.2 11 16)).toInt = (sI H0 h0 (X.1.2 11 16)).toInt := congrArg Int32.toInt (up_nI U33 (ne_f E 11 16 9 rfl (by decide) (by decide) (by decide)))
        have m39 : (sI H33 h0 (X.1.2 11 8)).toInt = (sI H0 h0 (X.1.2 11 8)).toInt := congrArg Int32.toInt (up_nI U33 (ne_f E 11 8 9 rfl (by decide) (by decide) (by decide)))
        refine lv_aload_n hx hb dX12_opens_28 rfl (lv_at hl 0 rfl) ?_
        refine lv_iconst (v := 0) hx hb dX12_opens_29 rfl ?_
        refine q_put E hC33 hS33 g0 fp_RX12_234 (tv_I (show (0 : Int32).toInt = 0 from by decide) (by omega) (by omega)) rfl rfl dX12_opens_30 (fun H40 locs40 hC40 hS40 U40 => ?_)
        have hKp40 := Kp.upO E g0 fp_RX12_234 rfl U40 hKp33
        have e41 := up_I U40
        have m42 : (sI H40 h0 (X.1.2 11 8)).toInt = 0 := (congrArg Int32.toInt e41).trans (show (0 : Int32).toInt = 0 from by decide)
        have m43 : (sI H40 h0 (X.1.2 11 12)).toInt = (sI H33 h0 (X.1.2 11 12)).toInt := congrArg Int32.toInt (up_nI U40 (ne_f E 11 12 8 rfl (by decide) (by decide) (by decide)))
        have m44 : (sI H40 h0 (X.1.2 11 14)).toInt = (sI H33 h0 (X.1.2 11 14)).toInt := congrArg Int32.toInt (up_nI U40 (ne_f E 11 14 8 rfl (by decide) (by decide) (by decide)))
        have m45 := congrArg tk m44
        have m46 : (sI H40 h0 (X.1.2 11 16)).toInt = (sI H33 h0 (X.1.2 11 16)).toInt := congrArg Int32.toInt (up_nI U40 (ne_f E 11 16 8 rfl (by decide) (by decide) (by decide)))
        refine lv_aload_n hx hb dX12_opens_33 rfl (lv_at hl 0 rfl) ?_
        refine lv_iconst (v := 0) hx hb dX12_opens_34 rfl ?_
        refine q_put E hC40 hS40 g0 fp_RX12_111 (tv_I (show (0 : Int32).toInt = 0 from by decide) (by omega) (by omega)) rfl rfl dX12_opens_35 (fun H47 locs47 hC47 hS47 U47 => ?_)
        have hKp47 := Kp.upO E g0 fp_RX12_111 rfl U47 hKp40
        have e48 := up_I U47
        have m49 : (sI H47 h0 (X.1.2 11 16)).toInt = 0 := (congrArg Int32.toInt e48).trans (show (0 : Int32).toInt = 0 from by decide)
        have m50 : (sI H47 h0 (X.1.2 11 12)).toInt = (sI H40 h0 (X.1.2 11 12)).toInt := congrArg Int32.toInt (up_nI U47 (ne_f E 11 12 16 rfl (by decide) (by decide) (by decide)))
        have m51 : (sI H47 h0 (X.1.2 11 14)).toInt = (sI H40 h0 (X.1.2 11 14)).toInt := congrArg Int32.toInt (up_nI U47 (ne_f E 11 14 16 rfl (by decide) (by decide) (by decide)))
        have m52 := congrArg tk m51
        have m53 : (sI H47 h0 (X.1.2 11 8)).toInt = (sI H40 h0 (X.1.2 11 8)).toInt := congrArg Int32.toInt (up_nI U47 (ne_f E 11 8 16 rfl (by decide) (by decide) (by decide)))
        refine lv_aload_n hx hb dX12_opens_38 rfl (lv_at hl 0 rfl) ?_
        refine lv_iconst (v := 0) hx hb dX12_opens_39 rfl ?_
        refine q_put E hC47 hS47 g0 fp_RX12_218 (tv_I (show (0 : Int32).toInt = 0 from by decide) (by omega) (by omega)) rfl rfl dX12_opens_40 (fun H54 locs54 hC54 hS54 U54 => ?_)
        have hKp54 := Kp.upO E g0 fp_RX12_218 rfl U54 hKp47
        have e55 := up_I U54
        have m56 : (sI H54 h0 (X.1.2 11 12)).toInt = 0 := (congrArg Int32.toInt e55).trans (show (0 : Int32).toInt = 0 from by decide)
        have m57 : (sI H54 h0 (X.1.2 11 14)).toInt = (sI H47 h0 (X.1.2 11 14)).toInt := congrArg Int32.toInt (up_nI U54 (ne_f E 11 14 12 rfl (by decide) (by decide) (by decide)))
        have m58 := congrArg tk m57
        have m59 : (sI H54 h0 (X.1.2 11 16)).toInt = (sI H47 h0 (X.1.2 11 16)).toInt := congrArg Int32.toInt (up_nI U54 (ne_f E 11 16 12 rfl (by decide) (by decide) (by decide)))
        have m60 : (sI H54 h0 (X.1.2 11 8)).toInt = (sI H47 h0 (X.1.2 11 8)).toInt := congrArg Int32.toInt (up_nI U54 (ne_f E 11 8 12 rfl (by decide) (by decide) (by decide)))
        refine lv_aload_n hx hb dX12_opens_43 rfl (lv_at hl 0 rfl) ?_
        refine q_goV (q_runV (As := []) (rest := []) E hC54 hS54 (m_X12_next l X Γ H54 hC54 h0 g0 ca gca uc) cw_X12_next cl_RX12_228 g0 ⟨rfl, rfl⟩ rfl hl.1 rfl (Nat.zero_le _) (by decide) dX12_opens_44) hS54 (fun H61 locs61 hr61 hC61 hS61 => ?_)
        obtain ⟨hp61, hr61⟩ := hr61
        have hKp61 := hKp54.tr (hp61.mono rfl)
        have m62 : (sI H61 h0 (X.1.2 11 8)).toInt = (sI H54 h0 (X.1.2 11 8)).toInt := congrArg Int32.toInt (kp_I hp61 g0 (k := 8) rfl (by decide) rfl)
        obtain ⟨f61_0, f61_1, f61_2⟩ := hr61
        refine lv_iconst (v := 1) hx hb dX12_opens_47 rfl ?_
        have e63 := (up_nI U54 (ne_f E 11 16 12 rfl (by decide) (by decide) (by decide))).trans e48
        have e64 := (up_nI U47 (ne_f E 11 8 16 rfl (by decide) (by decide) (by decide))).trans e41
        have e65 := (up_nI U54 (ne_f E 11 8 12 rfl (by decide) (by decide) (by decide))).trans e64
        have e66 := (kp_I hp61 g0 (k := 8) rfl (by decide) rfl).trans e65
        have m67 : (sI H61 h0 (X.1.2 11 8)).toInt = 0 := (congrArg Int32.toInt e66).trans (show (0 : Int32).toInt = 0 from by decide)
        exact ret 1 H61 locs61 _ _ dX12_opens_48 (Or.inr rfl) ⟨hKp61, Or.inl ⟨rfl, by omega, by omega, by omega, by omega, by omega⟩⟩ hC61 hS61
      · refine lv_aload_n hx hb dX12_opens_17 rfl (lv_at hl 0 rfl) ?_
        refine lv_iconst (v := 5) hx hb dX12_opens_18 rfl ?_
        refine q_goI (q_runV (As := [.int 5]) (rest := []) E hC0 hS0 (m_X12_no l X Γ H0 hC0 h0 g0 5 (a1 := 5) (by decide) ca gca uc) cw_X12_no cl_RX12_84 g0 ⟨rfl, rfl⟩ rfl hl.1 rfl (Nat.zero_le _) (by decide) dX12_opens_19) hS0 (fun v68 H68 locs68 hr68 hC68 hS68 => ?_)
        obtain ⟨hp68, hr68⟩ := hr68
        have hKp68 := hKp0.tr (hp68.mono rfl)
        have m69 : (sI H68 h0 (X.1.2 11 8)).toInt = (sI H0 h0 (X.1.2 11 8)).toInt := congrArg Int32.toInt (kp_I hp68 g0 (k := 8) rfl (by decide) rfl)
        rcases hr68 with ⟨rfl, f68a⟩ | ⟨rfl, -⟩
        · exact absurd f68a (by decide)
        · have e70 := (kp_I hp68 g0 (k := 8) rfl (by decide) rfl).trans ev24
          have m71 : (sI H68 h0 (X.1.2 11 8)).toInt = v24.toInt := (congrArg Int32.toInt e70).trans rfl
          exact ret 0 H68 locs68 _ _ dX12_opens_22 (Or.inl rfl) ⟨hKp68, Or.inr ⟨rfl, by omega, by omega⟩⟩ hC68 hS68
set_option maxRecDepth 100000 in
set_option maxHeartbeats 4000000 in
theorem m_X12_spelled (l : Launch) (X : xW) (Γ : Nat → Option Nat) (H0 : Heap) (hC0 : Conf X Γ H0) (p0 : Int32) {a0 : Int} (e0 : p0.toInt = a0) (p1 : Int32) {a1 : Int} (e1 : p1.toInt = a1) (p2 : Int32) {a2 : Int} (e2 : p2.toInt = a2) (p3 : Int32) {a3 : Int} (e3 : p3.toInt = a3) (p4 : Int32) {a4 : Int} (e4 : p4.toInt = a4) (p5 : Int32) {a5 : Int} (e5 : p5.toInt = a5) : Ctr l X Γ yX12_spelled cX12_spelled 8 (some .long) 0 [.int p0, .int p1, .int p2, .int p3, .int p4, .int p5] H0 (QJ X Γ (fun v H1 => H1 = H0 ∧ (True))) := by
  refine q_enterJ (own := "SnowFortsModel") (by decide) rfl (Nat.le_of_ble_eq_true rfl) ?_
  intro p e s m args below meth c ls Qz E hl ret hS0
  have hx := E.1; have hb := E.2.1
  have hl : lv_has ls 8 [(0, .int p0), (1, .int p1), (2, .int p2), (3, .int p3), (4, .int p4), (5, .int p5)] := hl
  refine lv_iload_n hx hb dX12_spelled_0 rfl (lv_at hl 0 rfl) ?_
  refine lv_i2l (v := p0.toInt64) hx hb dX12_spelled_1 rfl (lv_topl (fun v21 ev21 => ?_))
  have ev21i : v21.toInt = a0 := l_ofi ev21.symm e0
  refine lv_ldc2 (v := 96) hx hb E.2.2.2.1 (E.2.2.2.2.1 _ w_1507) dX12_spelled_2 ?_
  refine lv_lsub hx hb dX12_spelled_5 (lv_topl (fun v22 ev22 => ?_))
  have c23 := i_rng p0; rw [show p0.toInt = a0 from e0] at c23
  have ev22i : v22.toInt = (a0 - 96) := l_sub ev22 ev21i (show (96 : Int64).toInt = 96 from by decide) (by omega) (by omega)
  refine lv_ldc2 (v := 32) hx hb E.2.2.2.1 (E.2.2.2.2.1 _ w_1506) dX12_spelled_6 ?_
  refine lv_lmul hx hb dX12_spelled_9 (lv_topl (fun v24 ev24 => ?_))
  have ev24i : v24.toInt = ((a0 - 96) * 32) := l_mul ev24 ev22i (show (32 : Int64).toInt = 32 from by decide) (by omega) (by omega)
  refine lv_iload_n hx hb dX12_spelled_10 rfl (lv_at hl 1 rfl) ?_
  refine lv_i2l (v := p1.toInt64) hx hb dX12_spelled_11 rfl (lv_topl (fun v25 ev25 => ?_))
  have ev25i : v25.toInt = a1 := l_ofi ev25.symm e1
  refine lv_ladd hx hb dX12_spelled_12 (lv_topl (fun v26 ev26 => ?_))
  have c27 := i_rng p1; rw [show p1.toInt = a1 from e1] at c27
  have ev26i : v26.toInt = (((a0 - 96) * 32) + a1) := l_add ev26 ev24i ev25i (by omega) (by omega)
  refine lv_ldc2 (v := 96) hx hb E.2.2.2.1 (E.2.2.2.2.1 _ w_1507) dX12_spelled_13 ?_
  refine lv_lsub hx hb dX12_spelled_16 (lv_topl (fun v28 ev28 => ?_))
  have ev28i : v28.toInt = ((((a0 - 96) * 32) + a1) - 96) := l_sub ev28 ev26i (show (96 : Int64).toInt = 96 from by decide) (by omega) (by omega)
  refine lv_lstore hx hb dX12_spelled_17 hl (by decide) rfl (fun ls hl => ?_)
  have hl : lv_has ls 8 [(6, .long v28), (0, .int p0), (1, .int p1), (2, .int p2), (3, .int p3), (4, .int p4), (5, .int p5)] := hl
  refine lv_iload_n hx hb dX12_spelled_19 rfl (lv_at hl 3 rfl) ?_
  refine q_if_le hx hb (a := a2) e2 (tgt := 39) dX12_spelled_20 rfl (fun c29 => ?_) (fun c29 => ?_)
  · refine lv_lload hx hb dX12_spelled_39 (lv_at hl 0 rfl) ?_
    refine lv_lstore hx hb dX12_spelled_41 hl (by decide) rfl (fun ls hl => ?_)
    have hl : lv_has ls 8 [(6, .long v28), (0, .int p0), (1, .int p1), (2, .int p2), (3, .int p3), (4, .int p4), (5, .int p5)] := hl
    refine lv_iload_n hx hb dX12_spelled_43 rfl (lv_at hl 4 rfl) ?_
    refine q_if_le hx hb (a := a3) e3 (tgt := 63) dX12_spelled_44 rfl (fun c30 => ?_) (fun c30 => ?_)
    · refine lv_lload hx hb dX12_spelled_63 (lv_at hl 0 rfl) ?_
      refine lv_lstore hx hb dX12_spelled_65 hl (by decide) rfl (fun ls hl => ?_)
      have hl : lv_has ls 8 [(6, .long v28), (0, .int p0), (1, .int p1), (2, .int p2), (3, .int p3), (4, .int p4), (5, .int p5)] := hl
      refine lv_iload hx hb dX12_spelled_67 (lv_at hl 5 rfl) ?_
      refine q_if_le hx hb (a := a4) e4 (tgt := 89) dX12_spelled_69 rfl (fun c31 => ?_) (fun c31 => ?_)
      · refine lv_lload hx hb dX12_spelled_89 (lv_at hl 0 rfl) ?_
        refine lv_lstore hx hb dX12_spelled_91 hl (by decide) rfl (fun ls hl => ?_)
        have hl : lv_has ls 8 [(6, .long v28), (0, .int p0), (1, .int p1), (2, .int p2), (3, .int p3), (4, .int p4), (5, .int p5)] := hl
        refine lv_iload hx hb dX12_spelled_93 (lv_at hl 6 rfl) ?_
        refine q_if_le hx hb (a := a5) e5 (tgt := 115) dX12_spelled_95 rfl (fun c32 => ?_) (fun c32 => ?_)
        · refine lv_lload hx hb dX12_spelled_115 (lv_at hl 0 rfl) ?_
          exact ret v28 H0 [] _ _ dX12_spelled_117 ⟨rfl, trivial⟩ hC0 hS0
        · refine lv_lload hx hb dX12_spelled_98 (lv_at hl 0 rfl) ?_
          refine lv_ldc2 (v := 32) hx hb E.2.2.2.1 (E.2.2.2.2.1 _ w_1506) dX12_spelled_100 ?_
          refine lv_lmul hx hb dX12_spelled_103 (lv_topl (fun v33 ev33 => ?_))
          have ev33i : v33.toInt = (((((a0 - 96) * 32) + a1) - 96) * 32) := l_mul ev33 ev28i (show (32 : Int64).toInt = 32 from by decide) (by omega) (by omega)
          refine lv_iload hx hb dX12_spelled_104 (lv_at hl 6 rfl) ?_
          refine lv_i2l (v := p5.toInt64) hx hb dX12_spelled_106 rfl (lv_topl (fun v34 ev34 => ?_))
          have ev34i : v34.toInt = a5 := l_ofi ev34.symm e5
          refine lv_ladd hx hb dX12_spelled_107 (lv_topl (fun v35 ev35 => ?_))
          have c36 := i_rng p5; rw [show p5.toInt = a5 from e5] at c36
          have ev35i : v35.toInt = ((((((a0 - 96) * 32) + a1) - 96) * 32) + a5) := l_add ev35 ev33i ev34i (by omega) (by omega)
          refine lv_ldc2 (v := 96) hx hb E.2.2.2.1 (E.2.2.2.2.1 _ w_1507) dX12_spelled_108 ?_
          refine lv_lsub hx hb dX12_spelled_111 (lv_topl (fun v37 ev37 => ?_))
          have ev37i : v37.toInt = (((((((a0 - 96) * 32) + a1) - 96) * 32) + a5) - 96) := l_sub ev37 ev35i (show (96 : Int64).toInt = 96 from by decide) (by omega) (by omega)
          refine lv_goto (tgt := 117) hx hb dX12_spelled_112 rfl ?_
          exact ret v37 H0 [] _ _ dX12_spelled_117 ⟨rfl, trivial⟩ hC0 hS0
      · refine lv_lload hx hb dX12_spelled_72 (lv_at hl 0 rfl) ?_
        refine lv_ldc2 (v := 32) hx hb E.2.2.2.1 (E.2.2.2.2.1 _ w_1506) dX12_spelled_74 ?_
        refine lv_lmul hx hb dX12_spelled_77 (lv_topl (fun v38 ev38 => ?_))
        have ev38i : v38.toInt = (((((a0 - 96) * 32) + a1) - 96) * 32) := l_mul ev38 ev28i (show (32 : Int64).toInt = 32 from by decide) (by omega) (by omega)
        refine lv_iload hx hb dX12_spelled_78 (lv_at hl 5 rfl) ?_
        refine lv_i2l (v := p4.toInt64) hx hb dX12_spelled_80 rfl (lv_topl (fun v39 ev39 => ?_))
        have ev39i : v39.toInt = a4 := l_ofi ev39.symm e4
        refine lv_ladd hx hb dX12_spelled_81 (lv_topl (fun v40 ev40 => ?_))
        have c41 := i_rng p4; rw [show p4.toInt = a4 from e4] at c41
        have ev40i : v40.toInt = ((((((a0 - 96) * 32) + a1) - 96) * 32) + a4) := l_add ev40 ev38i ev39i (by omega) (by omega)
        refine lv_ldc2 (v := 96) hx hb E.2.2.2.1 (E.2.2.2.2.1 _ w_1507) dX12_spelled_82 ?_
        refine lv_lsub hx hb dX12_spelled_85 (lv_topl (fun v42 ev42 => ?_))
        have ev42i : v42.toInt = (((((((a0 - 96) * 32) + a1) - 96) * 32) + a4) - 96) := l_sub ev42 ev40i (show (96 : Int64).toInt = 96 from by decide) (by omega) (by omega)
        refine lv_goto (tgt := 91) hx hb dX12_spelled_86 rfl ?_
        refine lv_lstore hx hb dX12_spelled_91 hl (by decide) rfl (fun ls hl => ?_)
        have hl : lv_has ls 8 [(6, .long v42), (0, .int p0), (1, .int p1), (2, .int p2), (3, .int p3), (4, .int p4), (5, .int p5)] := hl
        refine lv_iload hx hb dX12_spelled_93 (lv_at hl 6 rfl) ?_
        refine q_if_le hx hb (a := a5) e5 (tgt := 115) dX12_spelled_95 rfl (fun c43 => ?_) (fun c43 => ?_)
        · refine lv_lload hx hb dX12_spelled_115 (lv_at hl 0 rfl) ?_
          exact ret v42 H0 [] _ _ dX12_spelled_117 ⟨rfl, trivial⟩ hC0 hS0
        · refine lv_lload hx hb dX12_spelled_98 (lv_at hl 0 rfl) ?_
          refine lv_ldc2 (v := 32) hx hb E.2.2.2.1 (E.2.2.2.2.1 _ w_1506) dX12_spelled_100 ?_
          refine lv_lmul hx hb dX12_spelled_103 (lv_topl (fun v44 ev44 => ?_))
          have ev44i : v44.toInt = ((((((((a0 - 96) * 32) + a1) - 96) * 32) + a4) - 96) * 32) := l_mul ev44 ev42i (show (32 : Int64).toInt = 32 from by decide) (by omega) (by omega)
          refine lv_iload hx hb dX12_spelled_104 (lv_at hl 6 rfl) ?_
          refine lv_i2l (v := p5.toInt64) hx hb dX12_spelled_106 rfl (lv_topl (fun v45 ev45 => ?_))
          have ev45i : v45.toInt = a5 := l_ofi ev45.symm e5
          refine lv_ladd hx hb dX12_spelled_107 (lv_topl (fun v46 ev46 => ?_))
          have c47 := i_rng p5; rw [show p5.toInt = a5 from e5] at c47
          have ev46i : v46.toInt = (((((((((a0 - 96) * 32) + a1) - 96) * 32) + a4) - 96) * 32) + a5) := l_add ev46 ev44i ev45i (by omega) (by omega)
          refine lv_ldc2 (v := 96) hx hb E.2.2.2.1 (E.2.2.2.2.1 _ w_1507) dX12_spelled_108 ?_
          refine lv_lsub hx hb dX12_spelled_111 (lv_topl (fun v48 ev48 => ?_))
          have ev48i : v48.toInt = ((((((((((a0 - 96) * 32) + a1) - 96) * 32) + a4) - 96) * 32) + a5) - 96) := l_sub ev48 ev46i (show (96 : Int64).toInt = 96 from by decide) (by omega) (by omega)
          refine lv_goto (tgt := 117) hx hb dX12_spelled_112 rfl ?_
          exact ret v48 H0 [] _ _ dX12_spelled_117 ⟨rfl, trivial⟩ hC0 hS0
    · refine lv_lload hx hb dX12_spelled_47 (lv_at hl 0 rfl) ?_
      refine lv_ldc2 (v := 32) hx hb E.2.2.2.1 (E.2.2.2.2.1 _ w_1506) dX12_spelled_49 ?_
      refine lv_lmul hx hb dX12_spelled_52 (lv_topl (fun v49 ev49 => ?_))
      have ev49i : v49.toInt = (((((a0 - 96) * 32) + a1) - 96) * 32) := l_mul ev49 ev28i (show (32 : Int64).toInt = 32 from by decide) (by omega) (by omega)
      refine lv_iload_n hx hb dX12_spelled_53 rfl (lv_at hl 4 rfl) ?_
      refine lv_i2l (v := p3.toInt64) hx hb dX12_spelled_54 rfl (lv_topl (fun v50 ev50 => ?_))
      have ev50i : v50.toInt = a3 := l_ofi ev50.symm e3
      refine lv_ladd hx hb dX12_spelled_55 (lv_topl (fun v51 ev51 => ?_))
      have c52 := i_rng p3; rw [show p3.toInt = a3 from e3] at c52
      have ev51i : v51.toInt = ((((((a0 - 96) * 32) + a1) - 96) * 32) + a3) := l_add ev51 ev49i ev50i (by omega) (by omega)
      refine lv_ldc2 (v := 96) hx hb E.2.2.2.1 (E.2.2.2.2.1 _ w_1507) dX12_spelled_56 ?_
      refine lv_lsub hx hb dX12_spelled_59 (lv_topl (fun v53 ev53 => ?_))
      have ev53i : v53.toInt = (((((((a0 - 96) * 32) + a1) - 96) * 32) + a3) - 96) := l_sub ev53 ev51i (show (96 : Int64).toInt = 96 from by decide) (by omega) (by omega)
      refine lv_goto (tgt := 65) hx hb dX12_spelled_60 rfl ?_
      refine lv_lstore hx hb dX12_spelled_65 hl (by decide) rfl (fun ls hl => ?_)
      have hl : lv_has ls 8 [(6, .long v53), (0, .int p0), (1, .int p1), (2, .int p2), (3, .int p3), (4, .int p4), (5, .int p5)] := hl
      refine lv_iload hx hb dX12_spelled_67 (lv_at hl 5 rfl) ?_
      refine q_if_le hx hb (a := a4) e4 (tgt := 89) dX12_spelled_69 rfl (fun c54 => ?_) (fun c54 => ?_)
      · refine lv_lload hx hb dX12_spelled_89 (lv_at hl 0 rfl) ?_
        refine lv_lstore hx hb dX12_spelled_91 hl (by decide) rfl (fun ls hl => ?_)
        have hl : lv_has ls 8 [(6, .long v53), (0, .int p0), (1, .int p1), (2, .int p2), (3, .int p3), (4, .int p4), (5, .int p5)] := hl
        refine lv_iload hx hb dX12_spelled_93 (lv_at hl 6 rfl) ?_
        refine q_if_le hx hb (a := a5) e5 (tgt := 115) dX12_spelled_95 rfl (fun c55 => ?_) (fun c55 => ?_)
        · refine lv_lload hx hb dX12_spelled_115 (lv_at hl 0 rfl) ?_
          exact ret v53 H0 [] _ _ dX12_spelled_117 ⟨rfl, trivial⟩ hC0 hS0
        · refine lv_lload hx hb dX12_spelled_98 (lv_at hl 0 rfl) ?_
          refine lv_ldc2 (v := 32) hx hb E.2.2.2.1 (E.2.2.2.2.1 _ w_1506) dX12_spelled_100 ?_
          refine lv_lmul hx hb dX12_spelled_103 (lv_topl (fun v56 ev56 => ?_))
          have ev56i : v56.toInt = ((((((((a0 - 96) * 32) + a1) - 96) * 32) + a3) - 96) * 32) := l_mul ev56 ev53i (show (32 : Int64).toInt = 32 from by decide) (by omega) (by omega)
          refine lv_iload hx hb dX12_spelled_104 (lv_at hl 6 rfl) ?_
          refine lv_i2l (v := p5.toInt64) hx hb dX12_spelled_106 rfl (lv_topl (fun v57 ev57 => ?_))
          have ev57i : v57.toInt = a5 := l_ofi ev57.symm e5
          refine lv_ladd hx hb dX12_spelled_107 (lv_topl (fun v58 ev58 => ?_))
          have c59 := i_rng p5; rw [show p5.toInt = a5 from e5] at c59
          have ev58i : v58.toInt = (((((((((a0 - 96) * 32) + a1) - 96) * 32) + a3) - 96) * 32) + a5) := l_add ev58 ev56i ev57i (by omega) (by omega)
          refine lv_ldc2 (v := 96) hx hb E.2.2.2.1 (E.2.2.2.2.1 _ w_1507) dX12_spelled_108 ?_
          refine lv_lsub hx hb dX12_spelled_111 (lv_topl (fun v60 ev60 => ?_))
          have ev60i : v60.toInt = ((((((((((a0 - 96) * 32) + a1) - 96) * 32) + a3) - 96) * 32) + a5) - 96) := l_sub ev60 ev58i (show (96 : Int64).toInt = 96 from by decide) (by omega) (by omega)
          refine lv_goto (tgt := 117) hx hb dX12_spelled_112 rfl ?_
          exact ret v60 H0 [] _ _ dX12_spelled_117 ⟨rfl, trivial⟩ hC0 hS0
      · refine lv_lload hx hb dX12_spelled_72 (lv_at hl 0 rfl) ?_
        refine lv_ldc2 (v := 32) hx hb E.2.2.2.1 (E.2.2.2.2.1 _ w_1506) dX12_spelled_74 ?_
        refine lv_lmul hx hb dX12_spelled_77 (lv_topl (fun v61 ev61 => ?_))
        have ev61i : v61.toInt = ((((((((a0 - 96) * 32) + a1) - 96) * 32) + a3) - 96) * 32) := l_mul ev61 ev53i (show (32 : Int64).toInt = 32 from by decide) (by omega) (by omega)
        refine lv_iload hx hb dX12_spelled_78 (lv_at hl 5 rfl) ?_
        refine lv_i2l (v := p4.toInt64) hx hb dX12_spelled_80 rfl (lv_topl (fun v62 ev62 => ?_))
        have ev62i : v62.toInt = a4 := l_ofi ev62.symm e4
        refine lv_ladd hx hb dX12_spelled_81 (lv_topl (fun v63 ev63 => ?_))
        have c64 := i_rng p4; rw [show p4.toInt = a4 from e4] at c64
        have ev63i : v63.toInt = (((((((((a0 - 96) * 32) + a1) - 96) * 32) + a3) - 96) * 32) + a4) := l_add ev63 ev61i ev62i (by omega) (by omega)
        refine lv_ldc2 (v := 96) hx hb E.2.2.2.1 (E.2.2.2.2.1 _ w_1507) dX12_spelled_82 ?_
        refine lv_lsub hx hb dX12_spelled_85 (lv_topl (fun v65 ev65 => ?_))
        have ev65i : v65.toInt = ((((((((((a0 - 96) * 32) + a1) - 96) * 32) + a3) - 96) * 32) + a4) - 96) := l_sub ev65 ev63i (show (96 : Int64).toInt = 96 from by decide) (by omega) (by omega)
        refine lv_goto (tgt := 91) hx hb dX12_spelled_86 rfl ?_
        refine lv_lstore hx hb dX12_spelled_91 hl (by decide) rfl (fun ls hl => ?_)
        have hl : lv_has ls 8 [(6, .long v65), (0, .int p0), (1, .int p1), (2, .int p2), (3, .int p3), (4, .int p4), (5, .int p5)] := hl
        refine lv_iload hx hb dX12_spelled_93 (lv_at hl 6 rfl) ?_
        refine q_if_le hx hb (a := a5) e5 (tgt := 115) dX12_spelled_95 rfl (fun c66 => ?_) (fun c66 => ?_)
        · refine lv_lload hx hb dX12_spelled_115 (lv_at hl 0 rfl) ?_
          exact ret v65 H0 [] _ _ dX12_spelled_117 ⟨rfl, trivial⟩ hC0 hS0
        · refine lv_lload hx hb dX12_spelled_98 (lv_at hl 0 rfl) ?_
          refine lv_ldc2 (v := 32) hx hb E.2.2.2.1 (E.2.2.2.2.1 _ w_1506) dX12_spelled_100 ?_
          refine lv_lmul hx hb dX12_spelled_103 (lv_topl (fun v67 ev67 => ?_))
          have ev67i : v67.toInt = (((((((((((a0 - 96) * 32) + a1) - 96) * 32) + a3) - 96) * 32) + a4) - 96) * 32) := l_mul ev67 ev65i (show (32 : Int64).toInt = 32 from by decide) (by omega) (by omega)
          refine lv_iload hx hb dX12_spelled_104 (lv_at hl 6 rfl) ?_
          refine lv_i2l (v := p5.toInt64) hx hb dX12_spelled_106 rfl (lv_topl (fun v68 ev68 => ?_))
          have ev68i : v68.toInt = a5 := l_ofi ev68.symm e5
          refine lv_ladd hx hb dX12_spelled_107 (lv_topl (fun v69 ev69 => ?_))
          have c70 := i_rng p5; rw [show p5.toInt = a5 from e5] at c70
          have ev69i : v69.toInt = ((((((((((((a0 - 96) * 32) + a1) - 96) * 32) + a3) - 96) * 32) + a4) - 96) * 32) + a5) := l_add ev69 ev67i ev68i (by omega) (by omega)
          refine lv_ldc2 (v := 96) hx hb E.2.2.2.1 (E.2.2.2.2.1 _ w_1507) dX12_spelled_108 ?_
          refine lv_lsub hx hb dX12_spelled_111 (lv_topl (fun v71 ev71 => ?_))
          have ev71i : v71.toInt = (((((((((((((a0 - 96) * 32) + a1) - 96) * 32) + a3) - 96) * 32) + a4) - 96) * 32) + a5) - 96) := l_sub ev71 ev69i (show (96 : Int64).toInt = 96 from by decide) (by omega) (by omega)
          refine lv_goto (tgt := 117) hx hb dX12_spelled_112 rfl ?_
          exact ret v71 H0 [] _ _ dX12_spelled_117 ⟨rfl, trivial⟩ hC0 hS0
  · refine lv_lload hx hb dX12_spelled_23 (lv_at hl 0 rfl) ?_
    refine lv_ldc2 (v := 32) hx hb E.2.2.2.1 (E.2.2.2.2.1 _ w_1506) dX12_spelled_25 ?_
    refine lv_lmul hx hb dX12_spelled_28 (lv_topl (fun v72 ev72 => ?_))
    have ev72i : v72.toInt = (((((a0 - 96) * 32) + a1) - 96) * 32) := l_mul ev72 ev28i (show (32 : Int64).toInt = 32 from by decide) (by omega) (by omega)
    refine lv_iload_n hx hb dX12_spelled_29 rfl (lv_at hl 3 rfl) ?_
    refine lv_i2l (v := p2.toInt64) hx hb dX12_spelled_30 rfl (lv_topl (fun v73 ev73 => ?_))
    have ev73i : v73.toInt = a2 := l_ofi ev73.symm e2
    refine lv_ladd hx hb dX12_spelled_31 (lv_topl (fun v74 ev74 => ?_))
    have c75 := i_rng p2; rw [show p2.toInt = a2 from e2] at c75
    have ev74i : v74.toInt = ((((((a0 - 96) * 32) + a1) - 96) * 32) + a2) := l_add ev74 ev72i ev73i (by omega) (by omega)
    refine lv_ldc2 (v := 96) hx hb E.2.2.2.1 (E.2.2.2.2.1 _ w_1507) dX12_spelled_32 ?_
    refine lv_lsub hx hb dX12_spelled_35 (lv_topl (fun v76 ev76 => ?_))
    have ev76i : v76.toInt = (((((((a0 - 96) * 32) + a1) - 96) * 32) + a2) - 96) := l_sub ev76 ev74i (show (96 : Int64).toInt = 96 from by decide) (by omega) (by omega)
    refine lv_goto (tgt := 41) hx hb dX12_spelled_36 rfl ?_
    refine lv_lstore hx hb dX12_spelled_41 hl (by decide) rfl (fun ls hl => ?_)
    have hl : lv_has ls 8 [(6, .long v76), (0, .int p0), (1, .int p1), (2, .int p2), (3, .int p3), (4, .int p4), (5, .int p5)] := hl
    refine lv_iload_n hx hb dX12_spelled_43 rfl (lv_at hl 4 rfl) ?_
    refine q_if_le hx hb (a := a3) e3 (tgt := 63) dX12_spelled_44 rfl (fun c77 => ?_) (fun c77 => ?_)
    · refine lv_lload hx hb dX12_spelled_63 (lv_at hl 0 rfl) ?_
      refine lv_lstore hx hb dX12_spelled_65 hl (by decide) rfl (fun ls hl => ?_)
      have hl : lv_has ls 8 [(6, .long v76), (0, .int p0), (1, .int p1), (2, .int p2), (3, .int p3), (4, .int p4), (5, .int p5)] := hl
      refine lv_iload hx hb dX12_spelled_67 (lv_at hl 5 rfl) ?_
      refine q_if_le hx hb (a := a4) e4 (tgt := 89) dX12_spelled_69 rfl (fun c78 => ?_) (fun c78 => ?_)
      · refine lv_lload hx hb dX12_spelled_89 (lv_at hl 0 rfl) ?_
        refine lv_lstore hx hb dX12_spelled_91 hl (by decide) rfl (fun ls hl => ?_)
        have hl : lv_has ls 8 [(6, .long v76), (0, .int p0), (1, .int p1), (2, .int p2), (3, .int p3), (4, .int p4), (5, .int p5)] := hl
        refine lv_iload hx hb dX12_spelled_93 (lv_at hl 6 rfl) ?_
        refine q_if_le hx hb (a := a5) e5 (tgt := 115) dX12_spelled_95 rfl (fun c79 => ?_) (fun c79 => ?_)
        · refine lv_lload hx hb dX12_spelled_115 (lv_at hl 0 rfl) ?_
          exact ret v76 H0 [] _ _ dX12_spelled_117 ⟨rfl, trivial⟩ hC0 hS0
        · refine lv_lload hx hb dX12_spelled_98 (lv_at hl 0 rfl) ?_
          refine lv_ldc2 (v := 32) hx hb E.2.2.2.1 (E.2.2.2.2.1 _ w_1506) dX12_spelled_100 ?_
          refine lv_lmul hx hb dX12_spelled_103 (lv_topl (fun v80 ev80 => ?_))
          have ev80i : v80.toInt = ((((((((a0 - 96) * 32) + a1) - 96) * 32) + a2) - 96) * 32) := l_mul ev80 ev76i (show (32 : Int64).toInt = 32 from by decide) (by omega) (by omega)
          refine lv_iload hx hb dX12_spelled_104 (lv_at hl 6 rfl) ?_
          refine lv_i2l (v := p5.toInt64) hx hb dX12_spelled_106 rfl (lv_topl (fun v81 ev81 => ?_))
          have ev81i : v81.toInt = a5 := l_ofi ev81.symm e5
          refine lv_ladd hx hb dX12_spelled_107 (lv_topl (fun v82 ev82 => ?_))
          have c83 := i_rng p5; rw [show p5.toInt = a5 from e5] at c83
          have ev82i : v82.toInt = (((((((((a0 - 96) * 32) + a1) - 96) * 32) + a2) - 96) * 32) + a5) := l_add ev82 ev80i ev81i (by omega) (by omega)
          refine lv_ldc2 (v := 96) hx hb E.2.2.2.1 (E.2.2.2.2.1 _ w_1507) dX12_spelled_108 ?_
          refine lv_lsub hx hb dX12_spelled_111 (lv_topl (fun v84 ev84 => ?_))
          have ev84i : v84.toInt = ((((((((((a0 - 96) * 32) + a1) - 96) * 32) + a2) - 96) * 32) + a5) - 96) := l_sub ev84 ev82i (show (96 : Int64).toInt = 96 from by decide) (by omega) (by omega)
          refine lv_goto (tgt := 117) hx hb dX12_spelled_112 rfl ?_
          exact ret v84 H0 [] _ _ dX12_spelled_117 ⟨rfl, trivial⟩ hC0 hS0
      · refine lv_lload hx hb dX12_spelled_72 (lv_at hl 0 rfl) ?_
        refine lv_ldc2 (v := 32) hx hb E.2.2.2.1 (E.2.2.2.2.1 _ w_1506) dX12_spelled_74 ?_
        refine lv_lmul hx hb dX12_spelled_77 (lv_topl (fun v85 ev85 => ?_))
        have ev85i : v85.toInt = ((((((((a0 - 96) * 32) + a1) - 96) * 32) + a2) - 96) * 32) := l_mul ev85 ev76i (show (32 : Int64).toInt = 32 from by decide) (by omega) (by omega)
        refine lv_iload hx hb dX12_spelled_78 (lv_at hl 5 rfl) ?_
        refine lv_i2l (v := p4.toInt64) hx hb dX12_spelled_80 rfl (lv_topl (fun v86 ev86 => ?_))
        have ev86i : v86.toInt = a4 := l_ofi ev86.symm e4
        refine lv_ladd hx hb dX12_spelled_81 (lv_topl (fun v87 ev87 => ?_))
        have c88 := i_rng p4; rw [show p4.toInt = a4 from e4] at c88
        have ev87i : v87.toInt = (((((((((a0 - 96) * 32) + a1) - 96) * 32) + a2) - 96) * 32) + a4) := l_add ev87 ev85i ev86i (by omega) (by omega)
        refine lv_ldc2 (v := 96) hx hb E.2.2.2.1 (E.2.2.2.2.1 _ w_1507) dX12_spelled_82 ?_
        refine lv_lsub hx hb dX12_spelled_85 (lv_topl (fun v89 ev89 => ?_))
        have ev89i : v89.toInt = ((((((((((a0 - 96) * 32) + a1) - 96) * 32) + a2) - 96) * 32) + a4) - 96) := l_sub ev89 ev87i (show (96 : Int64).toInt = 96 from by decide) (by omega) (by omega)
        refine lv_goto (tgt := 91) hx hb dX12_spelled_86 rfl ?_
        refine lv_lstore hx hb dX12_spelled_91 hl (by decide) rfl (fun ls hl => ?_)
        have hl : lv_has ls 8 [(6, .long v89), (0, .int p0), (1, .int p1), (2, .int p2), (3, .int p3), (4, .int p4), (5, .int p5)] := hl
        refine lv_iload hx hb dX12_spelled_93 (lv_at hl 6 rfl) ?_
        refine q_if_le hx hb (a := a5) e5 (tgt := 115) dX12_spelled_95 rfl (fun c90 => ?_) (fun c90 => ?_)
        · refine lv_lload hx hb dX12_spelled_115 (lv_at hl 0 rfl) ?_
          exact ret v89 H0 [] _ _ dX12_spelled_117 ⟨rfl, trivial⟩ hC0 hS0
        · refine lv_lload hx hb dX12_spelled_98 (lv_at hl 0 rfl) ?_
          refine lv_ldc2 (v := 32) hx hb E.2.2.2.1 (E.2.2.2.2.1 _ w_1506) dX12_spelled_100 ?_
          refine lv_lmul hx hb dX12_spelled_103 (lv_topl (fun v91 ev91 => ?_))
          have ev91i : v91.toInt = (((((((((((a0 - 96) * 32) + a1) - 96) * 32) + a2) - 96) * 32) + a4) - 96) * 32) := l_mul ev91 ev89i (show (32 : Int64).toInt = 32 from by decide) (by omega) (by omega)
          refine lv_iload hx hb dX12_spelled_104 (lv_at hl 6 rfl) ?_
          refine lv_i2l (v := p5.toInt64) hx hb dX12_spelled_106 rfl (lv_topl (fun v92 ev92 => ?_))
          have ev92i : v92.toInt = a5 := l_ofi ev92.symm e5
          refine lv_ladd hx hb dX12_spelled_107 (lv_topl (fun v93 ev93 => ?_))
          have c94 := i_rng p5; rw [show p5.toInt = a5 from e5] at c94
          have ev93i : v93.toInt = ((((((((((((a0 - 96) * 32) + a1) - 96) * 32) + a2) - 96) * 32) + a4) - 96) * 32) + a5) := l_add ev93 ev91i ev92i (by omega) (by omega)
          refine lv_ldc2 (v := 96) hx hb E.2.2.2.1 (E.2.2.2.2.1 _ w_1507) dX12_spelled_108 ?_
          refine lv_lsub hx hb dX12_spelled_111 (lv_topl (fun v95 ev95 => ?_))
          have ev95i : v95.toInt = (((((((((((((a0 - 96) * 32) + a1) - 96) * 32) + a2) - 96) * 32) + a4) - 96) * 32) + a5) - 96) := l_sub ev95 ev93i (show (96 : Int64).toInt = 96 from by decide) (by omega) (by omega)
          refine lv_goto (tgt := 117) hx hb dX12_spelled_112 rfl ?_
          exact ret v95 H0 [] _ _ dX12_spelled_117 ⟨rfl, trivial⟩ hC0 hS0
    · refine lv_lload hx hb dX12_spelled_47 (lv_at hl 0 rfl) ?_
      refine lv_ldc2 (v := 32) hx hb E.2.2.2.1 (E.2.2.2.2.1 _ w_1506) dX12_spelled_49 ?_
      refine lv_lmul hx hb dX12_spelled_52 (lv_topl (fun v96 ev96 => ?_))
      have ev96i : v96.toInt = ((((((((a0 - 96) * 32) + a1) - 96) * 32) + a2) - 96) * 32) := l_mul ev96 ev76i (show (32 : Int64).toInt = 32 from by decide) (by omega) (by omega)
      refine lv_iload_n hx hb dX12_spelled_53 rfl (lv_at hl 4 rfl) ?_
      refine lv_i2l (v := p3.toInt64) hx hb dX12_spelled_54 rfl (lv_topl (fun v97 ev97 => ?_))
      have ev97i : v97.toInt = a3 := l_ofi ev97.symm e3
      refine lv_ladd hx hb dX12_spelled_55 (lv_topl (fun v98 ev98 => ?_))
      have c99 := i_rng p3; rw [show p3.toInt = a3 from e3] at c99
      have ev98i : v98.toInt = (((((((((a0 - 96) * 32) + a1) - 96) * 32) + a2) - 96) * 32) + a3) := l_add ev98 ev96i ev97i (by omega) (by omega)
      refine lv_ldc2 (v := 96) hx hb E.2.2.2.1 (E.2.2.2.2.1 _ w_1507) dX12_spelled_56 ?_
      refine lv_lsub hx hb dX12_spelled_59 (lv_topl (fun v100 ev100 => ?_))
      have ev100i : v100.toInt = ((((((((((a0 - 96) * 32) + a1) - 96) * 32) + a2) - 96) * 32) + a3) - 96) := l_sub ev100 ev98i (show (96 : Int64).toInt = 96 from by decide) (by omega) (by omega)
      refine lv_goto (tgt := 65) hx hb dX12_spelled_60 rfl ?_
      refine lv_lstore hx hb dX12_spelled_65 hl (by decide) rfl (fun ls hl => ?_)
      have hl : lv_has ls 8 [(6, .long v100), (0, .int p0), (1, .int p1), (2, .int p2), (3, .int p3), (4, .int p4), (5, .int p5)] := hl
      refine lv_iload hx hb dX12_spelled_67 (lv_at hl 5 rfl) ?_
      refine q_if_le hx hb (a := a4) e4 (tgt := 89) dX12_spelled_69 rfl (fun c101 => ?_) (fun c101 => ?_)
      · refine lv_lload hx hb dX12_spelled_89 (lv_at hl 0 rfl) ?_
        refine lv_lstore hx hb dX12_spelled_91 hl (by decide) rfl (fun ls hl => ?_)
        have hl : lv_has ls 8 [(6, .long v100), (0, .int p0), (1, .int p1), (2, .int p2), (3, .int p3), (4, .int p4), (5, .int p5)] := hl
        refine lv_iload hx hb dX12_spelled_93 (lv_at hl 6 rfl) ?_
        refine q_if_le hx hb (a := a5) e5 (tgt := 115) dX12_spelled_95 rfl (fun c102 => ?_) (fun c102 => ?_)
        · refine lv_lload hx hb dX12_spelled_115 (lv_at hl 0 rfl) ?_
          exact ret v100 H0 [] _ _ dX12_spelled_117 ⟨rfl, trivial⟩ hC0 hS0
        · refine lv_lload hx hb dX12_spelled_98 (lv_at hl 0 rfl) ?_
          refine lv_ldc2 (v := 32) hx hb E.2.2.2.1 (E.2.2.2.2.1 _ w_1506) dX12_spelled_100 ?_
          refine lv_lmul hx hb dX12_spelled_103 (lv_topl (fun v103 ev103 => ?_))
          have ev103i : v103.toInt = (((((((((((a0 - 96) * 32) + a1) - 96) * 32) + a2) - 96) * 32) + a3) - 96) * 32) := l_mul ev103 ev100i (show (32 : Int64).toInt = 32 from by decide) (by omega) (by omega)
          refine lv_iload hx hb dX12_spelled_104 (lv_at hl 6 rfl) ?_
          refine lv_i2l (v := p5.toInt64) hx hb dX12_spelled_106 rfl (lv_topl (fun v104 ev104 => ?_))
          have ev104i : v104.toInt = a5 := l_ofi ev104.symm e5
          refine lv_ladd hx hb dX12_spelled_107 (lv_topl (fun v105 ev105 => ?_))
          have c106 := i_rng p5; rw [show p5.toInt = a5 from e5] at c106
          have ev105i : v105.toInt = ((((((((((((a0 - 96) * 32) + a1) - 96) * 32) + a2) - 96) * 32) + a3) - 96) * 32) + a5) := l_add ev105 ev103i ev104i (by omega) (by omega)
          refine lv_ldc2 (v := 96) hx hb E.2.2.2.1 (E.2.2.2.2.1 _ w_1507) dX12_spelled_108 ?_
          refine lv_lsub hx hb dX12_spelled_111 (lv_topl (fun v107 ev107 => ?_))
          have ev107i : v107.toInt = (((((((((((((a0 - 96) * 32) + a1) - 96) * 32) + a2) - 96) * 32) + a3) - 96) * 32) + a5) - 96) := l_sub ev107 ev105i (show (96 : Int64).toInt = 96 from by decide) (by omega) (by omega)
          refine lv_goto (tgt := 117) hx hb dX12_spelled_112 rfl ?_
          exact ret v107 H0 [] _ _ dX12_spelled_117 ⟨rfl, trivial⟩ hC0 hS0
      · refine lv_lload hx hb dX12_spelled_72 (lv_at hl 0 rfl) ?_
        refine lv_ldc2 (v := 32) hx hb E.2.2.2.1 (E.2.2.2.2.1 _ w_1506) dX12_spelled_74 ?_
        refine lv_lmul hx hb dX12_spelled_77 (lv_topl (fun v108 ev108 => ?_))
        have ev108i : v108.toInt = (((((((((((a0 - 96) * 32) + a1) - 96) * 32) + a2) - 96) * 32) + a3) - 96) * 32) := l_mul ev108 ev100i (show (32 : Int64).toInt = 32 from by decide) (by omega) (by omega)
        refine lv_iload hx hb dX12_spelled_78 (lv_at hl 5 rfl) ?_
        refine lv_i2l (v := p4.toInt64) hx hb dX12_spelled_80 rfl (lv_topl (fun v109 ev109 => ?_))
        have ev109i : v109.toInt = a4 := l_ofi ev109.symm e4
        refine lv_ladd hx hb dX12_spelled_81 (lv_topl (fun v110 ev110 => ?_))
        have c111 := i_rng p4; rw [show p4.toInt = a4 from e4] at c111
        have ev110i : v110.toInt = ((((((((((((a0 - 96) * 32) + a1) - 96) * 32) + a2) - 96) * 32) + a3) - 96) * 32) + a4) := l_add ev110 ev108i ev109i (by omega) (by omega)
        refine lv_ldc2 (v := 96) hx hb E.2.2.2.1 (E.2.2.2.2.1 _ w_1507) dX12_spelled_82 ?_
        refine lv_lsub hx hb dX12_spelled_85 (lv_topl (fun v112 ev112 => ?_))
        have ev112i : v112.toInt = (((((((((((((a0 - 96) * 32) + a1) - 96) * 32) + a2) - 96) * 32) + a3) - 96) * 32) + a4) - 96) := l_sub ev112 ev110i (show (96 : Int64).toInt = 96 from by decide) (by omega) (by omega)
        refine lv_goto (tgt := 91) hx hb dX12_spelled_86 rfl ?_
        refine lv_lstore hx hb dX12_spelled_91 hl (by decide) rfl (fun ls hl => ?_)
        have hl : lv_has ls 8 [(6, .long v112), (0, .int p0), (1, .int p1), (2, .int p2), (3, .int p3), (4, .int p4), (5, .int p5)] := hl
        refine lv_iload hx hb dX12_spelled_93 (lv_at hl 6 rfl) ?_
        refine q_if_le hx hb (a := a5) e5 (tgt := 115) dX12_spelled_95 rfl (fun c113 => ?_) (fun c113 => ?_)
        · refine lv_lload hx hb dX12_spelled_115 (lv_at hl 0 rfl) ?_
          exact ret v112 H0 [] _ _ dX12_spelled_117 ⟨rfl, trivial⟩ hC0 hS0
        · refine lv_lload hx hb dX12_spelled_98 (lv_at hl 0 rfl) ?_
          refine lv_ldc2 (v := 32) hx hb E.2.2.2.1 (E.2.2.2.2.1 _ w_1506) dX12_spelled_100 ?_
          refine lv_lmul hx hb dX12_spelled_103 (lv_topl (fun v114 ev114 => ?_))
          have ev114i : v114.toInt = ((((((((((((((a0 - 96) * 32) + a1) - 96) * 32) + a2) - 96) * 32) + a3) - 96) * 32) + a4) - 96) * 32) := l_mul ev114 ev112i (show (32 : Int64).toInt = 32 from by decide) (by omega) (by omega)
          refine lv_iload hx hb dX12_spelled_104 (lv_at hl 6 rfl) ?_
          refine lv_i2l (v := p5.toInt64) hx hb dX12_spelled_106 rfl (lv_topl (fun v115 ev115 => ?_))
          have ev115i : v115.toInt = a5 := l_ofi ev115.symm e5
          refine lv_ladd hx hb dX12_spelled_107 (lv_topl (fun v116 ev116 => ?_))
          have c117 := i_rng p5; rw [show p5.toInt = a5 from e5] at c117
          have ev116i : v116.toInt = (((((((((((((((a0 - 96) * 32) + a1) - 96) * 32) + a2) - 96) * 32) + a3) - 96) * 32) + a4) - 96) * 32) + a5) := l_add ev116 ev114i ev115i (by omega) (by omega)
          refine lv_ldc2 (v := 96) hx hb E.2.2.2.1 (E.2.2.2.2.1 _ w_1507) dX12_spelled_108 ?_
          refine lv_lsub hx hb dX12_spelled_111 (lv_topl (fun v118 ev118 => ?_))
          have ev118i : v118.toInt = ((((((((((((((((a0 - 96) * 32) + a1) - 96) * 32) + a2) - 96) * 32) + a3) - 96) * 32) + a4) - 96) * 32) + a5) - 96) := l_sub ev118 ev116i (show (96 : Int64).toInt = 96 from by decide) (by omega) (by omega)
          refine lv_goto (tgt := 117) hx hb dX12_spelled_112 rfl ?_
          exact ret v118 H0 [] _ _ dX12_spelled_117 ⟨rfl, trivial⟩ hC0 hS0
set_option maxRecDepth 100000 in
set_option maxHeartbeats 4000000 in
theorem m_X12_isWord (l : Launch) (X : xW) (Γ : Nat → Option Nat) (H0 : Heap) (hC0 : Conf X Γ H0) (h0 : Nat) (g0 : Γ h0 = some 11) (p1 : Int64) {a1 : Int} (e1 : p1.toInt = a1) (ca : Nat) (gca : Γ ca = some 64) (uc : ∀ a, Γ a = some 64 → a = ca) : Ctr l X Γ yX12_isWord cX12_isWord 3 (some .boolean) 0 [.ref h0, .long p1] H0 (QI X Γ (fun v H1 => H1 = H0 ∧ (v = 0 ∨ v = 1))) := by
  refine q_enterZ (own := "SnowFortsModel") (by decide) rfl (Nat.le_of_ble_eq_true rfl) ?_
  intro p e s m args below meth c ls Qz E hl ret hS0
  have hx := E.1; have hb := E.2.1
  have hl : lv_has ls 3 [(0, .ref h0), (1, .long p1)] := hl
  refine lv_aload_n hx hb dX12_isWord_0 rfl (lv_at hl 0 rfl) ?_
  refine q_getI E hC0 g0 fa_RX12_120 dX12_isWord_1 (fun v21 ev21 _ _ => ?_)
  refine lv_iconst (v := 1) hx hb dX12_isWord_4 rfl ?_
  refine q_icmp_ne hx hb (a := v21.toInt) (b := 1) rfl (by decide) (tgt := 21) dX12_isWord_5 rfl (fun c22 => ?_) (fun c22 => ?_)
  · refine lv_iconst (v := 0) hx hb dX12_isWord_21 rfl ?_
    exact ret 0 H0 [] _ _ dX12_isWord_22 (Or.inl rfl) ⟨rfl, Or.inl rfl⟩ hC0 hS0
  · refine lv_aload_n hx hb dX12_isWord_8 rfl (lv_at hl 0 rfl) ?_
    refine q_getJ E hC0 g0 fa_RX12_126 dX12_isWord_9 (fun v23 ev23 => ?_)
    refine lv_lload_n hx hb dX12_isWord_12 rfl (lv_at hl 1 rfl) ?_
    refine q_lcmp_ne hx hb (a := v23.toInt) (b := a1) rfl e1 (tgt := 21) dX12_isWord_13 dX12_isWord_14 rfl (fun c24 => ?_) (fun c24 => ?_)
    · refine lv_iconst (v := 0) hx hb dX12_isWord_21 rfl ?_
      exact ret 0 H0 [] _ _ dX12_isWord_22 (Or.inl rfl) ⟨rfl, Or.inl rfl⟩ hC0 hS0
    · refine lv_iconst (v := 1) hx hb dX12_isWord_17 rfl ?_
      refine lv_goto (tgt := 22) hx hb dX12_isWord_18 rfl ?_
      exact ret 1 H0 [] _ _ dX12_isWord_22 (Or.inr rfl) ⟨rfl, Or.inr rfl⟩ hC0 hS0
set_option maxRecDepth 100000 in
set_option maxHeartbeats 4000000 in
theorem m_X12_isWide (l : Launch) (X : xW) (Γ : Nat → Option Nat) (H0 : Heap) (hC0 : Conf X Γ H0) (h0 : Nat) (g0 : Γ h0 = some 11) (ca : Nat) (gca : Γ ca = some 64) (uc : ∀ a, Γ a = some 64 → a = ca) : Ctr l X Γ yX12_isWide cX12_isWide 1 (some .boolean) 1 [.ref h0] H0 (QI X Γ (fun v H1 => H1 = H0 ∧ (v = 0 ∨ v = 1))) := by
  refine q_enterZ (own := "SnowFortsModel") (by decide) rfl (Nat.le_of_ble_eq_true rfl) ?_
  intro p e s m args below meth c ls Qz E hl ret hS0
  have hx := E.1; have hb := E.2.1
  have hl : lv_has ls 1 [(0, .ref h0)] := hl
  refine lv_aload_n hx hb dX12_isWide_0 rfl (lv_at hl 0 rfl) ?_
  refine lv_bipush (v := 119) hx hb dX12_isWide_1 rfl ?_
  refine lv_bipush (v := 105) hx hb dX12_isWide_3 rfl ?_
  refine lv_bipush (v := 100) hx hb dX12_isWide_5 rfl ?_
  refine lv_bipush (v := 101) hx hb dX12_isWide_7 rfl ?_
  refine lv_iconst (v := 0) hx hb dX12_isWide_9 rfl ?_
  refine lv_iconst (v := 0) hx hb dX12_isWide_10 rfl ?_
  refine q_goJp (q_runS (As := [.int 119, .int 105, .int 100, .int 101, .int 0, .int 0]) (rest := [.ref h0]) E hS0 (m_X12_spelled l X Γ H0 hC0 119 (a0 := 119) (by decide) 105 (a1 := 105) (by decide) 100 (a2 := 100) (by decide) 101 (a3 := 101) (by decide) 0 (a4 := 0) (by decide) 0 (a5 := 0) (by decide)) cw_X12_spelled cl_RX12_145 rfl hl.1 rfl (show _ ≤ _ from by simp [Value.category]) (by decide) dX12_isWide_11) hS0 (fun v21 locs21 hr21 hS21 => ?_)
  refine q_goIp (q_runV (As := [.long v21]) (rest := []) E hC0 hS21 (m_X12_isWord l X Γ H0 hC0 h0 g0 v21 (a1 := v21.toInt) rfl ca gca uc) cw_X12_isWord cl_RX12_149 g0 ⟨rfl, rfl⟩ rfl hl.1 rfl (Nat.zero_le _) (by decide) dX12_isWide_14) hS21 (fun v22 locs22 hr22 hS22 => ?_)
  rcases hr22 with rfl | rfl
  · exact ret 0 H0 locs22 _ _ dX12_isWide_17 (Or.inl rfl) ⟨rfl, Or.inl rfl⟩ hC0 hS22
  · exact ret 1 H0 locs22 _ _ dX12_isWide_17 (Or.inr rfl) ⟨rfl, Or.inr rfl⟩ hC0 hS22
set_option maxRecDepth 100000 in
set_option maxHeartbeats 4000000 in
theorem m_X12_fail (l : Launch) (X : xW) (Γ : Nat → Option Nat) (H0 : Heap) (hC0 : Conf X Γ H0) (h0 : Nat) (g0 : Γ h0 = some 11) (p1 : Int32) {a1 : Int} (e1 : p1.toInt = a1) (p2 : Int32) {a2 : Int} (e2 : p2.toInt = a2) (ca : Nat) (gca : Γ ca = some 64) (uc : ∀ a, Γ a = some 64 → a = ca) (r0 : 1 ≤ a1) (r1 : a1 ≤ 7) : Ctr l X Γ yX12_fail cX12_fail 3 none 0 [.ref h0, .int p1, .int p2] H0 (QV X Γ (fun H1 => Kp X Γ [1, 6, 7, 8, 9, 10, 11, 12, 14, 15, 16, 17, 19, 22, 24] H0 H1 ∧ ((1 ≤ (sI H1 h0 (X.1.2 11 12)).toInt) ∧ ((sI H0 h0 (X.1.2 11 12)).toInt ≤ 7 * (sI H1 h0 (X.1.2 11 12)).toInt) ∧ ((sI H1 h0 (X.1.2 11 14)).toInt = (sI H0 h0 (X.1.2 11 14)).toInt) ∧ ((sI H1 h0 (X.1.2 11 16)).toInt = (sI H0 h0 (X.1.2 11 16)).toInt)))) := by
  refine q_enterV (own := "SnowFortsModel") (by decide) rfl (Nat.le_of_ble_eq_true rfl) ?_
  intro p e s m args below meth c ls Qz E hl ret hS0
  have hx := E.1; have hb := E.2.1
  have hKp0 : Kp X Γ [1, 6, 7, 8, 9, 10, 11, 12, 14, 15, 16, 17, 19, 22, 24] H0 H0 := Kp.rf
  have hl : lv_has ls 3 [(0, .ref h0), (1, .int p1), (2, .int p2)] := hl
  have hz1 := f_bd hC0 g0 (ci := 11) (k := 16) rfl rfl
  have hz2 := f_bd hC0 g0 (ci := 11) (k := 12) rfl rfl
  refine lv_aload_n hx hb dX12_fail_0 rfl (lv_at hl 0 rfl) ?_
  refine q_getI E hC0 g0 fa_RX12_218 dX12_fail_1 (fun v21 ev21 lv21 uv21 => ?_)
  have m22 : (sI H0 h0 (X.1.2 11 12)).toInt = v21.toInt := (congrArg Int32.toInt ev21).trans rfl
  refine q_if_le hx hb (a := v21.toInt) rfl (tgt := 8) dX12_fail_4 rfl (fun c23 => ?_) (fun c23 => ?_)
  · refine lv_aload_n hx hb dX12_fail_8 rfl (lv_at hl 0 rfl) ?_
    refine lv_iload_n hx hb dX12_fail_9 rfl (lv_at hl 1 rfl) ?_
    refine q_put E hC0 hS0 g0 fp_RX12_218 (tv_I e1 (by omega) (by omega)) rfl rfl dX12_fail_10 (fun H24 locs24 hC24 hS24 U24 => ?_)
    have hKp24 := Kp.upO E g0 fp_RX12_218 rfl U24 hKp0
    have e25 := up_I U24
    have m26 : (sI H24 h0 (X.1.2 11 12)).toInt = a1 := (congrArg Int32.toInt e25).trans e1
    have m27 : (sI H24 h0 (X.1.2 11 14)).toInt = (sI H0 h0 (X.1.2 11 14)).toInt := congrArg Int32.toInt (up_nI U24 (ne_f E 11 14 12 rfl (by decide) (by decide) (by decide)))
    have m28 := congrArg tk m27
    have m29 : (sI H24 h0 (X.1.2 11 16)).toInt = (sI H0 h0 (X.1.2 11 16)).toInt := congrArg Int32.toInt (up_nI U24 (ne_f E 11 16 12 rfl (by decide) (by decide) (by decide)))
    refine lv_aload_n hx hb dX12_fail_13 rfl (lv_at hl 0 rfl) ?_
    refine lv_iload_n hx hb dX12_fail_14 rfl (lv_at hl 2 rfl) ?_
    refine q_put E hC24 hS24 g0 fp_RX12_221 tv_F rfl rfl dX12_fail_15 (fun H30 locs30 hC30 hS30 U30 => ?_)
    have hKp30 := Kp.upO E g0 fp_RX12_221 rfl U30 hKp24
    have e31 := up_I U30
    have m32 : (sI H30 h0 (X.1.2 11 12)).toInt = (sI H24 h0 (X.1.2 11 12)).toInt := congrArg Int32.toInt (up_nI U30 (ne_f E 11 12 13 rfl (by decide) (by decide) (by decide)))
    have m33 : (sI H30 h0 (X.1.2 11 14)).toInt = (sI H24 h0 (X.1.2 11 14)).toInt := congrArg Int32.toInt (up_nI U30 (ne_f E 11 14 13 rfl (by decide) (by decide) (by decide)))
    have m34 := congrArg tk m33
    have m35 : (sI H30 h0 (X.1.2 11 16)).toInt = (sI H24 h0 (X.1.2 11 16)).toInt := congrArg Int32.toInt (up_nI U30 (ne_f E 11 16 13 rfl (by decide) (by decide) (by decide)))
    exact ret H30 locs30 _ _ dX12_fail_18 ⟨hKp30, ⟨by omega, by omega, by omega, by omega⟩⟩ hC30 hS30
  · exact ret H0 [] _ _ dX12_fail_7 ⟨hKp0, ⟨by omega, by omega, by omega, by omega⟩⟩ hC0 hS0
set_option maxRecDepth 100000 in
set_option maxHeartbeats 4000000 in
theorem m_X12_wrong (l : Launch) (X : xW) (Γ : Nat → Option Nat) (H0 : Heap) (hC0 : Conf X Γ H0) (h0 : Nat) (g0 : Γ h0 = some 11) (ca : Nat) (gca : Γ ca = some 64) (uc : ∀ a, Γ a = some 64 → a = ca) : Ctr l X Γ yX12_wrong cX12_wrong 1 none 1 [.ref h0] H0 (QV X Γ (fun H1 => Kp X Γ [1, 6, 7, 8, 9, 10, 11, 12, 14, 15, 16, 17, 19, 22, 24] H0 H1 ∧ ((1 ≤ (sI H1 h0 (X.1.2 11 12)).toInt) ∧ ((sI H0 h0 (X.1.2 11 12)).toInt ≤ 7 * (sI H1 h0 (X.1.2 11 12)).toInt) ∧ ((sI H1 h0 (X.1.2 11 14)).toInt = (sI H0 h0 (X.1.2 11 14)).toInt) ∧ ((sI H1 h0 (X.1.2 11 16)).toInt = (sI H0 h0 (X.1.2 11 16)).toInt)))) := by
  refine q_enterV (own := "SnowFortsModel") (by decide) rfl (Nat.le_of_ble_eq_true rfl) ?_
  intro p e s m args below meth c ls Qz E hl ret hS0
  have hx := E.1; have hb := E.2.1
  have hKp0 : Kp X Γ [1, 6, 7, 8, 9, 10, 11, 12, 14, 15, 16, 17, 19, 22, 24] H0 H0 := Kp.rf
  have hl : lv_has ls 1 [(0, .ref h0)] := hl
  have hz1 := f_bd hC0 g0 (ci := 11) (k := 16) rfl rfl
  have hz2 := f_bd hC0 g0 (ci := 11) (k := 12) rfl rfl
  refine lv_aload_n hx hb dX12_wrong_0 rfl (lv_at hl 0 rfl) ?_
  refine lv_aload_n hx hb dX12_wrong_1 rfl (lv_at hl 0 rfl) ?_
  refine q_getI E hC0 g0 fa_RX12_120 dX12_wrong_2 (fun v21 ev21 _ _ => ?_)
  have m22 : (sI H0 h0 (X.1.2 11 14)).toInt = v21.toInt := (congrArg Int32.toInt ev21).trans rfl
  refine lv_iconst (v := 4) hx hb dX12_wrong_5 rfl ?_
  refine q_icmp_ne hx hb (a := v21.toInt) (b := 4) rfl (by decide) (tgt := 13) dX12_wrong_6 rfl (fun c23 => ?_) (fun c23 => ?_)
  · refine lv_iconst (v := 2) hx hb dX12_wrong_13 rfl ?_
    refine lv_aload_n hx hb dX12_wrong_14 rfl (lv_at hl 0 rfl) ?_
    refine q_getI E hC0 g0 fa_RX12_114 dX12_wrong_15 (fun v24 ev24 lv24 uv24 => ?_)
    refine q_goV (q_runV (As := [.int 2, .int v24]) (rest := []) E hC0 hS0 (m_X12_fail l X Γ H0 hC0 h0 g0 2 (a1 := 2) (by decide) v24 (a2 := v24.toInt) rfl ca gca uc (by omega) (by omega)) cw_X12_fail cl_RX12_224 g0 ⟨rfl, rfl⟩ rfl hl.1 rfl (Nat.zero_le _) (by decide) dX12_wrong_18) hS0 (fun H25 locs25 hr25 hC25 hS25 => ?_)
    obtain ⟨hp25, hr25⟩ := hr25
    have hKp25 := hKp0.tr (hp25.mono rfl)
    obtain ⟨f25_0, f25_1, f25_2, f25_3⟩ := hr25
    exact ret H25 locs25 _ _ dX12_wrong_21 ⟨hKp25, ⟨by omega, by omega, by omega, by omega⟩⟩ hC25 hS25
  · refine lv_iconst (v := 1) hx hb dX12_wrong_9 rfl ?_
    refine lv_goto (tgt := 14) hx hb dX12_wrong_10 rfl ?_
    refine lv_aload_n hx hb dX12_wrong_14 rfl (lv_at hl 0 rfl) ?_
    refine q_getI E hC0 g0 fa_RX12_114 dX12_wrong_15 (fun v26 ev26 lv26 uv26 => ?_)
    refine q_goV (q_runV (As := [.int 1, .int v26]) (rest := []) E hC0 hS0 (m_X12_fail l X Γ H0 hC0 h0 g0 1 (a1 := 1) (by decide) v26 (a2 := v26.toInt) rfl ca gca uc (by omega) (by omega)) cw_X12_fail cl_RX12_224 g0 ⟨rfl, rfl⟩ rfl hl.1 rfl (Nat.zero_le _) (by decide) dX12_wrong_18) hS0 (fun H27 locs27 hr27 hC27 hS27 => ?_)
    obtain ⟨hp27, hr27⟩ := hr27
    have hKp27 := hKp0.tr (hp27.mono rfl)
    obtain ⟨f27_0, f27_1, f27_2, f27_3⟩ := hr27
    exact ret H27 locs27 _ _ dX12_wrong_21 ⟨hKp27, ⟨by omega, by omega, by omega, by omega⟩⟩ hC27 hS27
set_option maxRecDepth 100000 in
set_option maxHeartbeats 4000000 in
theorem m_X12_must (l : Launch) (X : xW) (Γ : Nat → Option Nat) (H0 : Heap) (hC0 : Conf X Γ H0) (h0 : Nat) (g0 : Γ h0 = some 11) (p1 : Int32) {a1 : Int} (e1 : p1.toInt = a1) (ca : Nat) (gca : Γ ca = some 64) (uc : ∀ a, Γ a = some 64 → a = ca) (r0 : 0 ≤ a1) (r1 : a1 ≤ 1) : Ctr l X Γ yX12_must cX12_must 2 none 2 [.ref h0, .int p1] H0 (QV X Γ (fun H1 => Kp X Γ [1, 6, 7, 8, 9, 10, 11, 12, 14, 15, 16, 17, 19, 22, 24] H0 H1 ∧ (((sI H0 h0 (X.1.2 11 16)).toInt ≤ (sI H1 h0 (X.1.2 11 16)).toInt) ∧ ((sI H0 h0 (X.1.2 11 16)).toInt < (sI H1 h0 (X.1.2 11 16)).toInt + tk (sI H1 h0 (X.1.2 11 14)).toInt + 2000 * (sI H1 h0 (X.1.2 11 12)).toInt) ∧ ((sI H0 h0 (X.1.2 11 12)).toInt ≤ 7 * (sI H1 h0 (X.1.2 11 12)).toInt) ∧ (0 ≤ (sI H1 h0 (X.1.2 11 12)).toInt) ∧ (1 - a1 ≤ (sI H1 h0 (X.1.2 11 12)).toInt)))) := by
  refine q_enterV (own := "SnowFortsModel") (by decide) rfl (Nat.le_of_ble_eq_true rfl) ?_
  intro p e s m args below meth c ls Qz E hl ret hS0
  have hx := E.1; have hb := E.2.1
  have hKp0 : Kp X Γ [1, 6, 7, 8, 9, 10, 11, 12, 14, 15, 16, 17, 19, 22, 24] H0 H0 := Kp.rf
  have hl : lv_has ls 2 [(0, .ref h0), (1, .int p1)] := hl
  have hz1 := f_bd hC0 g0 (ci := 11) (k := 16) rfl rfl
  have hz2 := f_bd hC0 g0 (ci := 11) (k := 12) rfl rfl
  refine lv_aload_n hx hb dX12_must_0 rfl (lv_at hl 0 rfl) ?_
  refine q_getI E hC0 g0 fa_RX12_218 dX12_must_1 (fun v21 ev21 lv21 uv21 => ?_)
  have m22 : (sI H0 h0 (X.1.2 11 12)).toInt = v21.toInt := (congrArg Int32.toInt ev21).trans rfl
  refine q_if_le hx hb (a := v21.toInt) rfl (tgt := 8) dX12_must_4 rfl (fun c23 => ?_) (fun c23 => ?_)
  · refine lv_iload_n hx hb dX12_must_8 rfl (lv_at hl 1 rfl) ?_
    refine q_if_eq hx hb (a := a1) e1 (tgt := 19) dX12_must_9 rfl (fun c24 => ?_) (fun c24 => ?_)
    · refine lv_aload_n hx hb dX12_must_19 rfl (lv_at hl 0 rfl) ?_
      refine q_goV (q_runV (As := []) (rest := []) E hC0 hS0 (m_X12_wrong l X Γ H0 hC0 h0 g0 ca gca uc) cw_X12_wrong cl_RX12_231 g0 ⟨rfl, rfl⟩ rfl hl.1 rfl (Nat.zero_le _) (by decide) dX12_must_20) hS0 (fun H25 locs25 hr25 hC25 hS25 => ?_)
      obtain ⟨hp25, hr25⟩ := hr25
      have hKp25 := hKp0.tr (hp25.mono rfl)
      obtain ⟨f25_0, f25_1, f25_2, f25_3⟩ := hr25
      have hz8 := tk_nn (sI H25 h0 (X.1.2 11 14)).toInt
      exact ret H25 locs25 _ _ dX12_must_23 ⟨hKp25, ⟨by omega, by omega, by omega, by omega, by omega⟩⟩ hC25 hS25
    · refine lv_aload_n hx hb dX12_must_12 rfl (lv_at hl 0 rfl) ?_
      refine q_goV (q_runV (As := []) (rest := []) E hC0 hS0 (m_X12_next l X Γ H0 hC0 h0 g0 ca gca uc) cw_X12_next cl_RX12_228 g0 ⟨rfl, rfl⟩ rfl hl.1 rfl (Nat.zero_le _) (by decide) dX12_must_13) hS0 (fun H26 locs26 hr26 hC26 hS26 => ?_)
      obtain ⟨hp26, hr26⟩ := hr26
      have hKp26 := hKp0.tr (hp26.mono rfl)
      obtain ⟨f26_0, f26_1, f26_2⟩ := hr26
      refine lv_goto (tgt := 23) hx hb dX12_must_16 rfl ?_
      have hz8 := tk_nn (sI H26 h0 (X.1.2 11 14)).toInt
      exact ret H26 locs26 _ _ dX12_must_23 ⟨hKp26, ⟨by omega, by omega, by omega, by omega, by omega⟩⟩ hC26 hS26
  · have hz8 := tk_nn (sI H0 h0 (X.1.2 11 14)).toInt
    exact ret H0 [] _ _ dX12_must_7 ⟨hKp0, ⟨by omega, by omega, by omega, by omega, by omega⟩⟩ hC0 hS0
set_option maxRecDepth 100000 in
set_option maxHeartbeats 4000000 in
theorem m_X12_isIn (l : Launch) (X : xW) (Γ : Nat → Option Nat) (H0 : Heap) (hC0 : Conf X Γ H0) (p0 : Int64) {a0 : Int} (e0 : p0.toInt = a0) (p1 : Int64) {a1 : Int} (e1 : p1.toInt = a1) (p2 : Int64) {a2 : Int} (e2 : p2.toInt = a2) : Ctr l X Γ yX12_isIn cX12_isIn 6 (some .boolean) 0 [.long p0, .long p1, .long p2] H0 (QI X Γ (fun v H1 => H1 = H0 ∧ ((v = 1 ∧ (a1 ≤ a0 ∧ a0 ≤ a2)) ∨ (v = 0 ∧ (a0 < a1 ∨ a2 < a0))))) := by
  refine q_enterZ (own := "SnowFortsModel") (by decide) rfl (Nat.le_of_ble_eq_true rfl) ?_
  intro p e s m args below meth c ls Qz E hl ret hS0
  have hx := E.1; have hb := E.2.1
  have hl : lv_has ls 6 [(0, .long p0), (2, .long p1), (4, .long p2)] := hl
  refine lv_lload_n hx hb dX12_isIn_0 rfl (lv_at hl 0 rfl) ?_
  refine lv_lload_n hx hb dX12_isIn_1 rfl (lv_at hl 1 rfl) ?_
  refine q_lcmp_lt hx hb (a := a0) (b := a1) e0 e1 (tgt := 17) dX12_isIn_2 dX12_isIn_3 rfl (fun c21 => ?_) (fun c21 => ?_)
  · refine lv_iconst (v := 0) hx hb dX12_isIn_17 rfl ?_
    exact ret 0 H0 [] _ _ dX12_isIn_18 (Or.inl rfl) ⟨rfl, Or.inr ⟨rfl, by omega⟩⟩ hC0 hS0
  · refine lv_lload_n hx hb dX12_isIn_6 rfl (lv_at hl 0 rfl) ?_
    refine lv_lload hx hb dX12_isIn_7 (lv_at hl 2 rfl) ?_
    refine q_lcmp_gt hx hb (a := a0) (b := a2) e0 e2 (tgt := 17) dX12_isIn_9 dX12_isIn_10 rfl (fun c22 => ?_) (fun c22 => ?_)
    · refine lv_iconst (v := 0) hx hb dX12_isIn_17 rfl ?_
      exact ret 0 H0 [] _ _ dX12_isIn_18 (Or.inl rfl) ⟨rfl, Or.inr ⟨rfl, by omega⟩⟩ hC0 hS0
    · refine lv_iconst (v := 1) hx hb dX12_isIn_13 rfl ?_
      refine lv_goto (tgt := 18) hx hb dX12_isIn_14 rfl ?_
      exact ret 1 H0 [] _ _ dX12_isIn_18 (Or.inr rfl) ⟨rfl, Or.inl ⟨rfl, by omega, by omega⟩⟩ hC0 hS0
set_option maxRecDepth 100000 in
set_option maxHeartbeats 4000000 in
theorem m_X12_count (l : Launch) (X : xW) (Γ : Nat → Option Nat) (H0 : Heap) (hC0 : Conf X Γ H0) (h0 : Nat) (g0 : Γ h0 = some 11) (p1 : Int32) {a1 : Int} (e1 : p1.toInt = a1) (p2 : Int32) {a2 : Int} (e2 : p2.toInt = a2) (ca : Nat) (gca : Γ ca = some 64) (uc : ∀ a, Γ a = some 64 → a = ca) (r0 : 0 ≤ a1) (r1 : a1 ≤ 40) (r2 : -1 ≤ a2) (r3 : a2 ≤ 999) : Ctr l X Γ yX12_count cX12_count 4 (some .int) 2 [.ref h0, .int p1, .int p2] H0 (QI X Γ (fun v H1 => Kp X Γ [1, 6, 7, 8, 9, 10, 11, 12, 14, 15, 16, 17, 19, 22, 24] H0 H1 ∧ (((sI H0 h0 (X.1.2 11 16)).toInt ≤ (sI H1 h0 (X.1.2 11 16)).toInt) ∧ ((sI H0 h0 (X.1.2 11 16)).toInt < (sI H1 h0 (X.1.2 11 16)).toInt + tk (sI H1 h0 (X.1.2 11 14)).toInt + 2000 * (sI H1 h0 (X.1.2 11 12)).toInt) ∧ ((sI H0 h0 (X.1.2 11 12)).toInt ≤ 7 * (sI H1 h0 (X.1.2 11 12)).toInt) ∧ (0 ≤ (sI H1 h0 (X.1.2 11 12)).toInt) ∧ (0 ≤ v.toInt) ∧ (v.toInt ≤ a2 ∨ v.toInt = 0) ∧ (a1 ≤ v.toInt + 100 * (sI H1 h0 (X.1.2 11 12)).toInt) ∧ (v.toInt ≤ a2 + (sI H1 h0 (X.1.2 11 12)).toInt)))) := by
  refine q_enterI (own := "SnowFortsModel") (by decide) rfl (Nat.le_of_ble_eq_true rfl) ?_
  intro p e s m args below meth c ls Qz E hl ret hS0
  have hx := E.1; have hb := E.2.1
  have hKp0 : Kp X Γ [1, 6, 7, 8, 9, 10, 11, 12, 14, 15, 16, 17, 19, 22, 24] H0 H0 := Kp.rf
  have hl : lv_has ls 4 [(0, .ref h0), (1, .int p1), (2, .int p2)] := hl
  have hz1 := f_bd hC0 g0 (ci := 11) (k := 16) rfl rfl
  have hz2 := f_bd hC0 g0 (ci := 11) (k := 12) rfl rfl
  refine lv_aload_n hx hb dX12_count_0 rfl (lv_at hl 0 rfl) ?_
  refine q_getI E hC0 g0 fa_RX12_218 dX12_count_1 (fun v21 ev21 lv21 uv21 => ?_)
  have m22 : (sI H0 h0 (X.1.2 11 12)).toInt = v21.toInt := (congrArg Int32.toInt ev21).trans rfl
  refine q_if_ne hx hb (a := v21.toInt) rfl (tgt := 19) dX12_count_4 rfl (fun c23 => ?_) (fun c23 => ?_)
  · refine lv_aload_n hx hb dX12_count_19 rfl (lv_at hl 0 rfl) ?_
    refine q_getI E hC0 g0 fa_RX12_218 dX12_count_20 (fun v24 ev24 lv24 uv24 => ?_)
    have qv24 := ev21.symm.trans ev24; subst qv24
    refine q_if_ne hx hb (a := v21.toInt) rfl (tgt := 50) dX12_count_23 rfl (fun c25 => ?_) (fun c25 => absurd c25 (by omega))
    refine lv_aload_n hx hb dX12_count_50 rfl (lv_at hl 0 rfl) ?_
    refine q_getI E hC0 g0 fa_RX12_218 dX12_count_51 (fun v26 ev26 lv26 uv26 => ?_)
    have qv26 := ev21.symm.trans ev26; subst qv26
    refine q_if_le hx hb (a := v21.toInt) rfl (tgt := 59) dX12_count_54 rfl (fun c27 => absurd c27 (by omega)) (fun c27 => ?_)
    refine lv_iconst (v := 0) hx hb dX12_count_57 rfl ?_
    have hz8 := tk_nn (sI H0 h0 (X.1.2 11 14)).toInt
    have c28 : (0 : Int32).toInt = 0 := (by decide)
    exact ret 0 H0 [] _ _ dX12_count_58 ⟨hKp0, ⟨by omega, by omega, by omega, by omega, by omega, by omega, by omega, by omega⟩⟩ hC0 hS0
  · refine lv_aload_n hx hb dX12_count_7 rfl (lv_at hl 0 rfl) ?_
    refine q_getI E hC0 g0 fa_RX12_120 dX12_count_8 (fun v29 ev29 _ _ => ?_)
    have m30 : (sI H0 h0 (X.1.2 11 14)).toInt = v29.toInt := (congrArg Int32.toInt ev29).trans rfl
    refine lv_iconst (v := 2) hx hb dX12_count_11 rfl ?_
    refine q_icmp_eq hx hb (a := v29.toInt) (b := 2) rfl (by decide) (tgt := 19) dX12_count_12 rfl (fun c31 => ?_) (fun c31 => ?_)
    · refine lv_aload_n hx hb dX12_count_19 rfl (lv_at hl 0 rfl) ?_
      refine q_getI E hC0 g0 fa_RX12_218 dX12_count_20 (fun v32 ev32 lv32 uv32 => ?_)
      have qv32 := ev21.symm.trans ev32; subst qv32
      refine q_if_ne hx hb (a := v21.toInt) rfl (tgt := 50) dX12_count_23 rfl (fun c33 => absurd c33 (by omega)) (fun c33 => ?_)
      refine lv_aload_n hx hb dX12_count_26 rfl (lv_at hl 0 rfl) ?_
      refine q_getI E hC0 g0 fa_RX12_139 dX12_count_27 (fun v34 ev34 _ _ => ?_)
      refine lv_i2l (v := v34.toInt64) hx hb dX12_count_30 rfl (lv_topl (fun v35 ev35 => ?_))
      have ev35i : v35.toInt = v34.toInt := l_ofi ev35.symm rfl
      refine lv_iload_n hx hb dX12_count_31 rfl (lv_at hl 1 rfl) ?_
      refine lv_i2l (v := p1.toInt64) hx hb dX12_count_32 rfl (lv_topl (fun v36 ev36 => ?_))
      have ev36i : v36.toInt = a1 := l_ofi ev36.symm e1
      refine lv_iload_n hx hb dX12_count_33 rfl (lv_at hl 2 rfl) ?_
      refine lv_i2l (v := p2.toInt64) hx hb dX12_count_34 rfl (lv_topl (fun v37 ev37 => ?_))
      have ev37i : v37.toInt = a2 := l_ofi ev37.symm e2
      refine q_goIp (q_runS (As := [.long v35, .long v36, .long v37]) (rest := []) E hS0 (m_X12_isIn l X Γ H0 hC0 v35 (a0 := v34.toInt) ev35i v36 (a1 := a1) ev36i v37 (a2 := a2) ev37i) cw_X12_isIn cl_RX12_104 rfl hl.1 rfl (Nat.zero_le _) (by decide) dX12_count_35) hS0 (fun v38 locs38 hr38 hS38 => ?_)
      rcases hr38 with ⟨rfl, f38a0, f38a1⟩ | ⟨rfl, f38b⟩
      · refine q_if_ne hx hb (a := 1) (by decide) (tgt := 50) dX12_count_38 rfl (fun c39 => ?_) (fun c39 => absurd c39 (by omega))
        refine lv_aload_n hx hb dX12_count_50 rfl (lv_at hl 0 rfl) ?_
        refine q_getI E hC0 g0 fa_RX12_218 dX12_count_51 (fun v40 ev40 lv40 uv40 => ?_)
        have qv40 := ev21.symm.trans ev40; subst qv40
        refine q_if_le hx hb (a := v21.toInt) rfl (tgt := 59) dX12_count_54 rfl (fun c41 => ?_) (fun c41 => absurd c41 (by omega))
        refine lv_aload_n hx hb dX12_count_59 rfl (lv_at hl 0 rfl) ?_
        refine q_getI E hC0 g0 fa_RX12_139 dX12_count_60 (fun v42 ev42 _ _ => ?_)
        have qv42 := ev34.symm.trans ev42; subst qv42
        refine lv_istore_n hx hb dX12_count_63 rfl hl (by decide) rfl (fun ls hl => ?_)
        have hl : lv_has ls 4 [(3, .int v34), (0, .ref h0), (1, .int p1), (2, .int p2)] := hl
        refine lv_aload_n hx hb dX12_count_64 rfl (lv_at hl 1 rfl) ?_
        refine q_goV (q_runV (As := []) (rest := []) E hC0 hS38 (m_X12_next l X Γ H0 hC0 h0 g0 ca gca uc) cw_X12_next cl_RX12_228 g0 ⟨rfl, rfl⟩ rfl hl.1 rfl (Nat.zero_le _) (by decide) dX12_count_65) hS38 (fun H43 locs43 hr43 hC43 hS43 => ?_)
        obtain ⟨hp43, hr43⟩ := hr43
        have hKp43 := hKp0.tr (hp43.mono rfl)
        obtain ⟨f43_0, f43_1, f43_2⟩ := hr43
        refine lv_iload_n hx hb dX12_count_68 rfl (lv_at hl 0 rfl) ?_
        have hz8 := tk_nn (sI H43 h0 (X.1.2 11 14)).toInt
        have c44 : v34.toInt = v34.toInt := rfl
        exact ret v34 H43 locs43 _ _ dX12_count_69 ⟨hKp43, ⟨by omega, by omega, by omega, by omega, by omega, by omega, by omega, by omega⟩⟩ hC43 hS43
      · refine q_if_ne hx hb (a := 0) (by decide) (tgt := 50) dX12_count_38 rfl (fun c45 => absurd c45 (by omega)) (fun c45 => ?_)
        refine lv_aload_n hx hb dX12_count_41 rfl (lv_at hl 0 rfl) ?_
        refine lv_iconst (v := 4) hx hb dX12_count_42 rfl ?_
        refine lv_aload_n hx hb dX12_count_43 rfl (lv_at hl 0 rfl) ?_
        refine q_getI E hC0 g0 fa_RX12_114 dX12_count_44 (fun v46 ev46 lv46 uv46 => ?_)
        refine q_goV (q_runV (As := [.int 4, .int v46]) (rest := []) E hC0 hS38 (m_X12_fail l X Γ H0 hC0 h0 g0 4 (a1 := 4) (by decide) v46 (a2 := v46.toInt) rfl ca gca uc (by omega) (by omega)) cw_X12_fail cl_RX12_224 g0 ⟨rfl, rfl⟩ rfl hl.1 rfl (Nat.zero_le _) (by decide) dX12_count_47) hS38 (fun H47 locs47 hr47 hC47 hS47 => ?_)
        obtain ⟨hp47, hr47⟩ := hr47
        have hKp47 := hKp0.tr (hp47.mono rfl)
        obtain ⟨f47_0, f47_1, f47_2, f47_3⟩ := hr47
        refine lv_aload_n hx hb dX12_count_50 rfl (lv_at hl 0 rfl) ?_
        refine q_getI E hC47 g0 fa_RX12_218 dX12_count_51 (fun v48 ev48 lv48 uv48 => ?_)
        have m49 : (sI H47 h0 (X.1.2 11 12)).toInt = v48.toInt := (congrArg Int32.toInt ev48).trans rfl
        refine q_if_le hx hb (a := v48.toInt) rfl (tgt := 59) dX12_count_54 rfl (fun c50 => absurd c50 (by omega)) (fun c50 => ?_)
        refine lv_iconst (v := 0) hx hb dX12_count_57 rfl ?_
        have hz8 := tk_nn (sI H47 h0 (X.1.2 11 14)).toInt
        have c51 : (0 : Int32).toInt = 0 := (by decide)
        exact ret 0 H47 locs47 _ _ dX12_count_58 ⟨hKp47, ⟨by omega, by omega, by omega, by omega, by omega, by omega, by omega, by omega⟩⟩ hC47 hS47
    · refine lv_aload_n hx hb dX12_count_15 rfl (lv_at hl 0 rfl) ?_
      refine q_goV (q_runV (As := []) (rest := []) E hC0 hS0 (m_X12_wrong l X Γ H0 hC0 h0 g0 ca gca uc) cw_X12_wrong cl_RX12_231 g0 ⟨rfl, rfl⟩ rfl hl.1 rfl (Nat.zero_le _) (by decide) dX12_count_16) hS0 (fun H52 locs52 hr52 hC52 hS52 => ?_)
      obtain ⟨hp52, hr52⟩ := hr52
      have hKp52 := hKp0.tr (hp52.mono rfl)
      obtain ⟨f52_0, f52_1, f52_2, f52_3⟩ := hr52
      refine lv_aload_n hx hb dX12_count_19 rfl (lv_at hl 0 rfl) ?_
      refine q_getI E hC52 g0 fa_RX12_218 dX12_count_20 (fun v53 ev53 lv53 uv53 => ?_)
      have m54 : (sI H52 h0 (X.1.2 11 12)).toInt = v53.toInt := (congrArg Int32.toInt ev53).trans rfl
      refine q_if_ne hx hb (a := v53.toInt) rfl (tgt := 50) dX12_count_23 rfl (fun c55 => ?_) (fun c55 => absurd c55 (by omega))
      refine lv_aload_n hx hb dX12_count_50 rfl (lv_at hl 0 rfl) ?_
      refine q_getI E hC52 g0 fa_RX12_218 dX12_count_51 (fun v56 ev56 lv56 uv56 => ?_)
      have qv56 := ev53.symm.trans ev56; subst qv56
      refine q_if_le hx hb (a := v53.toInt) rfl (tgt := 59) dX12_count_54 rfl (fun c57 => absurd c57 (by omega)) (fun c57 => ?_)
      refine lv_iconst (v := 0) hx hb dX12_count_57 rfl ?_
      have hz8 := tk_nn (sI H52 h0 (X.1.2 11 14)).toInt
      have c58 : (0 : Int32).toInt = 0 := (by decide)
      exact ret 0 H52 locs52 _ _ dX12_count_58 ⟨hKp52, ⟨by omega, by omega, by omega, by omega, by omega, by omega, by omega, by omega⟩⟩ hC52 hS52
set_option maxRecDepth 100000 in
set_option maxHeartbeats 4000000 in
theorem m_X12_isHigh (l : Launch) (X : xW) (Γ : Nat → Option Nat) (H0 : Heap) (hC0 : Conf X Γ H0) (h0 : Nat) (g0 : Γ h0 = some 11) (ca : Nat) (gca : Γ ca = some 64) (uc : ∀ a, Γ a = some 64 → a = ca) : Ctr l X Γ yX12_isHigh cX12_isHigh 1 (some .boolean) 1 [.ref h0] H0 (QI X Γ (fun v H1 => H1 = H0 ∧ (v = 0 ∨ v = 1))) := by
  refine q_enterZ (own := "SnowFortsModel") (by decide) rfl (Nat.le_of_ble_eq_true rfl) ?_
  intro p e s m args below meth c ls Qz E hl ret hS0
  have hx := E.1; have hb := E.2.1
  have hl : lv_has ls 1 [(0, .ref h0)] := hl
  refine lv_aload_n hx hb dX12_isHigh_0 rfl (lv_at hl 0 rfl) ?_
  refine lv_bipush (v := 104) hx hb dX12_isHigh_1 rfl ?_
  refine lv_bipush (v := 105) hx hb dX12_isHigh_3 rfl ?_
  refine lv_bipush (v := 103) hx hb dX12_isHigh_5 rfl ?_
  refine lv_bipush (v := 104) hx hb dX12_isHigh_7 rfl ?_
  refine lv_iconst (v := 0) hx hb dX12_isHigh_9 rfl ?_
  refine lv_iconst (v := 0) hx hb dX12_isHigh_10 rfl ?_
  refine q_goJp (q_runS (As := [.int 104, .int 105, .int 103, .int 104, .int 0, .int 0]) (rest := [.ref h0]) E hS0 (m_X12_spelled l X Γ H0 hC0 104 (a0 := 104) (by decide) 105 (a1 := 105) (by decide) 103 (a2 := 103) (by decide) 104 (a3 := 104) (by decide) 0 (a4 := 0) (by decide) 0 (a5 := 0) (by decide)) cw_X12_spelled cl_RX12_145 rfl hl.1 rfl (show _ ≤ _ from by simp [Value.category]) (by decide) dX12_isHigh_11) hS0 (fun v21 locs21 hr21 hS21 => ?_)
  refine q_goIp (q_runV (As := [.long v21]) (rest := []) E hC0 hS21 (m_X12_isWord l X Γ H0 hC0 h0 g0 v21 (a1 := v21.toInt) rfl ca gca uc) cw_X12_isWord cl_RX12_149 g0 ⟨rfl, rfl⟩ rfl hl.1 rfl (Nat.zero_le _) (by decide) dX12_isHigh_14) hS21 (fun v22 locs22 hr22 hS22 => ?_)
  rcases hr22 with rfl | rfl
  · exact ret 0 H0 locs22 _ _ dX12_isHigh_17 (Or.inl rfl) ⟨rfl, Or.inl rfl⟩ hC0 hS22
  · exact ret 1 H0 locs22 _ _ dX12_isHigh_17 (Or.inr rfl) ⟨rfl, Or.inr rfl⟩ hC0 hS22
