set_option maxRecDepth 100000 in
set_option maxHeartbeats 4000000 in
theorem m_X0_explain (l : Launch) (X : xW) (Γ : Nat → Option Nat) (H0 : Heap) (hC0 : Conf X Γ H0) (h0 : Nat) (g0 : Γ h0 = some 8) (h1 : Nat) (g1 : Γ h1 = some 1) (h2 : Nat) (g2 : Γ h2 = some 1) (p3 : Int32) {a3 : Int} (e3 : p3.toInt = a3) (r0 : 2 ≤ a3) (r1 : a3 ≤ 12) (r2 : HW X H0 h1 a3 99) (r3 : HW X H0 h2 (a3 - 1) 20) : Ctr l X Γ yX0_explain cX0_explain 11 none 2 [.ref h0, .ref h1, .ref h2, .int p3] H0 (QV X Γ (fun H1 => Kp X Γ [0, 2, 3, 4, 18, 21, 23, 25, 27] H0 H1 ∧ ((MoS X H1 h0 (wA (nuN X H0 h1) (nuN X H0 h2) ((a3 - 1 : Int).toNat)) (wF (nuN X H0 h1) (nuN X H0 h2) ((a3 - 1 : Int).toNat)) (wG (nuN X H0 h1) (nuN X H0 h2) ((a3 - 1 : Int).toNat)) (wN (nuN X H0 h1) (nuN X H0 h2) ((a3 - 1 : Int).toNat)))))) := by
  refine q_enterV (own := "SnowForts$Mornings") (by decide) rfl (Nat.le_of_ble_eq_true rfl) ?_
  intro p e s m args below meth c ls Qz E hl ret hS0
  have hx := E.1; have hb := E.2.1
  have hKp0 : Kp X Γ [0, 2, 3, 4, 18, 21, 23, 25, 27] H0 H0 := Kp.rf
  have hl : lv_has ls 11 [(0, .ref h0), (1, .ref h1), (2, .ref h2), (3, .int p3)] := hl
  refine lv_aload_n hx hb dX0_explain_0 rfl (lv_at hl 0 rfl) ?_
  refine lv_lconst (v := 1) hx hb dX0_explain_1 rfl ?_
  refine q_put E hC0 hS0 g0 fp_RX0_9 tv_J rfl rfl dX0_explain_2 (fun H21 locs21 hC21 hS21 U21 => ?_)
  have hKp21 := Kp.upO E g0 fp_RX0_9 rfl U21 hKp0
  have m22 : (sI H21 h0 (X.1.2 0 1)).toInt = (sI H0 h0 (X.1.2 0 1)).toInt := congrArg Int32.toInt (up_nI U21 (ne_f E 0 1 0 rfl (by decide) (by decide) (by decide)))
  have m23 : (sI H21 h0 (X.1.2 0 2)).toInt = (sI H0 h0 (X.1.2 0 2)).toInt := congrArg Int32.toInt (up_nI U21 (ne_f E 0 2 0 rfl (by decide) (by decide) (by decide)))
  have m24 : (sI H21 h0 (X.1.2 0 3)).toInt = (sI H0 h0 (X.1.2 0 3)).toInt := congrArg Int32.toInt (up_nI U21 (ne_f E 0 3 0 rfl (by decide) (by decide) (by decide)))
  have hrow : (sJ H21 h0 (X.1.2 0 0)).toInt = 1 := (congrArg Int64.toInt (up_J U21)).trans (by decide)
  refine lv_aload_n hx hb dX0_explain_5 rfl (lv_at hl 0 rfl) ?_
  refine lv_iconst (v := 0) hx hb dX0_explain_6 rfl ?_
  refine q_put E hC21 hS21 g0 fp_RX0_15 tv_F rfl rfl dX0_explain_7 (fun H25 locs25 hC25 hS25 U25 => ?_)
  have hKp25 := Kp.upO E g0 fp_RX0_15 rfl U25 hKp21
  have e26 := up_I U25
  have m27 : (sI H25 h0 (X.1.2 0 1)).toInt = 0 := (congrArg Int32.toInt e26).trans (show (0 : Int32).toInt = 0 from by decide)
  have hrow : (sJ H25 h0 (X.1.2 0 0)).toInt = 1 := (congrArg Int64.toInt (up_nJ U25 (ne_f E 0 0 1 rfl (by decide) (by decide) (by decide)))).trans hrow
  have m28 : (sI H25 h0 (X.1.2 0 2)).toInt = (sI H21 h0 (X.1.2 0 2)).toInt := congrArg Int32.toInt (up_nI U25 (ne_f E 0 2 1 rfl (by decide) (by decide) (by decide)))
  have m29 : (sI H25 h0 (X.1.2 0 3)).toInt = (sI H21 h0 (X.1.2 0 3)).toInt := congrArg Int32.toInt (up_nI U25 (ne_f E 0 3 1 rfl (by decide) (by decide) (by decide)))
  refine lv_aload_n hx hb dX0_explain_10 rfl (lv_at hl 0 rfl) ?_
  refine lv_iconst (v := 0) hx hb dX0_explain_11 rfl ?_
  refine q_put E hC25 hS25 g0 fp_RX0_19 tv_F rfl rfl dX0_explain_12 (fun H30 locs30 hC30 hS30 U30 => ?_)
  have hKp30 := Kp.upO E g0 fp_RX0_19 rfl U30 hKp25
  have e31 := up_I U30
  have m32 : (sI H30 h0 (X.1.2 0 2)).toInt = 0 := (congrArg Int32.toInt e31).trans (show (0 : Int32).toInt = 0 from by decide)
  have hrow : (sJ H30 h0 (X.1.2 0 0)).toInt = 1 := (congrArg Int64.toInt (up_nJ U30 (ne_f E 0 0 2 rfl (by decide) (by decide) (by decide)))).trans hrow
  have m33 : (sI H30 h0 (X.1.2 0 1)).toInt = (sI H25 h0 (X.1.2 0 1)).toInt := congrArg Int32.toInt (up_nI U30 (ne_f E 0 1 2 rfl (by decide) (by decide) (by decide)))
  have m34 : (sI H30 h0 (X.1.2 0 3)).toInt = (sI H25 h0 (X.1.2 0 3)).toInt := congrArg Int32.toInt (up_nI U30 (ne_f E 0 3 2 rfl (by decide) (by decide) (by decide)))
  refine lv_aload_n hx hb dX0_explain_15 rfl (lv_at hl 0 rfl) ?_
  refine lv_iconst (v := 0) hx hb dX0_explain_16 rfl ?_
  refine q_put E hC30 hS30 g0 fp_RX0_22 tv_F rfl rfl dX0_explain_17 (fun H35 locs35 hC35 hS35 U35 => ?_)
  have hKp35 := Kp.upO E g0 fp_RX0_22 rfl U35 hKp30
  have e36 := up_I U35
  have m37 : (sI H35 h0 (X.1.2 0 3)).toInt = 0 := (congrArg Int32.toInt e36).trans (show (0 : Int32).toInt = 0 from by decide)
  have hrow : (sJ H35 h0 (X.1.2 0 0)).toInt = 1 := (congrArg Int64.toInt (up_nJ U35 (ne_f E 0 0 3 rfl (by decide) (by decide) (by decide)))).trans hrow
  have m38 : (sI H35 h0 (X.1.2 0 1)).toInt = (sI H30 h0 (X.1.2 0 1)).toInt := congrArg Int32.toInt (up_nI U35 (ne_f E 0 1 3 rfl (by decide) (by decide) (by decide)))
  have m39 : (sI H35 h0 (X.1.2 0 2)).toInt = (sI H30 h0 (X.1.2 0 2)).toInt := congrArg Int32.toInt (up_nI U35 (ne_f E 0 2 3 rfl (by decide) (by decide) (by decide)))
  refine lv_iconst (v := (-1)) hx hb dX0_explain_20 rfl ?_
  refine lv_istore hx hb dX0_explain_21 hl (by decide) rfl (fun ls hl => ?_)
  replace hl : lv_has ls 11 [(4, .int (-1)), (0, .ref h0), (1, .ref h1), (2, .ref h2), (3, .int p3)] := hl
  refine lv_iconst (v := 0) hx hb dX0_explain_23 rfl ?_
  refine lv_istore hx hb dX0_explain_24 hl (by decide) rfl (fun ls hl => ?_)
  replace hl : lv_has ls 11 [(5, .int 0), (4, .int (-1)), (0, .ref h0), (1, .ref h1), (2, .ref h2), (3, .int p3)] := hl
  have L26 : ∀ (n42 : Nat) (H42 : Heap) (locs42 : List Loc) (v40 : Int32) (z40 : Int) (v41 : Int32) (z41 : Int) (ls : Array Slot), (a3 - 1 - z40).toNat < n42 → v40.toInt = z40 → v41.toInt = z41 → 0 ≤ z40 → 0 ≤ z40 → z40 ≤ a3 - 1 → -1 ≤ z41 → z41 ≤ 9 → (sJ H42 h0 (X.1.2 0 0)).toInt = wA (nuN X H0 h1) (nuN X H0 h2) ((z40 : Int).toNat) → (sI H42 h0 (X.1.2 0 1)).toInt = wF (nuN X H0 h1) (nuN X H0 h2) ((z40 : Int).toNat) → (sI H42 h0 (X.1.2 0 2)).toInt = wG (nuN X H0 h1) (nuN X H0 h2) ((z40 : Int).toNat) → (sI H42 h0 (X.1.2 0 3)).toInt = wN (nuN X H0 h1) (nuN X H0 h2) ((z40 : Int).toNat) → z41 = wM (nuN X H0 h1) (nuN X H0 h2) ((z40 : Int).toNat) → Conf X Γ H42 → va_S (AΓ Γ) H0 H42 locs42 → Kp X Γ [0, 2, 3, 4, 18, 21, 23, 25, 27] H0 H42 → lv_has ls 11 [(5, .int v40), (4, .int v41), (0, .ref h0), (1, .ref h1), (2, .ref h2), (3, .int p3)] → W p l e (rmL 2) s m args below meth c H42 locs42 0 0 Qz (F0 m 26 ls []) := by
    intro n42
    induction n42 with
    | zero => intro H42 locs42 v40 z40 v41 z41 ls hm42 ev40 ev41 iv42_0 iv42_1 iv42_2 iv42_3 iv42_4 iv42_5 iv42_6 iv42_7 iv42_8 iv42_9 hC42 hS42 hKp42 hl; exact absurd hm42 (Nat.not_lt_zero _)
    | succ n42 ih42 =>
      intro H42 locs42 v40 z40 v41 z41 ls hm42 ev40 ev41 iv42_0 iv42_1 iv42_2 iv42_3 iv42_4 iv42_5 iv42_6 iv42_7 iv42_8 iv42_9 hC42 hS42 hKp42 hl
      have hrow := iv42_5
      have hrg := wFG_rng (h := (nuN X H0 h1)) (t := (nuN X H0 h2)) ((z40 : Int).toNat)
      refine lv_iload hx hb dX0_explain_26 (lv_at hl 0 rfl) ?_
      refine lv_iload_n hx hb dX0_explain_28 rfl (lv_at hl 5 rfl) ?_
      refine lv_iconst (v := 1) hx hb dX0_explain_29 rfl ?_
      refine lv_isub hx hb dX0_explain_30 (lv_topi (fun v43 ev43 => ?_))
      have ev43i : v43.toInt = (a3 - 1) := i_sub ev43 e3 (by decide) (by omega) (by omega)
      refine q_icmp_ge hx hb (a := z40) (b := (a3 - 1)) ev40 ev43i (tgt := 171) dX0_explain_31 rfl (fun c44 => ?_) (fun c44 => ?_)
      · have hkn : (a3 - 1 : Int).toNat = (z40 : Int).toNat := by omega
        have hmos : MoS X H42 h0 (wA (nuN X H0 h1) (nuN X H0 h2) ((a3 - 1 : Int).toNat)) (wF (nuN X H0 h1) (nuN X H0 h2) ((a3 - 1 : Int).toNat)) (wG (nuN X H0 h1) (nuN X H0 h2) ((a3 - 1 : Int).toNat)) (wN (nuN X H0 h1) (nuN X H0 h2) ((a3 - 1 : Int).toNat)) := by rw [hkn]; exact ⟨hrow, fun _ => ⟨by omega, by omega, by omega⟩⟩
        exact ret H42 locs42 _ _ dX0_explain_171 ⟨hKp42, hmos⟩ hC42 hS42
      · refine lv_aload_n hx hb dX0_explain_34 rfl (lv_at hl 3 rfl) ?_
        refine lv_iload hx hb dX0_explain_35 (lv_at hl 0 rfl) ?_
        refine q_goJp (q_runV (As := [.int v40]) (rest := []) E hC42 hS42 (m_X6_numberAt l X Γ H42 hC42 h1 g1 v40 (a1 := z40) ev40) cw_X6_numberAt cl_RX0_25 g1 ⟨rfl, rfl⟩ rfl hl.1 rfl (Nat.zero_le _) (by decide) dX0_explain_37) hS42 (fun v45 locs45 hr45 hS45 => ?_)
        have f45_0 := hr45
        have hx6 := nu_at hC0 hKp42 g1 rfl rfl rfl f45_0 (by omega) (by have := (r2 (z40 : Int).toNat (by omega)).1; omega)
        have hr6 := (r2 (z40 : Int).toNat (by omega)).2
        refine lv_l2i hx hb dX0_explain_40 rfl (lv_topi (fun v46 ev46 => ?_))
        have ev46i : v46.toInt = v45.toInt := l_toi ev46 rfl (by omega) (by omega)
        refine lv_istore hx hb dX0_explain_41 hl (by decide) rfl (fun ls hl => ?_)
        replace hl : lv_has ls 11 [(6, .int v46), (5, .int v40), (4, .int v41), (0, .ref h0), (1, .ref h1), (2, .ref h2), (3, .int p3)] := hl
        refine lv_aload_n hx hb dX0_explain_43 rfl (lv_at hl 4 rfl) ?_
        refine lv_iload hx hb dX0_explain_44 (lv_at hl 1 rfl) ?_
        refine lv_iconst (v := 1) hx hb dX0_explain_46 rfl ?_
        refine lv_iadd hx hb dX0_explain_47 (lv_topi (fun v47 ev47 => ?_))
        have ev47i : v47.toInt = (z40 + 1) := i_add ev47 ev40 (by decide) (by omega) (by omega)
        refine q_goJp (q_runV (As := [.int v47]) (rest := []) E hC42 hS45 (m_X6_numberAt l X Γ H42 hC42 h1 g1 v47 (a1 := (z40 + 1)) ev47i) cw_X6_numberAt cl_RX0_25 g1 ⟨rfl, rfl⟩ rfl hl.1 rfl (Nat.zero_le _) (by decide) dX0_explain_48) hS45 (fun v48 locs48 hr48 hS48 => ?_)
        have f48_0 := hr48
        have hx7a := nu_at hC0 hKp42 g1 rfl rfl rfl f48_0 (by omega) (by have := (r2 (z40 + 1 : Int).toNat (by omega)).1; omega)
        have hx7 : v48.toInt = nuN X H0 h1 ((z40 : Int).toNat + 1) := by rw [show (z40 : Int).toNat + 1 = (z40 + 1 : Int).toNat from by omega]; exact hx7a
        have hr7 := (r2 ((z40 : Int).toNat + 1) (by omega)).2
        refine lv_l2i hx hb dX0_explain_51 rfl (lv_topi (fun v49 ev49 => ?_))
        have ev49i : v49.toInt = v48.toInt := l_toi ev49 rfl (by omega) (by omega)
        refine lv_istore hx hb dX0_explain_52 hl (by decide) rfl (fun ls hl => ?_)
        replace hl : lv_has ls 11 [(7, .int v49), (6, .int v46), (5, .int v40), (4, .int v41), (0, .ref h0), (1, .ref h1), (2, .ref h2), (3, .int p3)] := hl
        refine lv_iload hx hb dX0_explain_54 (lv_at hl 0 rfl) ?_
        refine lv_aload_n hx hb dX0_explain_56 rfl (lv_at hl 6 rfl) ?_
        refine lv_iload hx hb dX0_explain_57 (lv_at hl 2 rfl) ?_
        refine q_goJp (q_runV (As := [.int v40]) (rest := [.int v49]) E hC42 hS48 (m_X6_numberAt l X Γ H42 hC42 h2 g2 v40 (a1 := z40) ev40) cw_X6_numberAt cl_RX0_25 g2 ⟨rfl, rfl⟩ rfl hl.1 rfl (show _ ≤ _ from by simp [Value.category]) (by decide) dX0_explain_59) hS48 (fun v50 locs50 hr50 hS50 => ?_)
        have f50_0 := hr50
        have hx8 := nu_at hC0 hKp42 g2 rfl rfl rfl f50_0 (by omega) (by have := (r3 (z40 : Int).toNat (by omega)).1; omega)
        have hr8 := (r3 (z40 : Int).toNat (by omega)).2
        refine lv_l2i hx hb dX0_explain_62 rfl (lv_topi (fun v51 ev51 => ?_))
        have ev51i : v51.toInt = v50.toInt := l_toi ev51 rfl (by omega) (by omega)
        refine lv_iadd hx hb dX0_explain_63 (lv_topi (fun v52 ev52 => ?_))
        have ev52i : v52.toInt = (v48.toInt + v50.toInt) := i_add ev52 ev49i ev51i (by omega) (by omega)
        refine lv_iload hx hb dX0_explain_64 (lv_at hl 1 rfl) ?_
        refine lv_isub hx hb dX0_explain_66 (lv_topi (fun v53 ev53 => ?_))
        have ev53i : v53.toInt = ((v48.toInt + v50.toInt) - v45.toInt) := i_sub ev53 ev52i ev46i (by omega) (by omega)
        refine lv_istore hx hb dX0_explain_67 hl (by decide) rfl (fun ls hl => ?_)
        replace hl : lv_has ls 11 [(8, .int v53), (7, .int v49), (6, .int v46), (5, .int v40), (4, .int v41), (0, .ref h0), (1, .ref h1), (2, .ref h2), (3, .int p3)] := hl
        have hwe : ((v48.toInt + v50.toInt) - v45.toInt) = wE (nuN X H0 h1) (nuN X H0 h2) ((z40 : Int).toNat) := by rw [wE_d]; omega
        refine lv_iload hx hb dX0_explain_69 (lv_at hl 1 rfl) ?_
        refine q_if_ne hx hb (a := v48.toInt) ev49i (tgt := 78) dX0_explain_71 rfl (fun c54 => ?_) (fun c54 => ?_)
        · refine lv_iload hx hb dX0_explain_78 (lv_at hl 0 rfl) ?_
          refine lv_istore hx hb dX0_explain_80 hl (by decide) rfl (fun ls hl => ?_)
          replace hl : lv_has ls 11 [(9, .int v53), (8, .int v53), (7, .int v49), (6, .int v46), (5, .int v40), (4, .int v41), (0, .ref h0), (1, .ref h1), (2, .ref h2), (3, .int p3)] := hl
          have hwl : ((v48.toInt + v50.toInt) - v45.toInt) = wL (nuN X H0 h1) (nuN X H0 h2) ((z40 : Int).toNat) := by rw [wL_d, ← hwe]; split <;> omega
          refine lv_iload hx hb dX0_explain_82 (lv_at hl 1 rfl) ?_
          refine lv_bipush (v := 9) hx hb dX0_explain_84 rfl ?_
          refine q_mmin E hl.1 w_1157 mathw_min (a := ((v48.toInt + v50.toInt) - v45.toInt)) (b := 9) ev53i (show (9 : Int32).toInt = 9 from by decide) (by decide) (Nat.zero_le _) dX0_explain_86 (fun v55 mv55a mv55b mv55c => ?_)
          refine lv_istore hx hb dX0_explain_89 hl (by decide) rfl (fun ls hl => ?_)
          replace hl : lv_has ls 11 [(10, .int v55), (9, .int v53), (8, .int v53), (7, .int v49), (6, .int v46), (5, .int v40), (4, .int v41), (0, .ref h0), (1, .ref h1), (2, .ref h2), (3, .int p3)] := hl
          have hwh : v55.toInt = wH (nuN X H0 h1) (nuN X H0 h2) ((z40 : Int).toNat) := by rw [wH_d, ← hwe]; split <;> omega
          refine lv_iload hx hb dX0_explain_91 (lv_at hl 1 rfl) ?_
          refine q_if_lt hx hb (a := ((v48.toInt + v50.toInt) - v45.toInt)) ev53i (tgt := 103) dX0_explain_93 rfl (fun c56 => ?_) (fun c56 => ?_)
          · have hz := wA_zero (h := (nuN X H0 h1)) (t := (nuN X H0 h2)) (j := (z40 : Int).toNat) (fun q => by have q1 := q.1; have q2 := q.2; omega) ((a3 - 1 : Int).toNat) (by omega)
            refine lv_aload_n hx hb dX0_explain_103 rfl (lv_at hl 7 rfl) ?_
            refine lv_lconst (v := 0) hx hb dX0_explain_104 rfl ?_
            refine q_put E hC42 hS50 g0 fp_RX0_9 tv_J rfl rfl dX0_explain_105 (fun H57 locs57 hC57 hS57 U57 => ?_)
            have hKp57 := Kp.upO E g0 fp_RX0_9 rfl U57 hKp42
            have m58 : (sI H57 h0 (X.1.2 0 1)).toInt = (sI H42 h0 (X.1.2 0 1)).toInt := congrArg Int32.toInt (up_nI U57 (ne_f E 0 1 0 rfl (by decide) (by decide) (by decide)))
            have m59 : (sI H57 h0 (X.1.2 0 2)).toInt = (sI H42 h0 (X.1.2 0 2)).toInt := congrArg Int32.toInt (up_nI U57 (ne_f E 0 2 0 rfl (by decide) (by decide) (by decide)))
            have m60 : (sI H57 h0 (X.1.2 0 3)).toInt = (sI H42 h0 (X.1.2 0 3)).toInt := congrArg Int32.toInt (up_nI U57 (ne_f E 0 3 0 rfl (by decide) (by decide) (by decide)))
            have hmos : MoS X H57 h0 (wA (nuN X H0 h1) (nuN X H0 h2) ((a3 - 1 : Int).toNat)) (wF (nuN X H0 h1) (nuN X H0 h2) ((a3 - 1 : Int).toNat)) (wG (nuN X H0 h1) (nuN X H0 h2) ((a3 - 1 : Int).toNat)) (wN (nuN X H0 h1) (nuN X H0 h2) ((a3 - 1 : Int).toNat)) := ⟨((congrArg Int64.toInt (up_J U57)).trans (by decide)).trans hz.symm, fun q => absurd hz q⟩
            exact ret H57 locs57 _ _ dX0_explain_108 ⟨hKp57, hmos⟩ hC57 hS57
          · refine lv_iload hx hb dX0_explain_96 (lv_at hl 1 rfl) ?_
            refine lv_iload hx hb dX0_explain_98 (lv_at hl 0 rfl) ?_
            refine q_icmp_le hx hb (a := ((v48.toInt + v50.toInt) - v45.toInt)) (b := v55.toInt) ev53i rfl (tgt := 109) dX0_explain_100 rfl (fun c61 => ?_) (fun c61 => ?_)
            · have hok : wOk (nuN X H0 h1) (nuN X H0 h2) ((z40 : Int).toNat) := ⟨by omega, by omega⟩
              have hwc : wC (nuN X H0 h1) (nuN X H0 h2) ((z40 : Int).toNat) = v55.toInt - ((v48.toInt + v50.toInt) - v45.toInt) + 1 := by rw [wC_ok hok]; omega
              have hl0 : wL0 (nuN X H0 h1) (nuN X H0 h2) ((z40 : Int).toNat) = ((v48.toInt + v50.toInt) - v45.toInt) := by rw [wL0_ok hok]; omega
              have hh0 : wH0 (nuN X H0 h1) (nuN X H0 h2) ((z40 : Int).toNat) = v55.toInt := by rw [wH0_ok hok]; omega
              have hF1 : wF (nuN X H0 h1) (nuN X H0 h2) ((z40 : Int).toNat + 1) = wF (nuN X H0 h1) (nuN X H0 h2) ((z40 : Int).toNat) + wL0 (nuN X H0 h1) (nuN X H0 h2) ((z40 : Int).toNat) := wF_s
              have hG1 : wG (nuN X H0 h1) (nuN X H0 h2) ((z40 : Int).toNat + 1) = wG (nuN X H0 h1) (nuN X H0 h2) ((z40 : Int).toNat) + wH0 (nuN X H0 h1) (nuN X H0 h2) ((z40 : Int).toNat) := wG_s
              have hq9 : 0 ≤ ((v48.toInt + v50.toInt) - v45.toInt) ∧ ((v48.toInt + v50.toInt) - v45.toInt) ≤ v55.toInt ∧ v55.toInt ≤ 9 := by omega
              clear hx6 hr6 hx7a hx7 hr7 hx8 hr8 hwe hwl hwh hok
              refine lv_aload_n hx hb dX0_explain_109 rfl (lv_at hl 7 rfl) ?_
              refine lv_dup hx hb dX0_explain_110 rfl ?_
              refine q_getJ E hC42 g0 fa_RX0_9 dX0_explain_111 (fun v62 ev62 => ?_)
              have hra : v62.toInt = wA (nuN X H0 h1) (nuN X H0 h2) ((z40 : Int).toNat) := by rw [← ev62]; exact hrow
              refine lv_iload hx hb dX0_explain_114 (lv_at hl 0 rfl) ?_
              refine lv_iload hx hb dX0_explain_116 (lv_at hl 1 rfl) ?_
              refine lv_isub hx hb dX0_explain_118 (lv_topi (fun v63 ev63 => ?_))
              have ev63i : v63.toInt = (v55.toInt - ((v48.toInt + v50.toInt) - v45.toInt)) := i_sub ev63 rfl ev53i (by omega) (by omega)
              refine lv_iconst (v := 1) hx hb dX0_explain_119 rfl ?_
              refine lv_iadd hx hb dX0_explain_120 (lv_topi (fun v64 ev64 => ?_))
              have ev64i : v64.toInt = ((v55.toInt - ((v48.toInt + v50.toInt) - v45.toInt)) + 1) := i_add ev64 ev63i (by decide) (by omega) (by omega)
              refine lv_i2l (v := v64.toInt64) hx hb dX0_explain_121 rfl (lv_topl (fun v65 ev65 => ?_))
              have ev65i : v65.toInt = ((v55.toInt - ((v48.toInt + v50.toInt) - v45.toInt)) + 1) := l_ofi ev65.symm ev64i
              refine lv_lmul hx hb dX0_explain_122 (lv_topl (fun v66 ev66 => ?_))
              have hmu := w_mul ev66 hra (ev65i.trans (by omega)) (by omega)
              refine q_put E hC42 hS50 g0 fp_RX0_9 tv_J rfl rfl dX0_explain_123 (fun H67 locs67 hC67 hS67 U67 => ?_)
              have hKp67 := Kp.upO E g0 fp_RX0_9 rfl U67 hKp42
              have m68 : (sI H67 h0 (X.1.2 0 1)).toInt = (sI H42 h0 (X.1.2 0 1)).toInt := congrArg Int32.toInt (up_nI U67 (ne_f E 0 1 0 rfl (by decide) (by decide) (by decide)))
              have m69 : (sI H67 h0 (X.1.2 0 2)).toInt = (sI H42 h0 (X.1.2 0 2)).toInt := congrArg Int32.toInt (up_nI U67 (ne_f E 0 2 0 rfl (by decide) (by decide) (by decide)))
              have m70 : (sI H67 h0 (X.1.2 0 3)).toInt = (sI H42 h0 (X.1.2 0 3)).toInt := congrArg Int32.toInt (up_nI U67 (ne_f E 0 3 0 rfl (by decide) (by decide) (by decide)))
              have hrow2 : (sJ H67 h0 (X.1.2 0 0)).toInt = wA (nuN X H0 h1) (nuN X H0 h2) ((z40 : Int).toNat + 1) := (congrArg Int64.toInt (up_J U67)).trans hmu
              refine lv_aload_n hx hb dX0_explain_126 rfl (lv_at hl 7 rfl) ?_
              refine lv_dup hx hb dX0_explain_127 rfl ?_
              refine q_getI E hC67 g0 fa_RX0_15 dX0_explain_128 (fun v71 ev71 _ _ => ?_)
              have m72 : (sI H67 h0 (X.1.2 0 1)).toInt = v71.toInt := (congrArg Int32.toInt ev71).trans rfl
              refine lv_iload hx hb dX0_explain_131 (lv_at hl 1 rfl) ?_
              refine lv_iadd hx hb dX0_explain_133 (lv_topi (fun v73 ev73 => ?_))
              have ev73i : v73.toInt = (v71.toInt + ((v48.toInt + v50.toInt) - v45.toInt)) := i_add ev73 rfl ev53i (by omega) (by omega)
              refine q_put E hC67 hS67 g0 fp_RX0_15 tv_F rfl rfl dX0_explain_134 (fun H74 locs74 hC74 hS74 U74 => ?_)
              have hKp74 := Kp.upO E g0 fp_RX0_15 rfl U74 hKp67
              have e75 := up_I U74
              have m76 : (sI H74 h0 (X.1.2 0 1)).toInt = (v71.toInt + ((v48.toInt + v50.toInt) - v45.toInt)) := (congrArg Int32.toInt e75).trans ev73i
              have hrow2 : (sJ H74 h0 (X.1.2 0 0)).toInt = wA (nuN X H0 h1) (nuN X H0 h2) ((z40 : Int).toNat + 1) := (congrArg Int64.toInt (up_nJ U74 (ne_f E 0 0 1 rfl (by decide) (by decide) (by decide)))).trans hrow2
              have m77 : (sI H74 h0 (X.1.2 0 2)).toInt = (sI H67 h0 (X.1.2 0 2)).toInt := congrArg Int32.toInt (up_nI U74 (ne_f E 0 2 1 rfl (by decide) (by decide) (by decide)))
              have m78 : (sI H74 h0 (X.1.2 0 3)).toInt = (sI H67 h0 (X.1.2 0 3)).toInt := congrArg Int32.toInt (up_nI U74 (ne_f E 0 3 1 rfl (by decide) (by decide) (by decide)))
              refine lv_aload_n hx hb dX0_explain_137 rfl (lv_at hl 7 rfl) ?_
              refine lv_dup hx hb dX0_explain_138 rfl ?_
              refine q_getI E hC74 g0 fa_RX0_19 dX0_explain_139 (fun v79 ev79 _ _ => ?_)
              have m80 : (sI H74 h0 (X.1.2 0 2)).toInt = v79.toInt := (congrArg Int32.toInt ev79).trans rfl
              refine lv_iload hx hb dX0_explain_142 (lv_at hl 0 rfl) ?_
              refine lv_iadd hx hb dX0_explain_144 (lv_topi (fun v81 ev81 => ?_))
              have ev81i : v81.toInt = (v79.toInt + v55.toInt) := i_add ev81 rfl rfl (by omega) (by omega)
              refine q_put E hC74 hS74 g0 fp_RX0_19 tv_F rfl rfl dX0_explain_145 (fun H82 locs82 hC82 hS82 U82 => ?_)
              have hKp82 := Kp.upO E g0 fp_RX0_19 rfl U82 hKp74
              have e83 := up_I U82
              have m84 : (sI H82 h0 (X.1.2 0 2)).toInt = (v79.toInt + v55.toInt) := (congrArg Int32.toInt e83).trans ev81i
              have hrow2 : (sJ H82 h0 (X.1.2 0 0)).toInt = wA (nuN X H0 h1) (nuN X H0 h2) ((z40 : Int).toNat + 1) := (congrArg Int64.toInt (up_nJ U82 (ne_f E 0 0 2 rfl (by decide) (by decide) (by decide)))).trans hrow2
              have m85 : (sI H82 h0 (X.1.2 0 1)).toInt = (sI H74 h0 (X.1.2 0 1)).toInt := congrArg Int32.toInt (up_nI U82 (ne_f E 0 1 2 rfl (by decide) (by decide) (by decide)))
              have m86 : (sI H82 h0 (X.1.2 0 3)).toInt = (sI H74 h0 (X.1.2 0 3)).toInt := congrArg Int32.toInt (up_nI U82 (ne_f E 0 3 2 rfl (by decide) (by decide) (by decide)))
              refine lv_iload hx hb dX0_explain_148 (lv_at hl 1 rfl) ?_
              refine lv_iload hx hb dX0_explain_150 (lv_at hl 6 rfl) ?_
              refine q_icmp_le hx hb (a := ((v48.toInt + v50.toInt) - v45.toInt)) (b := z41) ev53i ev41 (tgt := 165) dX0_explain_152 rfl (fun c87 => ?_) (fun c87 => ?_)
              · have hMf : z41 = wM (nuN X H0 h1) (nuN X H0 h2) ((z40 : Int).toNat + 1) := by first | (rw [wM_p (by omega)]; omega) | (rw [wM_n (by omega)]; omega)
                have hNf : (sI H82 h0 (X.1.2 0 3)).toInt = wN (nuN X H0 h1) (nuN X H0 h2) ((z40 : Int).toNat + 1) := by first | (rw [wN_p (by omega)]; omega) | (rw [wN_n (by omega)]; omega)
                have hk1 : (z40 + 1 : Int).toNat = (z40 : Int).toNat + 1 := by omega
                obtain ⟨v88, ev88⟩ : ∃ z, z = v40 + Int32.ofInt 1 := ⟨_, rfl⟩
                have ev88i : v88.toInt = (z40 + 1) := i_add ev88 ev40 (by decide) (by omega) (by omega)
                refine lv_iinc hx hb dX0_explain_165 hl (k := 5) rfl ev88.symm (by decide) rfl (fun ls hl => ?_)
                replace hl : lv_has ls 11 [(5, .int v88), (10, .int v55), (9, .int v53), (8, .int v53), (7, .int v49), (6, .int v46), (4, .int v41), (0, .ref h0), (1, .ref h1), (2, .ref h2), (3, .int p3)] := hl
                refine lv_goto (tgt := 26) hx hb dX0_explain_168 rfl ?_
                exact ih42 H82 locs82 v88 ((z40 + 1)) v41 (z41) ls (by omega) ev88i ev41 (by omega) (by omega) (by omega) (by omega) (by omega) (by rw [hk1]; exact hrow2) (by rw [hk1]; omega) (by rw [hk1]; omega) (by rw [hk1]; exact hNf) (by rw [hk1]; exact hMf) hC82 hS82 hKp82 (lv_sub hl [0, 6, 7, 8, 9, 10] rfl)
              · refine lv_iload hx hb dX0_explain_155 (lv_at hl 1 rfl) ?_
                refine lv_istore hx hb dX0_explain_157 hl (by decide) rfl (fun ls hl => ?_)
                replace hl : lv_has ls 11 [(4, .int v53), (10, .int v55), (9, .int v53), (8, .int v53), (7, .int v49), (6, .int v46), (5, .int v40), (0, .ref h0), (1, .ref h1), (2, .ref h2), (3, .int p3)] := hl
                refine lv_aload_n hx hb dX0_explain_159 rfl (lv_at hl 7 rfl) ?_
                refine lv_iload hx hb dX0_explain_160 (lv_at hl 6 rfl) ?_
                refine q_put E hC82 hS82 g0 fp_RX0_22 tv_F rfl rfl dX0_explain_162 (fun H89 locs89 hC89 hS89 U89 => ?_)
                have hKp89 := Kp.upO E g0 fp_RX0_22 rfl U89 hKp82
                have e90 := up_I U89
                have m91 : (sI H89 h0 (X.1.2 0 3)).toInt = z40 := (congrArg Int32.toInt e90).trans ev40
                have hrow2 : (sJ H89 h0 (X.1.2 0 0)).toInt = wA (nuN X H0 h1) (nuN X H0 h2) ((z40 : Int).toNat + 1) := (congrArg Int64.toInt (up_nJ U89 (ne_f E 0 0 3 rfl (by decide) (by decide) (by decide)))).trans hrow2
                have m92 : (sI H89 h0 (X.1.2 0 1)).toInt = (sI H82 h0 (X.1.2 0 1)).toInt := congrArg Int32.toInt (up_nI U89 (ne_f E 0 1 3 rfl (by decide) (by decide) (by decide)))
                have m93 : (sI H89 h0 (X.1.2 0 2)).toInt = (sI H82 h0 (X.1.2 0 2)).toInt := congrArg Int32.toInt (up_nI U89 (ne_f E 0 2 3 rfl (by decide) (by decide) (by decide)))
                have hMf : ((v48.toInt + v50.toInt) - v45.toInt) = wM (nuN X H0 h1) (nuN X H0 h2) ((z40 : Int).toNat + 1) := by first | (rw [wM_p (by omega)]; omega) | (rw [wM_n (by omega)]; omega)
                have hNf : (sI H89 h0 (X.1.2 0 3)).toInt = wN (nuN X H0 h1) (nuN X H0 h2) ((z40 : Int).toNat + 1) := by first | (rw [wN_p (by omega)]; omega) | (rw [wN_n (by omega)]; omega)
                have hk1 : (z40 + 1 : Int).toNat = (z40 : Int).toNat + 1 := by omega
                obtain ⟨v94, ev94⟩ : ∃ z, z = v40 + Int32.ofInt 1 := ⟨_, rfl⟩
                have ev94i : v94.toInt = (z40 + 1) := i_add ev94 ev40 (by decide) (by omega) (by omega)
                refine lv_iinc hx hb dX0_explain_165 hl (k := 6) rfl ev94.symm (by decide) rfl (fun ls hl => ?_)
                replace hl : lv_has ls 11 [(5, .int v94), (4, .int v53), (10, .int v55), (9, .int v53), (8, .int v53), (7, .int v49), (6, .int v46), (0, .ref h0), (1, .ref h1), (2, .ref h2), (3, .int p3)] := hl
                refine lv_goto (tgt := 26) hx hb dX0_explain_168 rfl ?_
                exact ih42 H89 locs89 v94 ((z40 + 1)) v53 (((v48.toInt + v50.toInt) - v45.toInt)) ls (by omega) ev94i ev53i (by omega) (by omega) (by omega) (by omega) (by omega) (by rw [hk1]; exact hrow2) (by rw [hk1]; omega) (by rw [hk1]; omega) (by rw [hk1]; exact hNf) (by rw [hk1]; exact hMf) hC89 hS89 hKp89 (lv_sub hl [0, 1, 7, 8, 9, 10] rfl)
            · have hz := wA_zero (h := (nuN X H0 h1)) (t := (nuN X H0 h2)) (j := (z40 : Int).toNat) (fun q => by have q1 := q.1; have q2 := q.2; omega) ((a3 - 1 : Int).toNat) (by omega)
              refine lv_aload_n hx hb dX0_explain_103 rfl (lv_at hl 7 rfl) ?_
              refine lv_lconst (v := 0) hx hb dX0_explain_104 rfl ?_
              refine q_put E hC42 hS50 g0 fp_RX0_9 tv_J rfl rfl dX0_explain_105 (fun H95 locs95 hC95 hS95 U95 => ?_)
              have hKp95 := Kp.upO E g0 fp_RX0_9 rfl U95 hKp42
              have m96 : (sI H95 h0 (X.1.2 0 1)).toInt = (sI H42 h0 (X.1.2 0 1)).toInt := congrArg Int32.toInt (up_nI U95 (ne_f E 0 1 0 rfl (by decide) (by decide) (by decide)))
              have m97 : (sI H95 h0 (X.1.2 0 2)).toInt = (sI H42 h0 (X.1.2 0 2)).toInt := congrArg Int32.toInt (up_nI U95 (ne_f E 0 2 0 rfl (by decide) (by decide) (by decide)))
              have m98 : (sI H95 h0 (X.1.2 0 3)).toInt = (sI H42 h0 (X.1.2 0 3)).toInt := congrArg Int32.toInt (up_nI U95 (ne_f E 0 3 0 rfl (by decide) (by decide) (by decide)))
              have hmos : MoS X H95 h0 (wA (nuN X H0 h1) (nuN X H0 h2) ((a3 - 1 : Int).toNat)) (wF (nuN X H0 h1) (nuN X H0 h2) ((a3 - 1 : Int).toNat)) (wG (nuN X H0 h1) (nuN X H0 h2) ((a3 - 1 : Int).toNat)) (wN (nuN X H0 h1) (nuN X H0 h2) ((a3 - 1 : Int).toNat)) := ⟨((congrArg Int64.toInt (up_J U95)).trans (by decide)).trans hz.symm, fun q => absurd hz q⟩
              exact ret H95 locs95 _ _ dX0_explain_108 ⟨hKp95, hmos⟩ hC95 hS95
        · refine lv_iconst (v := 0) hx hb dX0_explain_74 rfl ?_
          refine lv_goto (tgt := 80) hx hb dX0_explain_75 rfl ?_
          refine lv_istore hx hb dX0_explain_80 hl (by decide) rfl (fun ls hl => ?_)
          replace hl : lv_has ls 11 [(9, .int 0), (8, .int v53), (7, .int v49), (6, .int v46), (5, .int v40), (4, .int v41), (0, .ref h0), (1, .ref h1), (2, .ref h2), (3, .int p3)] := hl
          have hwl : 0 = wL (nuN X H0 h1) (nuN X H0 h2) ((z40 : Int).toNat) := by rw [wL_d, ← hwe]; split <;> omega
          refine lv_iload hx hb dX0_explain_82 (lv_at hl 1 rfl) ?_
          refine lv_bipush (v := 9) hx hb dX0_explain_84 rfl ?_
          refine q_mmin E hl.1 w_1157 mathw_min (a := ((v48.toInt + v50.toInt) - v45.toInt)) (b := 9) ev53i (show (9 : Int32).toInt = 9 from by decide) (by decide) (Nat.zero_le _) dX0_explain_86 (fun v99 mv99a mv99b mv99c => ?_)
          refine lv_istore hx hb dX0_explain_89 hl (by decide) rfl (fun ls hl => ?_)
          replace hl : lv_has ls 11 [(10, .int v99), (9, .int 0), (8, .int v53), (7, .int v49), (6, .int v46), (5, .int v40), (4, .int v41), (0, .ref h0), (1, .ref h1), (2, .ref h2), (3, .int p3)] := hl
          have hwh : v99.toInt = wH (nuN X H0 h1) (nuN X H0 h2) ((z40 : Int).toNat) := by rw [wH_d, ← hwe]; split <;> omega
          refine lv_iload hx hb dX0_explain_91 (lv_at hl 1 rfl) ?_
          refine q_if_lt hx hb (a := 0) (by decide) (tgt := 103) dX0_explain_93 rfl (fun c100 => absurd c100 (by omega)) (fun c100 => ?_)
          refine lv_iload hx hb dX0_explain_96 (lv_at hl 1 rfl) ?_
          refine lv_iload hx hb dX0_explain_98 (lv_at hl 0 rfl) ?_
          refine q_icmp_le hx hb (a := 0) (b := v99.toInt) (by decide) rfl (tgt := 109) dX0_explain_100 rfl (fun c101 => ?_) (fun c101 => ?_)
          · have hok : wOk (nuN X H0 h1) (nuN X H0 h2) ((z40 : Int).toNat) := ⟨by omega, by omega⟩
            have hwc : wC (nuN X H0 h1) (nuN X H0 h2) ((z40 : Int).toNat) = v99.toInt - 0 + 1 := by rw [wC_ok hok]; omega
            have hl0 : wL0 (nuN X H0 h1) (nuN X H0 h2) ((z40 : Int).toNat) = 0 := by rw [wL0_ok hok]; omega
            have hh0 : wH0 (nuN X H0 h1) (nuN X H0 h2) ((z40 : Int).toNat) = v99.toInt := by rw [wH0_ok hok]; omega
            have hF1 : wF (nuN X H0 h1) (nuN X H0 h2) ((z40 : Int).toNat + 1) = wF (nuN X H0 h1) (nuN X H0 h2) ((z40 : Int).toNat) + wL0 (nuN X H0 h1) (nuN X H0 h2) ((z40 : Int).toNat) := wF_s
            have hG1 : wG (nuN X H0 h1) (nuN X H0 h2) ((z40 : Int).toNat + 1) = wG (nuN X H0 h1) (nuN X H0 h2) ((z40 : Int).toNat) + wH0 (nuN X H0 h1) (nuN X H0 h2) ((z40 : Int).toNat) := wG_s
            have hq9 : 0 ≤ 0 ∧ 0 ≤ v99.toInt ∧ v99.toInt ≤ 9 := by omega
            clear hx6 hr6 hx7a hx7 hr7 hx8 hr8 hwe hwl hwh hok
            refine lv_aload_n hx hb dX0_explain_109 rfl (lv_at hl 7 rfl) ?_
            refine lv_dup hx hb dX0_explain_110 rfl ?_
            refine q_getJ E hC42 g0 fa_RX0_9 dX0_explain_111 (fun v102 ev102 => ?_)
            have hra : v102.toInt = wA (nuN X H0 h1) (nuN X H0 h2) ((z40 : Int).toNat) := by rw [← ev102]; exact hrow
            refine lv_iload hx hb dX0_explain_114 (lv_at hl 0 rfl) ?_
            refine lv_iload hx hb dX0_explain_116 (lv_at hl 1 rfl) ?_
            refine lv_isub hx hb dX0_explain_118 (lv_topi (fun v103 ev103 => ?_))
            have ev103i : v103.toInt = (v99.toInt - 0) := i_sub ev103 rfl (by decide) (by omega) (by omega)
            refine lv_iconst (v := 1) hx hb dX0_explain_119 rfl ?_
            refine lv_iadd hx hb dX0_explain_120 (lv_topi (fun v104 ev104 => ?_))
            have ev104i : v104.toInt = ((v99.toInt - 0) + 1) := i_add ev104 ev103i (by decide) (by omega) (by omega)
            refine lv_i2l (v := v104.toInt64) hx hb dX0_explain_121 rfl (lv_topl (fun v105 ev105 => ?_))
            have ev105i : v105.toInt = ((v99.toInt - 0) + 1) := l_ofi ev105.symm ev104i
            refine lv_lmul hx hb dX0_explain_122 (lv_topl (fun v106 ev106 => ?_))
            have hmu := w_mul ev106 hra (ev105i.trans (by omega)) (by omega)
            refine q_put E hC42 hS50 g0 fp_RX0_9 tv_J rfl rfl dX0_explain_123 (fun H107 locs107 hC107 hS107 U107 => ?_)
            have hKp107 := Kp.upO E g0 fp_RX0_9 rfl U107 hKp42
            have m108 : (sI H107 h0 (X.1.2 0 1)).toInt = (sI H42 h0 (X.1.2 0 1)).toInt := congrArg Int32.toInt (up_nI U107 (ne_f E 0 1 0 rfl (by decide) (by decide) (by decide)))
            have m109 : (sI H107 h0 (X.1.2 0 2)).toInt = (sI H42 h0 (X.1.2 0 2)).toInt := congrArg Int32.toInt (up_nI U107 (ne_f E 0 2 0 rfl (by decide) (by decide) (by decide)))
            have m110 : (sI H107 h0 (X.1.2 0 3)).toInt = (sI H42 h0 (X.1.2 0 3)).toInt := congrArg Int32.toInt (up_nI U107 (ne_f E 0 3 0 rfl (by decide) (by decide) (by decide)))
            have hrow2 : (sJ H107 h0 (X.1.2 0 0)).toInt = wA (nuN X H0 h1) (nuN X H0 h2) ((z40 : Int).toNat + 1) := (congrArg Int64.toInt (up_J U107)).trans hmu
            refine lv_aload_n hx hb dX0_explain_126 rfl (lv_at hl 7 rfl) ?_
            refine lv_dup hx hb dX0_explain_127 rfl ?_
            refine q_getI E hC107 g0 fa_RX0_15 dX0_explain_128 (fun v111 ev111 _ _ => ?_)
            have m112 : (sI H107 h0 (X.1.2 0 1)).toInt = v111.toInt := (congrArg Int32.toInt ev111).trans rfl
            refine lv_iload hx hb dX0_explain_131 (lv_at hl 1 rfl) ?_
            refine lv_iadd hx hb dX0_explain_133 (lv_topi (fun v113 ev113 => ?_))
            have ev113i : v113.toInt = (v111.toInt + 0) := i_add ev113 rfl (by decide) (by omega) (by omega)
            refine q_put E hC107 hS107 g0 fp_RX0_15 tv_F rfl rfl dX0_explain_134 (fun H114 locs114 hC114 hS114 U114 => ?_)
            have hKp114 := Kp.upO E g0 fp_RX0_15 rfl U114 hKp107
            have e115 := up_I U114
            have m116 : (sI H114 h0 (X.1.2 0 1)).toInt = (v111.toInt + 0) := (congrArg Int32.toInt e115).trans ev113i
            have hrow2 : (sJ H114 h0 (X.1.2 0 0)).toInt = wA (nuN X H0 h1) (nuN X H0 h2) ((z40 : Int).toNat + 1) := (congrArg Int64.toInt (up_nJ U114 (ne_f E 0 0 1 rfl (by decide) (by decide) (by decide)))).trans hrow2
            have m117 : (sI H114 h0 (X.1.2 0 2)).toInt = (sI H107 h0 (X.1.2 0 2)).toInt := congrArg Int32.toInt (up_nI U114 (ne_f E 0 2 1 rfl (by decide) (by decide) (by decide)))
            have m118 : (sI H114 h0 (X.1.2 0 3)).toInt = (sI H107 h0 (X.1.2 0 3)).toInt := congrArg Int32.toInt (up_nI U114 (ne_f E 0 3 1 rfl (by decide) (by decide) (by decide)))
            refine lv_aload_n hx hb dX0_explain_137 rfl (lv_at hl 7 rfl) ?_
            refine lv_dup hx hb dX0_explain_138 rfl ?_
            refine q_getI E hC114 g0 fa_RX0_19 dX0_explain_139 (fun v119 ev119 _ _ => ?_)
            have m120 : (sI H114 h0 (X.1.2 0 2)).toInt = v119.toInt := (congrArg Int32.toInt ev119).trans rfl
            refine lv_iload hx hb dX0_explain_142 (lv_at hl 0 rfl) ?_
            refine lv_iadd hx hb dX0_explain_144 (lv_topi (fun v121 ev121 => ?_))
            have ev121i : v121.toInt = (v119.toInt + v99.toInt) := i_add ev121 rfl rfl (by omega) (by omega)
            refine q_put E hC114 hS114 g0 fp_RX0_19 tv_F rfl rfl dX0_explain_145 (fun H122 locs122 hC122 hS122 U122 => ?_)
            have hKp122 := Kp.upO E g0 fp_RX0_19 rfl U122 hKp114
            have e123 := up_I U122
            have m124 : (sI H122 h0 (X.1.2 0 2)).toInt = (v119.toInt + v99.toInt) := (congrArg Int32.toInt e123).trans ev121i
            have hrow2 : (sJ H122 h0 (X.1.2 0 0)).toInt = wA (nuN X H0 h1) (nuN X H0 h2) ((z40 : Int).toNat + 1) := (congrArg Int64.toInt (up_nJ U122 (ne_f E 0 0 2 rfl (by decide) (by decide) (by decide)))).trans hrow2
            have m125 : (sI H122 h0 (X.1.2 0 1)).toInt = (sI H114 h0 (X.1.2 0 1)).toInt := congrArg Int32.toInt (up_nI U122 (ne_f E 0 1 2 rfl (by decide) (by decide) (by decide)))
            have m126 : (sI H122 h0 (X.1.2 0 3)).toInt = (sI H114 h0 (X.1.2 0 3)).toInt := congrArg Int32.toInt (up_nI U122 (ne_f E 0 3 2 rfl (by decide) (by decide) (by decide)))
            refine lv_iload hx hb dX0_explain_148 (lv_at hl 1 rfl) ?_
            refine lv_iload hx hb dX0_explain_150 (lv_at hl 6 rfl) ?_
            refine q_icmp_le hx hb (a := 0) (b := z41) (by decide) ev41 (tgt := 165) dX0_explain_152 rfl (fun c127 => ?_) (fun c127 => ?_)
            · have hMf : z41 = wM (nuN X H0 h1) (nuN X H0 h2) ((z40 : Int).toNat + 1) := by first | (rw [wM_p (by omega)]; omega) | (rw [wM_n (by omega)]; omega)
              have hNf : (sI H122 h0 (X.1.2 0 3)).toInt = wN (nuN X H0 h1) (nuN X H0 h2) ((z40 : Int).toNat + 1) := by first | (rw [wN_p (by omega)]; omega) | (rw [wN_n (by omega)]; omega)
              have hk1 : (z40 + 1 : Int).toNat = (z40 : Int).toNat + 1 := by omega
              obtain ⟨v128, ev128⟩ : ∃ z, z = v40 + Int32.ofInt 1 := ⟨_, rfl⟩
              have ev128i : v128.toInt = (z40 + 1) := i_add ev128 ev40 (by decide) (by omega) (by omega)
              refine lv_iinc hx hb dX0_explain_165 hl (k := 5) rfl ev128.symm (by decide) rfl (fun ls hl => ?_)
              replace hl : lv_has ls 11 [(5, .int v128), (10, .int v99), (9, .int 0), (8, .int v53), (7, .int v49), (6, .int v46), (4, .int v41), (0, .ref h0), (1, .ref h1), (2, .ref h2), (3, .int p3)] := hl
              refine lv_goto (tgt := 26) hx hb dX0_explain_168 rfl ?_
              exact ih42 H122 locs122 v128 ((z40 + 1)) v41 (z41) ls (by omega) ev128i ev41 (by omega) (by omega) (by omega) (by omega) (by omega) (by rw [hk1]; exact hrow2) (by rw [hk1]; omega) (by rw [hk1]; omega) (by rw [hk1]; exact hNf) (by rw [hk1]; exact hMf) hC122 hS122 hKp122 (lv_sub hl [0, 6, 7, 8, 9, 10] rfl)
            · refine lv_iload hx hb dX0_explain_155 (lv_at hl 1 rfl) ?_
              refine lv_istore hx hb dX0_explain_157 hl (by decide) rfl (fun ls hl => ?_)
              replace hl : lv_has ls 11 [(4, .int 0), (10, .int v99), (9, .int 0), (8, .int v53), (7, .int v49), (6, .int v46), (5, .int v40), (0, .ref h0), (1, .ref h1), (2, .ref h2), (3, .int p3)] := hl
              refine lv_aload_n hx hb dX0_explain_159 rfl (lv_at hl 7 rfl) ?_
              refine lv_iload hx hb dX0_explain_160 (lv_at hl 6 rfl) ?_
              refine q_put E hC122 hS122 g0 fp_RX0_22 tv_F rfl rfl dX0_explain_162 (fun H129 locs129 hC129 hS129 U129 => ?_)
              have hKp129 := Kp.upO E g0 fp_RX0_22 rfl U129 hKp122
              have e130 := up_I U129
              have m131 : (sI H129 h0 (X.1.2 0 3)).toInt = z40 := (congrArg Int32.toInt e130).trans ev40
              have hrow2 : (sJ H129 h0 (X.1.2 0 0)).toInt = wA (nuN X H0 h1) (nuN X H0 h2) ((z40 : Int).toNat + 1) := (congrArg Int64.toInt (up_nJ U129 (ne_f E 0 0 3 rfl (by decide) (by decide) (by decide)))).trans hrow2
              have m132 : (sI H129 h0 (X.1.2 0 1)).toInt = (sI H122 h0 (X.1.2 0 1)).toInt := congrArg Int32.toInt (up_nI U129 (ne_f E 0 1 3 rfl (by decide) (by decide) (by decide)))
              have m133 : (sI H129 h0 (X.1.2 0 2)).toInt = (sI H122 h0 (X.1.2 0 2)).toInt := congrArg Int32.toInt (up_nI U129 (ne_f E 0 2 3 rfl (by decide) (by decide) (by decide)))
              have hMf : 0 = wM (nuN X H0 h1) (nuN X H0 h2) ((z40 : Int).toNat + 1) := by first | (rw [wM_p (by omega)]; omega) | (rw [wM_n (by omega)]; omega)
              have hNf : (sI H129 h0 (X.1.2 0 3)).toInt = wN (nuN X H0 h1) (nuN X H0 h2) ((z40 : Int).toNat + 1) := by first | (rw [wN_p (by omega)]; omega) | (rw [wN_n (by omega)]; omega)
              have hk1 : (z40 + 1 : Int).toNat = (z40 : Int).toNat + 1 := by omega
              obtain ⟨v134, ev134⟩ : ∃ z, z = v40 + Int32.ofInt 1 := ⟨_, rfl⟩
              have ev134i : v134.toInt = (z40 + 1) := i_add ev134 ev40 (by decide) (by omega) (by omega)
              refine lv_iinc hx hb dX0_explain_165 hl (k := 6) rfl ev134.symm (by decide) rfl (fun ls hl => ?_)
              replace hl : lv_has ls 11 [(5, .int v134), (4, .int 0), (10, .int v99), (9, .int 0), (8, .int v53), (7, .int v49), (6, .int v46), (0, .ref h0), (1, .ref h1), (2, .ref h2), (3, .int p3)] := hl
              refine lv_goto (tgt := 26) hx hb dX0_explain_168 rfl ?_
              exact ih42 H129 locs129 v134 ((z40 + 1)) 0 (0) ls (by omega) ev134i (by decide) (by omega) (by omega) (by omega) (by omega) (by omega) (by rw [hk1]; exact hrow2) (by rw [hk1]; omega) (by rw [hk1]; omega) (by rw [hk1]; exact hNf) (by rw [hk1]; exact hMf) hC129 hS129 hKp129 (lv_sub hl [0, 1, 7, 8, 9, 10] rfl)
          · have hz := wA_zero (h := (nuN X H0 h1)) (t := (nuN X H0 h2)) (j := (z40 : Int).toNat) (fun q => by have q1 := q.1; have q2 := q.2; omega) ((a3 - 1 : Int).toNat) (by omega)
            refine lv_aload_n hx hb dX0_explain_103 rfl (lv_at hl 7 rfl) ?_
            refine lv_lconst (v := 0) hx hb dX0_explain_104 rfl ?_
            refine q_put E hC42 hS50 g0 fp_RX0_9 tv_J rfl rfl dX0_explain_105 (fun H135 locs135 hC135 hS135 U135 => ?_)
            have hKp135 := Kp.upO E g0 fp_RX0_9 rfl U135 hKp42
            have m136 : (sI H135 h0 (X.1.2 0 1)).toInt = (sI H42 h0 (X.1.2 0 1)).toInt := congrArg Int32.toInt (up_nI U135 (ne_f E 0 1 0 rfl (by decide) (by decide) (by decide)))
            have m137 : (sI H135 h0 (X.1.2 0 2)).toInt = (sI H42 h0 (X.1.2 0 2)).toInt := congrArg Int32.toInt (up_nI U135 (ne_f E 0 2 0 rfl (by decide) (by decide) (by decide)))
            have m138 : (sI H135 h0 (X.1.2 0 3)).toInt = (sI H42 h0 (X.1.2 0 3)).toInt := congrArg Int32.toInt (up_nI U135 (ne_f E 0 3 0 rfl (by decide) (by decide) (by decide)))
            have hmos : MoS X H135 h0 (wA (nuN X H0 h1) (nuN X H0 h2) ((a3 - 1 : Int).toNat)) (wF (nuN X H0 h1) (nuN X H0 h2) ((a3 - 1 : Int).toNat)) (wG (nuN X H0 h1) (nuN X H0 h2) ((a3 - 1 : Int).toNat)) (wN (nuN X H0 h1) (nuN X H0 h2) ((a3 - 1 : Int).toNat)) := ⟨((congrArg Int64.toInt (up_J U135)).trans (by decide)).trans hz.symm, fun q => absurd hz q⟩
            exact ret H135 locs135 _ _ dX0_explain_108 ⟨hKp135, hmos⟩ hC135 hS135
  exact L26 _ H35 locs35 0 0 (-1) (-1) ls (Nat.lt_succ_self _) (by decide) (by decide) (by omega) (by omega) (by omega) (by omega) (by omega) (by rw [wZ_A]; exact hrow) (by rw [wZ_F]; omega) (by rw [wZ_G]; omega) (by rw [wZ_N]; omega) (wZ_M.symm) hC35 hS35 hKp35 hl
