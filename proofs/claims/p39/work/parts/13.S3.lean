set_option maxRecDepth 100000 in
set_option maxHeartbeats 4000000 in
theorem m_X9_stepTo (l : Launch) (X : xW) (Γ : Nat → Option Nat) (H0 : Heap) (hC0 : Conf X Γ H0) (h0 : Nat) (g0 : Γ h0 = some 5) (p1 : Int32) {a1 : Int} (e1 : p1.toInt = a1) (p2 : Int32) {a2 : Int} (e2 : p2.toInt = a2) (p3 : Int32) {a3 : Int} (e3 : p3.toInt = a3) : Ctr l X Γ yX9_stepTo cX9_stepTo 4 (some .int) 1 [.ref h0, .int p1, .int p2, .int p3] H0 (QI X Γ (fun v H1 => H1 = H0 ∧ (True))) := by
  refine q_enterI (own := "SnowForts$Yard") (by decide) rfl (Nat.le_of_ble_eq_true rfl) ?_
  intro p e s m args below meth c ls Qz E hl ret hS0
  have hx := E.1; have hb := E.2.1
  have hl : lv_has ls 4 [(0, .ref h0), (1, .int p1), (2, .int p2), (3, .int p3)] := hl
  refine lv_aload_n hx hb dX9_stepTo_0 rfl (lv_at hl 0 rfl) ?_
  refine lv_iload_n hx hb dX9_stepTo_1 rfl (lv_at hl 1 rfl) ?_
  refine lv_bipush (v := 6) hx hb dX9_stepTo_2 rfl ?_
  refine lv_irem hx hb dX9_stepTo_4 (by decide) (lv_topi (fun v21 ev21 => ?_))
  have ev21b := i_remB ev21 e1 (show (6 : Int32).toInt = 6 from by decide) (by decide)
  refine lv_iload_n hx hb dX9_stepTo_5 rfl (lv_at hl 2 rfl) ?_
  refine lv_iadd hx hb dX9_stepTo_6 (lv_topi (fun v22 ev22 => ?_))
  refine lv_iload_n hx hb dX9_stepTo_7 rfl (lv_at hl 1 rfl) ?_
  refine lv_bipush (v := 6) hx hb dX9_stepTo_8 rfl ?_
  refine lv_idiv hx hb dX9_stepTo_10 (by decide) (lv_topi (fun v23 ev23 => ?_))
  refine lv_iload_n hx hb dX9_stepTo_11 rfl (lv_at hl 3 rfl) ?_
  refine lv_iadd hx hb dX9_stepTo_12 (lv_topi (fun v24 ev24 => ?_))
  refine q_goIp (q_runV (As := [.int v22, .int v24]) (rest := []) E hC0 hS0 (m_X9_isCell l X Γ H0 hC0 h0 g0 v22 (a1 := v22.toInt) rfl v24 (a2 := v24.toInt) rfl) cw_X9_isCell cl_RX9_79 g0 ⟨rfl, rfl⟩ rfl hl.1 rfl (Nat.zero_le _) (by decide) dX9_stepTo_13) hS0 (fun v25 locs25 hr25 hS25 => ?_)
  rcases hr25 with ⟨rfl, f25a0, f25a1, f25a2, f25a3⟩ | ⟨rfl, -⟩
  · refine q_if_ne hx hb (a := 1) (by decide) (tgt := 21) dX9_stepTo_16 rfl (fun c26 => ?_) (fun c26 => absurd c26 (by omega))
    refine lv_aload_n hx hb dX9_stepTo_21 rfl (lv_at hl 0 rfl) ?_
    refine lv_iload_n hx hb dX9_stepTo_22 rfl (lv_at hl 1 rfl) ?_
    refine q_goIp (q_runV (As := [.int p1]) (rest := []) E hC0 hS25 (m_X9_topOf l X Γ H0 hC0 h0 g0 p1 (a1 := a1) e1) cw_X9_topOf cl_RX9_152 g0 ⟨rfl, rfl⟩ rfl hl.1 rfl (Nat.zero_le _) (by decide) dX9_stepTo_23) hS25 (fun v27 locs27 hr27 hS27 => ?_)
    refine lv_aload_n hx hb dX9_stepTo_26 rfl (lv_at hl 0 rfl) ?_
    refine lv_iload_n hx hb dX9_stepTo_27 rfl (lv_at hl 1 rfl) ?_
    refine lv_iload_n hx hb dX9_stepTo_28 rfl (lv_at hl 2 rfl) ?_
    refine lv_iadd hx hb dX9_stepTo_29 (lv_topi (fun v28 ev28 => ?_))
    refine lv_iload_n hx hb dX9_stepTo_30 rfl (lv_at hl 3 rfl) ?_
    refine lv_bipush (v := 6) hx hb dX9_stepTo_31 rfl ?_
    refine lv_imul hx hb dX9_stepTo_33 (lv_topi (fun v29 ev29 => ?_))
    refine lv_iadd hx hb dX9_stepTo_34 (lv_topi (fun v30 ev30 => ?_))
    refine q_goIp (q_runV (As := [.int v30]) (rest := [.int v27]) E hC0 hS27 (m_X9_topOf l X Γ H0 hC0 h0 g0 v30 (a1 := v30.toInt) rfl) cw_X9_topOf cl_RX9_152 g0 ⟨rfl, rfl⟩ rfl hl.1 rfl (show _ ≤ _ from by simp [Value.category]) (by decide) dX9_stepTo_35) hS27 (fun v31 locs31 hr31 hS31 => ?_)
    refine lv_isub hx hb dX9_stepTo_38 (lv_topi (fun v32 ev32 => ?_))
    refine q_mabs E hl.1 w_1027 mathw_abs (by decide) (Nat.zero_le _) dX9_stepTo_39 (fun v33 => ?_)
    exact ret v33 H0 locs31 _ _ dX9_stepTo_42 ⟨rfl, trivial⟩ hC0 hS31
  · refine q_if_ne hx hb (a := 0) (by decide) (tgt := 21) dX9_stepTo_16 rfl (fun c34 => absurd c34 (by omega)) (fun c34 => ?_)
    refine lv_iconst (v := 0) hx hb dX9_stepTo_19 rfl ?_
    exact ret 0 H0 locs25 _ _ dX9_stepTo_20 ⟨rfl, trivial⟩ hC0 hS25
set_option maxRecDepth 100000 in
set_option maxHeartbeats 4000000 in
theorem m_X9_steepestStep (l : Launch) (X : xW) (Γ : Nat → Option Nat) (H0 : Heap) (hC0 : Conf X Γ H0) (h0 : Nat) (g0 : Γ h0 = some 5) : Ctr l X Γ yX9_steepestStep cX9_steepestStep 3 (some .int) 2 [.ref h0] H0 (QI X Γ (fun v H1 => H1 = H0 ∧ (True))) := by
  refine q_enterI (own := "SnowForts$Yard") (by decide) rfl (Nat.le_of_ble_eq_true rfl) ?_
  intro p e s m args below meth c ls Qz E hl ret hS0
  have hx := E.1; have hb := E.2.1
  have hl : lv_has ls 3 [(0, .ref h0)] := hl
  refine lv_iconst (v := 0) hx hb dX9_steepestStep_0 rfl ?_
  refine lv_istore_n hx hb dX9_steepestStep_1 rfl hl (by decide) rfl (fun ls hl => ?_)
  replace hl : lv_has ls 3 [(1, .int 0), (0, .ref h0)] := hl
  refine lv_iconst (v := 0) hx hb dX9_steepestStep_2 rfl ?_
  refine lv_istore_n hx hb dX9_steepestStep_3 rfl hl (by decide) rfl (fun ls hl => ?_)
  replace hl : lv_has ls 3 [(2, .int 0), (1, .int 0), (0, .ref h0)] := hl
  have L4 : ∀ (n23 : Nat) (locs23 : List Loc) (v21 : Int32) (z21 : Int) (v22 : Int32) (z22 : Int) (ls : Array Slot), (36 - z21).toNat < n23 → v21.toInt = z21 → v22.toInt = z22 → z21 ≤ 36 → 0 ≤ z21 → va_S (AΓ Γ) H0 H0 locs23 → lv_has ls 3 [(2, .int v21), (1, .int v22), (0, .ref h0)] → W p l e (rmL 2) s m args below meth c H0 locs23 0 0 Qz (F0 m 4 ls []) := by
    intro n23
    induction n23 with
    | zero => intro locs23 v21 z21 v22 z22 ls hm23 ev21 ev22 iv23_0 iv23_1 hS23 hl; exact absurd hm23 (Nat.not_lt_zero _)
    | succ n23 ih23 =>
      intro locs23 v21 z21 v22 z22 ls hm23 ev21 ev22 iv23_0 iv23_1 hS23 hl
      refine lv_iload_n hx hb dX9_steepestStep_4 rfl (lv_at hl 0 rfl) ?_
      refine lv_bipush (v := 36) hx hb dX9_steepestStep_5 rfl ?_
      refine q_icmp_ge hx hb (a := z21) (b := 36) ev21 (by decide) (tgt := 46) dX9_steepestStep_7 rfl (fun c24 => ?_) (fun c24 => ?_)
      · refine lv_iload_n hx hb dX9_steepestStep_46 rfl (lv_at hl 1 rfl) ?_
        exact ret v22 H0 locs23 _ _ dX9_steepestStep_47 ⟨rfl, trivial⟩ hC0 hS23
      · refine lv_aload_n hx hb dX9_steepestStep_10 rfl (lv_at hl 2 rfl) ?_
        refine lv_iload_n hx hb dX9_steepestStep_11 rfl (lv_at hl 0 rfl) ?_
        refine q_goIp (q_runV (As := [.int v21]) (rest := []) E hC0 hS23 (m_X9_holds l X Γ H0 hC0 h0 g0 v21 (a1 := z21) ev21) cw_X9_holds cl_RX9_99 g0 ⟨rfl, rfl⟩ rfl hl.1 rfl (Nat.zero_le _) (by decide) dX9_steepestStep_12) hS23 (fun v25 locs25 hr25 hS25 => ?_)
        rcases hr25 with ⟨rfl, f25a0, f25a1⟩ | ⟨rfl, -⟩
        · refine q_if_eq hx hb (a := 1) (by decide) (tgt := 40) dX9_steepestStep_15 rfl (fun c26 => absurd c26 (by omega)) (fun c26 => ?_)
          refine lv_iload_n hx hb dX9_steepestStep_18 rfl (lv_at hl 1 rfl) ?_
          refine lv_aload_n hx hb dX9_steepestStep_19 rfl (lv_at hl 2 rfl) ?_
          refine lv_iload_n hx hb dX9_steepestStep_20 rfl (lv_at hl 0 rfl) ?_
          refine lv_iconst (v := 1) hx hb dX9_steepestStep_21 rfl ?_
          refine lv_iconst (v := 0) hx hb dX9_steepestStep_22 rfl ?_
          refine q_goIp (q_runV (As := [.int v21, .int 1, .int 0]) (rest := [.int v22]) E hC0 hS25 (m_X9_stepTo l X Γ H0 hC0 h0 g0 v21 (a1 := z21) ev21 1 (a2 := 1) (by decide) 0 (a3 := 0) (by decide)) cw_X9_stepTo cl_RX9_155 g0 ⟨rfl, rfl⟩ rfl hl.1 rfl (show _ ≤ _ from by simp [Value.category]) (by decide) dX9_steepestStep_23) hS25 (fun v27 locs27 hr27 hS27 => ?_)
          refine lv_aload_n hx hb dX9_steepestStep_26 rfl (lv_at hl 2 rfl) ?_
          refine lv_iload_n hx hb dX9_steepestStep_27 rfl (lv_at hl 0 rfl) ?_
          refine lv_iconst (v := 0) hx hb dX9_steepestStep_28 rfl ?_
          refine lv_iconst (v := 1) hx hb dX9_steepestStep_29 rfl ?_
          refine q_goIp (q_runV (As := [.int v21, .int 0, .int 1]) (rest := [.int v27, .int v22]) E hC0 hS27 (m_X9_stepTo l X Γ H0 hC0 h0 g0 v21 (a1 := z21) ev21 0 (a2 := 0) (by decide) 1 (a3 := 1) (by decide)) cw_X9_stepTo cl_RX9_155 g0 ⟨rfl, rfl⟩ rfl hl.1 rfl (show _ ≤ _ from by simp [Value.category]) (by decide) dX9_steepestStep_30) hS27 (fun v28 locs28 hr28 hS28 => ?_)
          refine q_mmax E hl.1 w_893 mathw_max (a := v27.toInt) (b := v28.toInt) rfl rfl (by decide) (show _ ≤ _ from by simp [Value.category]) dX9_steepestStep_33 (fun v29 mv29a mv29b mv29c => ?_)
          refine q_mmax E hl.1 w_893 mathw_max (a := z22) (b := v29.toInt) ev22 rfl (by decide) (Nat.zero_le _) dX9_steepestStep_36 (fun v30 mv30a mv30b mv30c => ?_)
          refine lv_istore_n hx hb dX9_steepestStep_39 rfl hl (by decide) rfl (fun ls hl => ?_)
          replace hl : lv_has ls 3 [(1, .int v30), (2, .int v21), (0, .ref h0)] := hl
          obtain ⟨v31, ev31⟩ : ∃ z, z = v21 + Int32.ofInt 1 := ⟨_, rfl⟩
          have ev31i : v31.toInt = (z21 + 1) := i_add ev31 ev21 (by decide) (by omega) (by omega)
          refine lv_iinc hx hb dX9_steepestStep_40 hl (k := 1) rfl ev31.symm (by decide) rfl (fun ls hl => ?_)
          replace hl : lv_has ls 3 [(2, .int v31), (1, .int v30), (0, .ref h0)] := hl
          refine lv_goto (tgt := 4) hx hb dX9_steepestStep_43 rfl ?_
          exact ih23 locs28 v31 ((z21 + 1)) v30 (v30.toInt) ls (by omega) ev31i rfl (by omega) (by omega) hS28 hl
        · refine q_if_eq hx hb (a := 0) (by decide) (tgt := 40) dX9_steepestStep_15 rfl (fun c32 => ?_) (fun c32 => absurd c32 (by omega))
          obtain ⟨v33, ev33⟩ : ∃ z, z = v21 + Int32.ofInt 1 := ⟨_, rfl⟩
          have ev33i : v33.toInt = (z21 + 1) := i_add ev33 ev21 (by decide) (by omega) (by omega)
          refine lv_iinc hx hb dX9_steepestStep_40 hl (k := 0) rfl ev33.symm (by decide) rfl (fun ls hl => ?_)
          replace hl : lv_has ls 3 [(2, .int v33), (1, .int v22), (0, .ref h0)] := hl
          refine lv_goto (tgt := 4) hx hb dX9_steepestStep_43 rfl ?_
          exact ih23 locs25 v33 ((z21 + 1)) v22 (z22) ls (by omega) ev33i ev22 (by omega) (by omega) hS25 hl
  exact L4 _ [] 0 0 0 0 ls (Nat.lt_succ_self _) (by decide) (by decide) (by omega) (by omega) hS0 hl
set_option maxRecDepth 100000 in
set_option maxHeartbeats 4000000 in
theorem m_X11_steepest (l : Launch) (X : xW) (Γ : Nat → Option Nat) (H0 : Heap) (hC0 : Conf X Γ H0) (h0 : Nat) (g0 : Γ h0 = some 0) : Ctr l X Γ yX11_steepest cX11_steepest 1 (some .int) 3 [.ref h0] H0 (QI X Γ (fun v H1 => Kp X Γ [0, 2, 3, 4, 5, 18, 21, 23, 25, 27] H0 H1 ∧ (True))) := by
  refine q_enterI (own := "SnowForts") (by decide) rfl (Nat.le_of_ble_eq_true rfl) ?_
  intro p e s m args below meth c ls Qz E hl ret hS0
  have hx := E.1; have hb := E.2.1
  have hKp0 : Kp X Γ [0, 2, 3, 4, 5, 18, 21, 23, 25, 27] H0 H0 := Kp.rf
  have hl : lv_has ls 1 [(0, .ref h0)] := hl
  refine lv_aload_n hx hb dX11_steepest_0 rfl (lv_at hl 0 rfl) ?_
  refine lv_aload_n hx hb dX11_steepest_1 rfl (lv_at hl 0 rfl) ?_
  refine q_getR E hC0 g0 fa_RX11_42 dX11_steepest_2 (fun q21 eq21 gq21 => ?_)
  refine q_goIp (q_runV (As := []) (rest := [.ref h0]) E hC0 hS0 (m_X9_steepestStep l X Γ H0 hC0 q21 gq21) cw_X9_steepestStep cl_RX11_272 gq21 ⟨rfl, rfl⟩ rfl hl.1 rfl (show _ ≤ _ from by simp [Value.category]) (by decide) dX11_steepest_5) hS0 (fun v22 locs22 hr22 hS22 => ?_)
  refine q_goI (q_runV (As := [.int v22]) (rest := []) E hC0 hS22 (m_X11_answer l X Γ H0 hC0 h0 g0 v22 (a1 := v22.toInt) rfl) cw_X11_answer cl_RX11_191 g0 ⟨rfl, rfl⟩ rfl hl.1 rfl (Nat.zero_le _) (by decide) dX11_steepest_8) hS22 (fun v23 H23 locs23 hr23 hC23 hS23 => ?_)
  obtain ⟨hp23, hr23⟩ := hr23
  have hKp23 := hKp0.tr (hp23.mono rfl)
  have f23_0 := hr23
  exact ret v23 H23 locs23 _ _ dX11_steepest_11 ⟨hKp23, trivial⟩ hC23 hS23
set_option maxRecDepth 100000 in
set_option maxHeartbeats 4000000 in
theorem m_X9_canBecome (l : Launch) (X : xW) (Γ : Nat → Option Nat) (H0 : Heap) (hC0 : Conf X Γ H0) (h0 : Nat) (g0 : Γ h0 = some 5) (p1 : Int32) {a1 : Int} (e1 : p1.toInt = a1) (p2 : Int32) {a2 : Int} (e2 : p2.toInt = a2) (r0 : 0 ≤ a1) (r1 : a1 ≤ 35) : Ctr l X Γ yX9_canBecome cX9_canBecome 3 (some .boolean) 0 [.ref h0, .int p1, .int p2] H0 (QI X Γ (fun v H1 => H1 = H0 ∧ (v = 0 ∨ v = 1))) := by
  refine q_enterZ (own := "SnowForts$Yard") (by decide) rfl (Nat.le_of_ble_eq_true rfl) ?_
  intro p e s m args below meth c ls Qz E hl ret hS0
  have hx := E.1; have hb := E.2.1
  have hl : lv_has ls 3 [(0, .ref h0), (1, .int p1), (2, .int p2)] := hl
  refine lv_aload_n hx hb dX9_canBecome_0 rfl (lv_at hl 0 rfl) ?_
  refine q_getR E hC0 g0 fa_RX9_37 dX9_canBecome_1 (fun q21 eq21 gq21 => ?_)
  refine lv_iload_n hx hb dX9_canBecome_4 rfl (lv_at hl 1 rfl) ?_
  refine q_iald E hC0 gq21 rfl rfl (fun _ h => h) (i_in (a := a1) e1 (by omega) (by omega)) dX9_canBecome_5 (fun v22 ev22 _ _ => ?_)
  refine lv_iload_n hx hb dX9_canBecome_6 rfl (lv_at hl 2 rfl) ?_
  have c23 := i_rng v22; rw [show v22.toInt = v22.toInt from rfl] at c23
  have c24 := i_rng p2; rw [show p2.toInt = a2 from e2] at c24
  refine q_icmp_gt hx hb (a := v22.toInt) (b := a2) rfl e2 (tgt := 27) dX9_canBecome_7 rfl (fun c25 => ?_) (fun c25 => ?_)
  · refine lv_iconst (v := 0) hx hb dX9_canBecome_27 rfl ?_
    exact ret 0 H0 [] _ _ dX9_canBecome_28 (Or.inl rfl) ⟨rfl, Or.inl rfl⟩ hC0 hS0
  · refine lv_iload_n hx hb dX9_canBecome_10 rfl (lv_at hl 2 rfl) ?_
    refine lv_aload_n hx hb dX9_canBecome_11 rfl (lv_at hl 0 rfl) ?_
    refine q_getR E hC0 g0 fa_RX9_37 dX9_canBecome_12 (fun q26 eq26 gq26 => ?_)
    refine lv_iload_n hx hb dX9_canBecome_15 rfl (lv_at hl 1 rfl) ?_
    refine q_iald E hC0 gq26 rfl rfl (fun _ h => h) (i_in (a := a1) e1 (by omega) (by omega)) dX9_canBecome_16 (fun v27 ev27 _ _ => ?_)
    refine lv_isub hx hb dX9_canBecome_17 (lv_topi (fun v28 ev28 => ?_))
    refine lv_bipush (v := 99) hx hb dX9_canBecome_18 rfl ?_
    refine q_icmp_gt hx hb (a := v28.toInt) (b := 99) rfl (by decide) (tgt := 27) dX9_canBecome_20 rfl (fun c29 => ?_) (fun c29 => ?_)
    · refine lv_iconst (v := 0) hx hb dX9_canBecome_27 rfl ?_
      exact ret 0 H0 [] _ _ dX9_canBecome_28 (Or.inl rfl) ⟨rfl, Or.inl rfl⟩ hC0 hS0
    · refine lv_iconst (v := 1) hx hb dX9_canBecome_23 rfl ?_
      refine lv_goto (tgt := 28) hx hb dX9_canBecome_24 rfl ?_
      exact ret 1 H0 [] _ _ dX9_canBecome_28 (Or.inr rfl) ⟨rfl, Or.inr rfl⟩ hC0 hS0
set_option maxRecDepth 100000 in
set_option maxHeartbeats 4000000 in
theorem m_X9_movedTo (l : Launch) (X : xW) (Γ : Nat → Option Nat) (H0 : Heap) (hC0 : Conf X Γ H0) (h0 : Nat) (g0 : Γ h0 = some 5) (p1 : Int32) {a1 : Int} (e1 : p1.toInt = a1) (p2 : Int32) {a2 : Int} (e2 : p2.toInt = a2) (p3 : Int32) {a3 : Int} (e3 : p3.toInt = a3) : Ctr l X Γ yX9_movedTo cX9_movedTo 12 (some .int) 1 [.ref h0, .int p1, .int p2, .int p3] H0 (QI X Γ (fun v H1 => H1 = H0 ∧ (True))) := by
  refine q_enterI (own := "SnowForts$Yard") (by decide) rfl (Nat.le_of_ble_eq_true rfl) ?_
  intro p e s m args below meth c ls Qz E hl ret hS0
  have hx := E.1; have hb := E.2.1
  have hl : lv_has ls 12 [(0, .ref h0), (1, .int p1), (2, .int p2), (3, .int p3)] := hl
  refine lv_iconst (v := 0) hx hb dX9_movedTo_0 rfl ?_
  refine lv_istore hx hb dX9_movedTo_1 hl (by decide) rfl (fun ls hl => ?_)
  replace hl : lv_has ls 12 [(4, .int 0), (0, .ref h0), (1, .int p1), (2, .int p2), (3, .int p3)] := hl
  refine lv_iconst (v := 0) hx hb dX9_movedTo_3 rfl ?_
  refine lv_istore hx hb dX9_movedTo_4 hl (by decide) rfl (fun ls hl => ?_)
  replace hl : lv_has ls 12 [(5, .int 0), (4, .int 0), (0, .ref h0), (1, .int p1), (2, .int p2), (3, .int p3)] := hl
  refine lv_iconst (v := 0) hx hb dX9_movedTo_6 rfl ?_
  refine lv_istore hx hb dX9_movedTo_7 hl (by decide) rfl (fun ls hl => ?_)
  replace hl : lv_has ls 12 [(6, .int 0), (5, .int 0), (4, .int 0), (0, .ref h0), (1, .int p1), (2, .int p2), (3, .int p3)] := hl
  refine lv_iconst (v := 0) hx hb dX9_movedTo_9 rfl ?_
  refine lv_istore hx hb dX9_movedTo_10 hl (by decide) rfl (fun ls hl => ?_)
  replace hl : lv_has ls 12 [(7, .int 0), (6, .int 0), (5, .int 0), (4, .int 0), (0, .ref h0), (1, .int p1), (2, .int p2), (3, .int p3)] := hl
  refine lv_iconst (v := 0) hx hb dX9_movedTo_12 rfl ?_
  refine lv_istore hx hb dX9_movedTo_13 hl (by decide) rfl (fun ls hl => ?_)
  replace hl : lv_has ls 12 [(8, .int 0), (7, .int 0), (6, .int 0), (5, .int 0), (4, .int 0), (0, .ref h0), (1, .int p1), (2, .int p2), (3, .int p3)] := hl
  have L15 : ∀ (n26 : Nat) (locs26 : List Loc) (v21 : Int32) (z21 : Int) (v22 : Int32) (z22 : Int) (v23 : Int32) (z23 : Int) (v24 : Int32) (z24 : Int) (v25 : Int32) (z25 : Int) (ls : Array Slot), (36 - z21).toNat < n26 → v21.toInt = z21 → v22.toInt = z22 → v23.toInt = z23 → v24.toInt = z24 → v25.toInt = z25 → z21 ≤ 36 → 0 ≤ z21 → va_S (AΓ Γ) H0 H0 locs26 → lv_has ls 12 [(8, .int v21), (7, .int v22), (6, .int v23), (5, .int v24), (4, .int v25), (0, .ref h0), (1, .int p1), (2, .int p2), (3, .int p3)] → W p l e (rmL 1) s m args below meth c H0 locs26 0 0 Qz (F0 m 15 ls []) := by
    intro n26
    induction n26 with
    | zero => intro locs26 v21 z21 v22 z22 v23 z23 v24 z24 v25 z25 ls hm26 ev21 ev22 ev23 ev24 ev25 iv26_0 iv26_1 hS26 hl; exact absurd hm26 (Nat.not_lt_zero _)
    | succ n26 ih26 =>
      intro locs26 v21 z21 v22 z22 v23 z23 v24 z24 v25 z25 ls hm26 ev21 ev22 ev23 ev24 ev25 iv26_0 iv26_1 hS26 hl
      refine lv_iload hx hb dX9_movedTo_15 (lv_at hl 0 rfl) ?_
      refine lv_bipush (v := 36) hx hb dX9_movedTo_17 rfl ?_
      refine q_icmp_ge hx hb (a := z21) (b := 36) ev21 (by decide) (tgt := 131) dX9_movedTo_19 rfl (fun c27 => ?_) (fun c27 => ?_)
      · refine lv_iload_n hx hb dX9_movedTo_131 rfl (lv_at hl 8 rfl) ?_
        refine lv_iload hx hb dX9_movedTo_132 (lv_at hl 3 rfl) ?_
        have c28 := i_rng p3; rw [show p3.toInt = a3 from e3] at c28
        have c29 := i_rng v24; rw [show v24.toInt = z24 from ev24] at c29
        refine q_icmp_lt hx hb (a := a3) (b := z24) e3 ev24 (tgt := 146) dX9_movedTo_134 rfl (fun c30 => ?_) (fun c30 => ?_)
        · refine lv_iconst (v := (-1)) hx hb dX9_movedTo_146 rfl ?_
          exact ret (-1) H0 locs26 _ _ dX9_movedTo_147 ⟨rfl, trivial⟩ hC0 hS26
        · refine lv_iload_n hx hb dX9_movedTo_137 rfl (lv_at hl 8 rfl) ?_
          refine lv_iload hx hb dX9_movedTo_138 (lv_at hl 3 rfl) ?_
          refine lv_iload hx hb dX9_movedTo_140 (lv_at hl 2 rfl) ?_
          refine lv_iadd hx hb dX9_movedTo_142 (lv_topi (fun v31 ev31 => ?_))
          have c32 := i_rng v31; rw [show v31.toInt = v31.toInt from rfl] at c32
          refine q_icmp_le hx hb (a := a3) (b := v31.toInt) e3 rfl (tgt := 148) dX9_movedTo_143 rfl (fun c33 => ?_) (fun c33 => ?_)
          · refine lv_iload hx hb dX9_movedTo_148 (lv_at hl 4 rfl) ?_
            refine lv_iload_n hx hb dX9_movedTo_150 rfl (lv_at hl 8 rfl) ?_
            refine lv_iload hx hb dX9_movedTo_151 (lv_at hl 3 rfl) ?_
            refine lv_isub hx hb dX9_movedTo_153 (lv_topi (fun v34 ev34 => ?_))
            refine lv_iload hx hb dX9_movedTo_154 (lv_at hl 1 rfl) ?_
            refine q_mmin E hl.1 w_908 mathw_min (a := v34.toInt) (b := z22) rfl ev22 (by decide) (show _ ≤ _ from by simp [Value.category]) dX9_movedTo_156 (fun v35 mv35a mv35b mv35c => ?_)
            refine lv_isub hx hb dX9_movedTo_159 (lv_topi (fun v36 ev36 => ?_))
            exact ret v36 H0 locs26 _ _ dX9_movedTo_160 ⟨rfl, trivial⟩ hC0 hS26
          · refine lv_iconst (v := (-1)) hx hb dX9_movedTo_146 rfl ?_
            exact ret (-1) H0 locs26 _ _ dX9_movedTo_147 ⟨rfl, trivial⟩ hC0 hS26
      · refine lv_aload_n hx hb dX9_movedTo_22 rfl (lv_at hl 5 rfl) ?_
        refine lv_iload_n hx hb dX9_movedTo_23 rfl (lv_at hl 6 rfl) ?_
        refine lv_iload hx hb dX9_movedTo_24 (lv_at hl 0 rfl) ?_
        refine q_goIp (q_runV (As := [.int p1, .int v21]) (rest := []) E hC0 hS26 (m_X9_isIn l X Γ H0 hC0 h0 g0 p1 (a1 := a1) e1 v21 (a2 := z21) ev21) cw_X9_isIn cl_RX9_111 g0 ⟨rfl, rfl⟩ rfl hl.1 rfl (Nat.zero_le _) (by decide) dX9_movedTo_26) hS26 (fun v37 locs37 hr37 hS37 => ?_)
        rcases hr37 with rfl | rfl
        · refine q_if_ne hx hb (a := 0) (by decide) (tgt := 35) dX9_movedTo_29 rfl (fun c38 => absurd c38 (by omega)) (fun c38 => ?_)
          refine lv_goto (tgt := 125) hx hb dX9_movedTo_32 rfl ?_
          obtain ⟨v39, ev39⟩ : ∃ z, z = v21 + Int32.ofInt 1 := ⟨_, rfl⟩
          have ev39i : v39.toInt = (z21 + 1) := i_add ev39 ev21 (by decide) (by omega) (by omega)
          refine lv_iinc hx hb dX9_movedTo_125 hl (k := 0) rfl ev39.symm (by decide) rfl (fun ls hl => ?_)
          replace hl : lv_has ls 12 [(8, .int v39), (7, .int v22), (6, .int v23), (5, .int v24), (4, .int v25), (0, .ref h0), (1, .int p1), (2, .int p2), (3, .int p3)] := hl
          refine lv_goto (tgt := 15) hx hb dX9_movedTo_128 rfl ?_
          exact ih26 locs37 v39 ((z21 + 1)) v22 (z22) v23 (z23) v24 (z24) v25 (z25) ls (by omega) ev39i ev22 ev23 ev24 ev25 (by omega) (by omega) hS37 hl
        · refine q_if_ne hx hb (a := 1) (by decide) (tgt := 35) dX9_movedTo_29 rfl (fun c40 => ?_) (fun c40 => absurd c40 (by omega))
          refine lv_aload_n hx hb dX9_movedTo_35 rfl (lv_at hl 5 rfl) ?_
          refine lv_iload hx hb dX9_movedTo_36 (lv_at hl 0 rfl) ?_
          refine lv_iload_n hx hb dX9_movedTo_38 rfl (lv_at hl 7 rfl) ?_
          refine q_goIp (q_runV (As := [.int v21, .int p2]) (rest := []) E hC0 hS37 (m_X9_canBecome l X Γ H0 hC0 h0 g0 v21 (a1 := z21) ev21 p2 (a2 := a2) e2 (by omega) (by omega)) cw_X9_canBecome cl_RX9_165 g0 ⟨rfl, rfl⟩ rfl hl.1 rfl (Nat.zero_le _) (by decide) dX9_movedTo_39) hS37 (fun v41 locs41 hr41 hS41 => ?_)
          rcases hr41 with rfl | rfl
          · refine lv_istore hx hb dX9_movedTo_42 hl (by decide) rfl (fun ls hl => ?_)
            replace hl : lv_has ls 12 [(9, .int 0), (8, .int v21), (7, .int v22), (6, .int v23), (5, .int v24), (4, .int v25), (0, .ref h0), (1, .int p1), (2, .int p2), (3, .int p3)] := hl
            refine lv_aload_n hx hb dX9_movedTo_44 rfl (lv_at hl 6 rfl) ?_
            refine lv_iload hx hb dX9_movedTo_45 (lv_at hl 1 rfl) ?_
            refine lv_iload_n hx hb dX9_movedTo_47 rfl (lv_at hl 8 rfl) ?_
            refine lv_iconst (v := 1) hx hb dX9_movedTo_48 rfl ?_
            refine lv_iadd hx hb dX9_movedTo_49 (lv_topi (fun v42 ev42 => ?_))
            refine q_goIp (q_runV (As := [.int v21, .int v42]) (rest := []) E hC0 hS41 (m_X9_canBecome l X Γ H0 hC0 h0 g0 v21 (a1 := z21) ev21 v42 (a2 := v42.toInt) rfl (by omega) (by omega)) cw_X9_canBecome cl_RX9_165 g0 ⟨rfl, rfl⟩ rfl hl.1 rfl (Nat.zero_le _) (by decide) dX9_movedTo_50) hS41 (fun v43 locs43 hr43 hS43 => ?_)
            rcases hr43 with rfl | rfl
            · refine lv_istore hx hb dX9_movedTo_53 hl (by decide) rfl (fun ls hl => ?_)
              replace hl : lv_has ls 12 [(10, .int 0), (9, .int 0), (8, .int v21), (7, .int v22), (6, .int v23), (5, .int v24), (4, .int v25), (0, .ref h0), (1, .int p1), (2, .int p2), (3, .int p3)] := hl
              refine lv_iconst (v := 0) hx hb dX9_movedTo_55 rfl ?_
              refine lv_aload_n hx hb dX9_movedTo_56 rfl (lv_at hl 7 rfl) ?_
              refine lv_iload hx hb dX9_movedTo_57 (lv_at hl 2 rfl) ?_
              refine q_goIp (q_runV (As := [.int v21]) (rest := [.int 0]) E hC0 hS43 (m_X9_topOf l X Γ H0 hC0 h0 g0 v21 (a1 := z21) ev21) cw_X9_topOf cl_RX9_152 g0 ⟨rfl, rfl⟩ rfl hl.1 rfl (show _ ≤ _ from by simp [Value.category]) (by decide) dX9_movedTo_59) hS43 (fun v44 locs44 hr44 hS44 => ?_)
              refine lv_iload_n hx hb dX9_movedTo_62 rfl (lv_at hl 9 rfl) ?_
              refine lv_isub hx hb dX9_movedTo_63 (lv_topi (fun v45 ev45 => ?_))
              refine q_mmax E hl.1 w_893 mathw_max (a := 0) (b := v45.toInt) (show (0 : Int32).toInt = 0 from by decide) rfl (by decide) (Nat.zero_le _) dX9_movedTo_64 (fun v46 mv46a mv46b mv46c => ?_)
              refine lv_istore hx hb dX9_movedTo_67 hl (by decide) rfl (fun ls hl => ?_)
              replace hl : lv_has ls 12 [(11, .int v46), (10, .int 0), (9, .int 0), (8, .int v21), (7, .int v22), (6, .int v23), (5, .int v24), (4, .int v25), (0, .ref h0), (1, .int p1), (2, .int p2), (3, .int p3)] := hl
              refine lv_iload hx hb dX9_movedTo_69 (lv_at hl 7 rfl) ?_
              refine lv_iload hx hb dX9_movedTo_71 (lv_at hl 0 rfl) ?_
              refine lv_iadd hx hb dX9_movedTo_73 (lv_topi (fun v47 ev47 => ?_))
              refine lv_istore hx hb dX9_movedTo_74 hl (by decide) rfl (fun ls hl => ?_)
              replace hl : lv_has ls 12 [(4, .int v47), (11, .int v46), (10, .int 0), (9, .int 0), (8, .int v21), (7, .int v22), (6, .int v23), (5, .int v24), (0, .ref h0), (1, .int p1), (2, .int p2), (3, .int p3)] := hl
              refine lv_iload hx hb dX9_movedTo_76 (lv_at hl 3 rfl) ?_
              refine q_if_ne hx hb (a := 0) (by decide) (tgt := 88) dX9_movedTo_78 rfl (fun c48 => absurd c48 (by omega)) (fun c48 => ?_)
              refine lv_iload hx hb dX9_movedTo_81 (lv_at hl 2 rfl) ?_
              refine q_if_ne hx hb (a := 0) (by decide) (tgt := 88) dX9_movedTo_83 rfl (fun c49 => absurd c49 (by omega)) (fun c49 => ?_)
              refine lv_iconst (v := (-1)) hx hb dX9_movedTo_86 rfl ?_
              exact ret (-1) H0 locs44 _ _ dX9_movedTo_87 ⟨rfl, trivial⟩ hC0 hS44
            · refine lv_istore hx hb dX9_movedTo_53 hl (by decide) rfl (fun ls hl => ?_)
              replace hl : lv_has ls 12 [(10, .int 1), (9, .int 0), (8, .int v21), (7, .int v22), (6, .int v23), (5, .int v24), (4, .int v25), (0, .ref h0), (1, .int p1), (2, .int p2), (3, .int p3)] := hl
              refine lv_iconst (v := 0) hx hb dX9_movedTo_55 rfl ?_
              refine lv_aload_n hx hb dX9_movedTo_56 rfl (lv_at hl 7 rfl) ?_
              refine lv_iload hx hb dX9_movedTo_57 (lv_at hl 2 rfl) ?_
              refine q_goIp (q_runV (As := [.int v21]) (rest := [.int 0]) E hC0 hS43 (m_X9_topOf l X Γ H0 hC0 h0 g0 v21 (a1 := z21) ev21) cw_X9_topOf cl_RX9_152 g0 ⟨rfl, rfl⟩ rfl hl.1 rfl (show _ ≤ _ from by simp [Value.category]) (by decide) dX9_movedTo_59) hS43 (fun v50 locs50 hr50 hS50 => ?_)
              refine lv_iload_n hx hb dX9_movedTo_62 rfl (lv_at hl 9 rfl) ?_
              refine lv_isub hx hb dX9_movedTo_63 (lv_topi (fun v51 ev51 => ?_))
              refine q_mmax E hl.1 w_893 mathw_max (a := 0) (b := v51.toInt) (show (0 : Int32).toInt = 0 from by decide) rfl (by decide) (Nat.zero_le _) dX9_movedTo_64 (fun v52 mv52a mv52b mv52c => ?_)
              refine lv_istore hx hb dX9_movedTo_67 hl (by decide) rfl (fun ls hl => ?_)
              replace hl : lv_has ls 12 [(11, .int v52), (10, .int 1), (9, .int 0), (8, .int v21), (7, .int v22), (6, .int v23), (5, .int v24), (4, .int v25), (0, .ref h0), (1, .int p1), (2, .int p2), (3, .int p3)] := hl
              refine lv_iload hx hb dX9_movedTo_69 (lv_at hl 7 rfl) ?_
              refine lv_iload hx hb dX9_movedTo_71 (lv_at hl 0 rfl) ?_
              refine lv_iadd hx hb dX9_movedTo_73 (lv_topi (fun v53 ev53 => ?_))
              refine lv_istore hx hb dX9_movedTo_74 hl (by decide) rfl (fun ls hl => ?_)
              replace hl : lv_has ls 12 [(4, .int v53), (11, .int v52), (10, .int 1), (9, .int 0), (8, .int v21), (7, .int v22), (6, .int v23), (5, .int v24), (0, .ref h0), (1, .int p1), (2, .int p2), (3, .int p3)] := hl
              refine lv_iload hx hb dX9_movedTo_76 (lv_at hl 3 rfl) ?_
              refine q_if_ne hx hb (a := 0) (by decide) (tgt := 88) dX9_movedTo_78 rfl (fun c54 => absurd c54 (by omega)) (fun c54 => ?_)
              refine lv_iload hx hb dX9_movedTo_81 (lv_at hl 2 rfl) ?_
              refine q_if_ne hx hb (a := 1) (by decide) (tgt := 88) dX9_movedTo_83 rfl (fun c55 => ?_) (fun c55 => absurd c55 (by omega))
              refine lv_iload hx hb dX9_movedTo_88 (lv_at hl 3 rfl) ?_
              refine q_if_ne hx hb (a := 0) (by decide) (tgt := 102) dX9_movedTo_90 rfl (fun c56 => absurd c56 (by omega)) (fun c56 => ?_)
              obtain ⟨v57, ev57⟩ : ∃ z, z = v24 + Int32.ofInt 1 := ⟨_, rfl⟩
              refine lv_iinc hx hb dX9_movedTo_93 hl (k := 7) rfl ev57.symm (by decide) rfl (fun ls hl => ?_)
              replace hl : lv_has ls 12 [(5, .int v57), (4, .int v53), (11, .int v52), (10, .int 1), (9, .int 0), (8, .int v21), (7, .int v22), (6, .int v23), (0, .ref h0), (1, .int p1), (2, .int p2), (3, .int p3)] := hl
              obtain ⟨v58, ev58⟩ : ∃ z, z = v53 + Int32.ofInt (-1) := ⟨_, rfl⟩
              refine lv_iinc hx hb dX9_movedTo_96 hl (k := 1) rfl ev58.symm (by decide) rfl (fun ls hl => ?_)
              replace hl : lv_has ls 12 [(4, .int v58), (5, .int v57), (11, .int v52), (10, .int 1), (9, .int 0), (8, .int v21), (7, .int v22), (6, .int v23), (0, .ref h0), (1, .int p1), (2, .int p2), (3, .int p3)] := hl
              refine lv_goto (tgt := 125) hx hb dX9_movedTo_99 rfl ?_
              obtain ⟨v59, ev59⟩ : ∃ z, z = v21 + Int32.ofInt 1 := ⟨_, rfl⟩
              have ev59i : v59.toInt = (z21 + 1) := i_add ev59 ev21 (by decide) (by omega) (by omega)
              refine lv_iinc hx hb dX9_movedTo_125 hl (k := 5) rfl ev59.symm (by decide) rfl (fun ls hl => ?_)
              replace hl : lv_has ls 12 [(8, .int v59), (4, .int v58), (5, .int v57), (11, .int v52), (10, .int 1), (9, .int 0), (7, .int v22), (6, .int v23), (0, .ref h0), (1, .int p1), (2, .int p2), (3, .int p3)] := hl
              refine lv_goto (tgt := 15) hx hb dX9_movedTo_128 rfl ?_
              exact ih26 locs50 v59 ((z21 + 1)) v22 (z22) v23 (z23) v57 (v57.toInt) v58 (v58.toInt) ls (by omega) ev59i ev22 ev23 rfl rfl (by omega) (by omega) hS50 (lv_sub hl [0, 6, 7, 2, 1, 8, 9, 10, 11] rfl)
          · refine lv_istore hx hb dX9_movedTo_42 hl (by decide) rfl (fun ls hl => ?_)
            replace hl : lv_has ls 12 [(9, .int 1), (8, .int v21), (7, .int v22), (6, .int v23), (5, .int v24), (4, .int v25), (0, .ref h0), (1, .int p1), (2, .int p2), (3, .int p3)] := hl
            refine lv_aload_n hx hb dX9_movedTo_44 rfl (lv_at hl 6 rfl) ?_
            refine lv_iload hx hb dX9_movedTo_45 (lv_at hl 1 rfl) ?_
            refine lv_iload_n hx hb dX9_movedTo_47 rfl (lv_at hl 8 rfl) ?_
            refine lv_iconst (v := 1) hx hb dX9_movedTo_48 rfl ?_
            refine lv_iadd hx hb dX9_movedTo_49 (lv_topi (fun v60 ev60 => ?_))
            refine q_goIp (q_runV (As := [.int v21, .int v60]) (rest := []) E hC0 hS41 (m_X9_canBecome l X Γ H0 hC0 h0 g0 v21 (a1 := z21) ev21 v60 (a2 := v60.toInt) rfl (by omega) (by omega)) cw_X9_canBecome cl_RX9_165 g0 ⟨rfl, rfl⟩ rfl hl.1 rfl (Nat.zero_le _) (by decide) dX9_movedTo_50) hS41 (fun v61 locs61 hr61 hS61 => ?_)
            rcases hr61 with rfl | rfl
            · refine lv_istore hx hb dX9_movedTo_53 hl (by decide) rfl (fun ls hl => ?_)
              replace hl : lv_has ls 12 [(10, .int 0), (9, .int 1), (8, .int v21), (7, .int v22), (6, .int v23), (5, .int v24), (4, .int v25), (0, .ref h0), (1, .int p1), (2, .int p2), (3, .int p3)] := hl
              refine lv_iconst (v := 0) hx hb dX9_movedTo_55 rfl ?_
              refine lv_aload_n hx hb dX9_movedTo_56 rfl (lv_at hl 7 rfl) ?_
              refine lv_iload hx hb dX9_movedTo_57 (lv_at hl 2 rfl) ?_
              refine q_goIp (q_runV (As := [.int v21]) (rest := [.int 0]) E hC0 hS61 (m_X9_topOf l X Γ H0 hC0 h0 g0 v21 (a1 := z21) ev21) cw_X9_topOf cl_RX9_152 g0 ⟨rfl, rfl⟩ rfl hl.1 rfl (show _ ≤ _ from by simp [Value.category]) (by decide) dX9_movedTo_59) hS61 (fun v62 locs62 hr62 hS62 => ?_)
              refine lv_iload_n hx hb dX9_movedTo_62 rfl (lv_at hl 9 rfl) ?_
              refine lv_isub hx hb dX9_movedTo_63 (lv_topi (fun v63 ev63 => ?_))
              refine q_mmax E hl.1 w_893 mathw_max (a := 0) (b := v63.toInt) (show (0 : Int32).toInt = 0 from by decide) rfl (by decide) (Nat.zero_le _) dX9_movedTo_64 (fun v64 mv64a mv64b mv64c => ?_)
              refine lv_istore hx hb dX9_movedTo_67 hl (by decide) rfl (fun ls hl => ?_)
              replace hl : lv_has ls 12 [(11, .int v64), (10, .int 0), (9, .int 1), (8, .int v21), (7, .int v22), (6, .int v23), (5, .int v24), (4, .int v25), (0, .ref h0), (1, .int p1), (2, .int p2), (3, .int p3)] := hl
              refine lv_iload hx hb dX9_movedTo_69 (lv_at hl 7 rfl) ?_
              refine lv_iload hx hb dX9_movedTo_71 (lv_at hl 0 rfl) ?_
              refine lv_iadd hx hb dX9_movedTo_73 (lv_topi (fun v65 ev65 => ?_))
              refine lv_istore hx hb dX9_movedTo_74 hl (by decide) rfl (fun ls hl => ?_)
              replace hl : lv_has ls 12 [(4, .int v65), (11, .int v64), (10, .int 0), (9, .int 1), (8, .int v21), (7, .int v22), (6, .int v23), (5, .int v24), (0, .ref h0), (1, .int p1), (2, .int p2), (3, .int p3)] := hl
              refine lv_iload hx hb dX9_movedTo_76 (lv_at hl 3 rfl) ?_
              refine q_if_ne hx hb (a := 1) (by decide) (tgt := 88) dX9_movedTo_78 rfl (fun c66 => ?_) (fun c66 => absurd c66 (by omega))
              refine lv_iload hx hb dX9_movedTo_88 (lv_at hl 3 rfl) ?_
              refine q_if_ne hx hb (a := 1) (by decide) (tgt := 102) dX9_movedTo_90 rfl (fun c67 => ?_) (fun c67 => absurd c67 (by omega))
              refine lv_iload hx hb dX9_movedTo_102 (lv_at hl 2 rfl) ?_
              refine q_if_eq hx hb (a := 0) (by decide) (tgt := 125) dX9_movedTo_104 rfl (fun c68 => ?_) (fun c68 => absurd c68 (by omega))
              obtain ⟨v69, ev69⟩ : ∃ z, z = v21 + Int32.ofInt 1 := ⟨_, rfl⟩
              have ev69i : v69.toInt = (z21 + 1) := i_add ev69 ev21 (by decide) (by omega) (by omega)
              refine lv_iinc hx hb dX9_movedTo_125 hl (k := 4) rfl ev69.symm (by decide) rfl (fun ls hl => ?_)
              replace hl : lv_has ls 12 [(8, .int v69), (4, .int v65), (11, .int v64), (10, .int 0), (9, .int 1), (7, .int v22), (6, .int v23), (5, .int v24), (0, .ref h0), (1, .int p1), (2, .int p2), (3, .int p3)] := hl
              refine lv_goto (tgt := 15) hx hb dX9_movedTo_128 rfl ?_
              exact ih26 locs62 v69 ((z21 + 1)) v22 (z22) v23 (z23) v24 (z24) v65 (v65.toInt) ls (by omega) ev69i ev22 ev23 ev24 rfl (by omega) (by omega) hS62 (lv_sub hl [0, 5, 6, 7, 1, 8, 9, 10, 11] rfl)
            · refine lv_istore hx hb dX9_movedTo_53 hl (by decide) rfl (fun ls hl => ?_)
              replace hl : lv_has ls 12 [(10, .int 1), (9, .int 1), (8, .int v21), (7, .int v22), (6, .int v23), (5, .int v24), (4, .int v25), (0, .ref h0), (1, .int p1), (2, .int p2), (3, .int p3)] := hl
              refine lv_iconst (v := 0) hx hb dX9_movedTo_55 rfl ?_
              refine lv_aload_n hx hb dX9_movedTo_56 rfl (lv_at hl 7 rfl) ?_
              refine lv_iload hx hb dX9_movedTo_57 (lv_at hl 2 rfl) ?_
              refine q_goIp (q_runV (As := [.int v21]) (rest := [.int 0]) E hC0 hS61 (m_X9_topOf l X Γ H0 hC0 h0 g0 v21 (a1 := z21) ev21) cw_X9_topOf cl_RX9_152 g0 ⟨rfl, rfl⟩ rfl hl.1 rfl (show _ ≤ _ from by simp [Value.category]) (by decide) dX9_movedTo_59) hS61 (fun v70 locs70 hr70 hS70 => ?_)
              refine lv_iload_n hx hb dX9_movedTo_62 rfl (lv_at hl 9 rfl) ?_
              refine lv_isub hx hb dX9_movedTo_63 (lv_topi (fun v71 ev71 => ?_))
              refine q_mmax E hl.1 w_893 mathw_max (a := 0) (b := v71.toInt) (show (0 : Int32).toInt = 0 from by decide) rfl (by decide) (Nat.zero_le _) dX9_movedTo_64 (fun v72 mv72a mv72b mv72c => ?_)
              refine lv_istore hx hb dX9_movedTo_67 hl (by decide) rfl (fun ls hl => ?_)
              replace hl : lv_has ls 12 [(11, .int v72), (10, .int 1), (9, .int 1), (8, .int v21), (7, .int v22), (6, .int v23), (5, .int v24), (4, .int v25), (0, .ref h0), (1, .int p1), (2, .int p2), (3, .int p3)] := hl
              refine lv_iload hx hb dX9_movedTo_69 (lv_at hl 7 rfl) ?_
              refine lv_iload hx hb dX9_movedTo_71 (lv_at hl 0 rfl) ?_
              refine lv_iadd hx hb dX9_movedTo_73 (lv_topi (fun v73 ev73 => ?_))
              refine lv_istore hx hb dX9_movedTo_74 hl (by decide) rfl (fun ls hl => ?_)
              replace hl : lv_has ls 12 [(4, .int v73), (11, .int v72), (10, .int 1), (9, .int 1), (8, .int v21), (7, .int v22), (6, .int v23), (5, .int v24), (0, .ref h0), (1, .int p1), (2, .int p2), (3, .int p3)] := hl
              refine lv_iload hx hb dX9_movedTo_76 (lv_at hl 3 rfl) ?_
              refine q_if_ne hx hb (a := 1) (by decide) (tgt := 88) dX9_movedTo_78 rfl (fun c74 => ?_) (fun c74 => absurd c74 (by omega))
              refine lv_iload hx hb dX9_movedTo_88 (lv_at hl 3 rfl) ?_
              refine q_if_ne hx hb (a := 1) (by decide) (tgt := 102) dX9_movedTo_90 rfl (fun c75 => ?_) (fun c75 => absurd c75 (by omega))
              refine lv_iload hx hb dX9_movedTo_102 (lv_at hl 2 rfl) ?_
              refine q_if_eq hx hb (a := 1) (by decide) (tgt := 125) dX9_movedTo_104 rfl (fun c76 => absurd c76 (by omega)) (fun c76 => ?_)
              obtain ⟨v77, ev77⟩ : ∃ z, z = v23 + Int32.ofInt 1 := ⟨_, rfl⟩
              refine lv_iinc hx hb dX9_movedTo_107 hl (k := 6) rfl ev77.symm (by decide) rfl (fun ls hl => ?_)
              replace hl : lv_has ls 12 [(6, .int v77), (4, .int v73), (11, .int v72), (10, .int 1), (9, .int 1), (8, .int v21), (7, .int v22), (5, .int v24), (0, .ref h0), (1, .int p1), (2, .int p2), (3, .int p3)] := hl
              refine lv_iload hx hb dX9_movedTo_110 (lv_at hl 6 rfl) ?_
              refine lv_iload hx hb dX9_movedTo_112 (lv_at hl 2 rfl) ?_
              refine q_if_le hx hb (a := v72.toInt) rfl (tgt := 121) dX9_movedTo_114 rfl (fun c78 => ?_) (fun c78 => ?_)
              · refine lv_iconst (v := 0) hx hb dX9_movedTo_121 rfl ?_
                refine lv_iadd hx hb dX9_movedTo_122 (lv_topi (fun v79 ev79 => ?_))
                have c80 := i_rng v22; rw [show v22.toInt = z22 from ev22] at c80
                have ev79i : v79.toInt = (z22 + 0) := i_add ev79 ev22 (by decide) (by omega) (by omega)
                refine lv_istore hx hb dX9_movedTo_123 hl (by decide) rfl (fun ls hl => ?_)
                replace hl : lv_has ls 12 [(7, .int v79), (6, .int v77), (4, .int v73), (11, .int v72), (10, .int 1), (9, .int 1), (8, .int v21), (5, .int v24), (0, .ref h0), (1, .int p1), (2, .int p2), (3, .int p3)] := hl
                obtain ⟨v81, ev81⟩ : ∃ z, z = v21 + Int32.ofInt 1 := ⟨_, rfl⟩
                have ev81i : v81.toInt = (z21 + 1) := i_add ev81 ev21 (by decide) (by omega) (by omega)
                refine lv_iinc hx hb dX9_movedTo_125 hl (k := 6) rfl ev81.symm (by decide) rfl (fun ls hl => ?_)
                replace hl : lv_has ls 12 [(8, .int v81), (7, .int v79), (6, .int v77), (4, .int v73), (11, .int v72), (10, .int 1), (9, .int 1), (5, .int v24), (0, .ref h0), (1, .int p1), (2, .int p2), (3, .int p3)] := hl
                refine lv_goto (tgt := 15) hx hb dX9_movedTo_128 rfl ?_
                exact ih26 locs70 v81 ((z21 + 1)) v79 ((z22 + 0)) v77 (v77.toInt) v24 (z24) v73 (v73.toInt) ls (by omega) ev81i ev79i rfl ev24 rfl (by omega) (by omega) hS70 (lv_sub hl [0, 1, 2, 7, 3, 8, 9, 10, 11] rfl)
              · refine lv_iconst (v := 1) hx hb dX9_movedTo_117 rfl ?_
                refine lv_goto (tgt := 122) hx hb dX9_movedTo_118 rfl ?_
                refine lv_iadd hx hb dX9_movedTo_122 (lv_topi (fun v82 ev82 => ?_))
                refine lv_istore hx hb dX9_movedTo_123 hl (by decide) rfl (fun ls hl => ?_)
                replace hl : lv_has ls 12 [(7, .int v82), (6, .int v77), (4, .int v73), (11, .int v72), (10, .int 1), (9, .int 1), (8, .int v21), (5, .int v24), (0, .ref h0), (1, .int p1), (2, .int p2), (3, .int p3)] := hl
                obtain ⟨v83, ev83⟩ : ∃ z, z = v21 + Int32.ofInt 1 := ⟨_, rfl⟩
                have ev83i : v83.toInt = (z21 + 1) := i_add ev83 ev21 (by decide) (by omega) (by omega)
                refine lv_iinc hx hb dX9_movedTo_125 hl (k := 6) rfl ev83.symm (by decide) rfl (fun ls hl => ?_)
                replace hl : lv_has ls 12 [(8, .int v83), (7, .int v82), (6, .int v77), (4, .int v73), (11, .int v72), (10, .int 1), (9, .int 1), (5, .int v24), (0, .ref h0), (1, .int p1), (2, .int p2), (3, .int p3)] := hl
                refine lv_goto (tgt := 15) hx hb dX9_movedTo_128 rfl ?_
                exact ih26 locs70 v83 ((z21 + 1)) v82 (v82.toInt) v77 (v77.toInt) v24 (z24) v73 (v73.toInt) ls (by omega) ev83i rfl rfl ev24 rfl (by omega) (by omega) hS70 (lv_sub hl [0, 1, 2, 7, 3, 8, 9, 10, 11] rfl)
  exact L15 _ [] 0 0 0 0 0 0 0 0 0 0 ls (Nat.lt_succ_self _) (by decide) (by decide) (by decide) (by decide) (by decide) (by omega) (by omega) hS0 hl
set_option maxRecDepth 100000 in
set_option maxHeartbeats 4000000 in
theorem m_X9_movedToLevel (l : Launch) (X : xW) (Γ : Nat → Option Nat) (H0 : Heap) (hC0 : Conf X Γ H0) (h0 : Nat) (g0 : Γ h0 = some 5) (p1 : Int32) {a1 : Int} (e1 : p1.toInt = a1) : Ctr l X Γ yX9_movedToLevel cX9_movedToLevel 5 (some .int) 2 [.ref h0, .int p1] H0 (QI X Γ (fun v H1 => H1 = H0 ∧ (True))) := by
  refine q_enterI (own := "SnowForts$Yard") (by decide) rfl (Nat.le_of_ble_eq_true rfl) ?_
  intro p e s m args below meth c ls Qz E hl ret hS0
  have hx := E.1; have hb := E.2.1
  have hl : lv_has ls 5 [(0, .ref h0), (1, .int p1)] := hl
  refine lv_aload_n hx hb dX9_movedToLevel_0 rfl (lv_at hl 0 rfl) ?_
  refine q_getI E hC0 g0 fa_RX9_9 dX9_movedToLevel_1 (fun v21 ev21 _ _ => ?_)
  refine lv_iconst (v := 2) hx hb dX9_movedToLevel_4 rfl ?_
  refine lv_idiv hx hb dX9_movedToLevel_5 (by decide) (lv_topi (fun v22 ev22 => ?_))
  refine lv_aload_n hx hb dX9_movedToLevel_6 rfl (lv_at hl 0 rfl) ?_
  refine q_getI E hC0 g0 fa_RX9_15 dX9_movedToLevel_7 (fun v23 ev23 _ _ => ?_)
  refine lv_imul hx hb dX9_movedToLevel_10 (lv_topi (fun v24 ev24 => ?_))
  refine lv_istore_n hx hb dX9_movedToLevel_11 rfl hl (by decide) rfl (fun ls hl => ?_)
  replace hl : lv_has ls 5 [(2, .int v24), (0, .ref h0), (1, .int p1)] := hl
  refine lv_iload_n hx hb dX9_movedToLevel_12 rfl (lv_at hl 0 rfl) ?_
  refine lv_iconst (v := 1) hx hb dX9_movedToLevel_13 rfl ?_
  refine q_icmp_ge hx hb (a := v24.toInt) (b := 1) rfl (by decide) (tgt := 19) dX9_movedToLevel_14 rfl (fun c25 => ?_) (fun c25 => ?_)
  · refine lv_iconst (v := 0) hx hb dX9_movedToLevel_19 rfl ?_
    refine lv_istore_n hx hb dX9_movedToLevel_20 rfl hl (by decide) rfl (fun ls hl => ?_)
    replace hl : lv_has ls 5 [(3, .int 0), (2, .int v24), (0, .ref h0), (1, .int p1)] := hl
    refine lv_iconst (v := 0) hx hb dX9_movedToLevel_21 rfl ?_
    refine lv_istore hx hb dX9_movedToLevel_22 hl (by decide) rfl (fun ls hl => ?_)
    replace hl : lv_has ls 5 [(4, .int 0), (3, .int 0), (2, .int v24), (0, .ref h0), (1, .int p1)] := hl
    have L24 : ∀ (n28 : Nat) (locs28 : List Loc) (v26 : Int32) (z26 : Int) (v27 : Int32) (z27 : Int) (ls : Array Slot), (36 - z26).toNat < n28 → v26.toInt = z26 → v27.toInt = z27 → z26 ≤ 36 → 0 ≤ z26 → va_S (AΓ Γ) H0 H0 locs28 → lv_has ls 5 [(4, .int v26), (3, .int v27), (2, .int v24), (0, .ref h0), (1, .int p1)] → W p l e (rmL 2) s m args below meth c H0 locs28 0 0 Qz (F0 m 24 ls []) := by
      intro n28
      induction n28 with
      | zero => intro locs28 v26 z26 v27 z27 ls hm28 ev26 ev27 iv28_0 iv28_1 hS28 hl; exact absurd hm28 (Nat.not_lt_zero _)
      | succ n28 ih28 =>
        intro locs28 v26 z26 v27 z27 ls hm28 ev26 ev27 iv28_0 iv28_1 hS28 hl
        refine lv_iload hx hb dX9_movedToLevel_24 (lv_at hl 0 rfl) ?_
        refine lv_bipush (v := 36) hx hb dX9_movedToLevel_26 rfl ?_
        refine q_icmp_ge hx hb (a := z26) (b := 36) ev26 (by decide) (tgt := 60) dX9_movedToLevel_28 rfl (fun c29 => ?_) (fun c29 => ?_)
        · refine lv_aload_n hx hb dX9_movedToLevel_60 rfl (lv_at hl 3 rfl) ?_
          refine lv_iload_n hx hb dX9_movedToLevel_61 rfl (lv_at hl 4 rfl) ?_
          refine lv_iload_n hx hb dX9_movedToLevel_62 rfl (lv_at hl 1 rfl) ?_
          refine lv_iload_n hx hb dX9_movedToLevel_63 rfl (lv_at hl 2 rfl) ?_
          refine lv_idiv hx hb dX9_movedToLevel_64 (i_nz rfl (by omega)) (lv_topi (fun v30 ev30 => ?_))
          refine lv_iload_n hx hb dX9_movedToLevel_65 rfl (lv_at hl 1 rfl) ?_
          refine lv_iload_n hx hb dX9_movedToLevel_66 rfl (lv_at hl 2 rfl) ?_
          refine lv_irem hx hb dX9_movedToLevel_67 (i_nz rfl (by omega)) (lv_topi (fun v31 ev31 => ?_))
          refine q_goIp (q_runV (As := [.int p1, .int v30, .int v31]) (rest := []) E hC0 hS28 (m_X9_movedTo l X Γ H0 hC0 h0 g0 p1 (a1 := a1) e1 v30 (a2 := v30.toInt) rfl v31 (a3 := v31.toInt) rfl) cw_X9_movedTo cl_RX9_162 g0 ⟨rfl, rfl⟩ rfl hl.1 rfl (Nat.zero_le _) (by decide) dX9_movedToLevel_68) hS28 (fun v32 locs32 hr32 hS32 => ?_)
          exact ret v32 H0 locs32 _ _ dX9_movedToLevel_71 ⟨rfl, trivial⟩ hC0 hS32
        · refine lv_iload_n hx hb dX9_movedToLevel_31 rfl (lv_at hl 1 rfl) ?_
          refine lv_aload_n hx hb dX9_movedToLevel_32 rfl (lv_at hl 3 rfl) ?_
          refine lv_iload_n hx hb dX9_movedToLevel_33 rfl (lv_at hl 4 rfl) ?_
          refine lv_iload hx hb dX9_movedToLevel_34 (lv_at hl 0 rfl) ?_
          refine q_goIp (q_runV (As := [.int p1, .int v26]) (rest := [.int v27]) E hC0 hS28 (m_X9_isIn l X Γ H0 hC0 h0 g0 p1 (a1 := a1) e1 v26 (a2 := z26) ev26) cw_X9_isIn cl_RX9_111 g0 ⟨rfl, rfl⟩ rfl hl.1 rfl (show _ ≤ _ from by simp [Value.category]) (by decide) dX9_movedToLevel_36) hS28 (fun v33 locs33 hr33 hS33 => ?_)
          rcases hr33 with rfl | rfl
          · refine q_if_eq hx hb (a := 0) (by decide) (tgt := 51) dX9_movedToLevel_39 rfl (fun c34 => ?_) (fun c34 => absurd c34 (by omega))
            refine lv_iconst (v := 0) hx hb dX9_movedToLevel_51 rfl ?_
            refine lv_iadd hx hb dX9_movedToLevel_52 (lv_topi (fun v35 ev35 => ?_))
            have c36 := i_rng v27; rw [show v27.toInt = z27 from ev27] at c36
            have ev35i : v35.toInt = (z27 + 0) := i_add ev35 ev27 (by decide) (by omega) (by omega)
            refine lv_istore_n hx hb dX9_movedToLevel_53 rfl hl (by decide) rfl (fun ls hl => ?_)
            replace hl : lv_has ls 5 [(3, .int v35), (4, .int v26), (2, .int v24), (0, .ref h0), (1, .int p1)] := hl
            obtain ⟨v37, ev37⟩ : ∃ z, z = v26 + Int32.ofInt 1 := ⟨_, rfl⟩
            have ev37i : v37.toInt = (z26 + 1) := i_add ev37 ev26 (by decide) (by omega) (by omega)
            refine lv_iinc hx hb dX9_movedToLevel_54 hl (k := 1) rfl ev37.symm (by decide) rfl (fun ls hl => ?_)
            replace hl : lv_has ls 5 [(4, .int v37), (3, .int v35), (2, .int v24), (0, .ref h0), (1, .int p1)] := hl
            refine lv_goto (tgt := 24) hx hb dX9_movedToLevel_57 rfl ?_
            exact ih28 locs33 v37 ((z26 + 1)) v35 ((z27 + 0)) ls (by omega) ev37i ev35i (by omega) (by omega) hS33 hl
          · refine q_if_eq hx hb (a := 1) (by decide) (tgt := 51) dX9_movedToLevel_39 rfl (fun c38 => absurd c38 (by omega)) (fun c38 => ?_)
            refine lv_aload_n hx hb dX9_movedToLevel_42 rfl (lv_at hl 3 rfl) ?_
            refine lv_iload hx hb dX9_movedToLevel_43 (lv_at hl 0 rfl) ?_
            refine q_goIp (q_runV (As := [.int v26]) (rest := [.int v27]) E hC0 hS33 (m_X9_topOf l X Γ H0 hC0 h0 g0 v26 (a1 := z26) ev26) cw_X9_topOf cl_RX9_152 g0 ⟨rfl, rfl⟩ rfl hl.1 rfl (show _ ≤ _ from by simp [Value.category]) (by decide) dX9_movedToLevel_45) hS33 (fun v39 locs39 hr39 hS39 => ?_)
            refine lv_goto (tgt := 52) hx hb dX9_movedToLevel_48 rfl ?_
            refine lv_iadd hx hb dX9_movedToLevel_52 (lv_topi (fun v40 ev40 => ?_))
            refine lv_istore_n hx hb dX9_movedToLevel_53 rfl hl (by decide) rfl (fun ls hl => ?_)
            replace hl : lv_has ls 5 [(3, .int v40), (4, .int v26), (2, .int v24), (0, .ref h0), (1, .int p1)] := hl
            obtain ⟨v41, ev41⟩ : ∃ z, z = v26 + Int32.ofInt 1 := ⟨_, rfl⟩
            have ev41i : v41.toInt = (z26 + 1) := i_add ev41 ev26 (by decide) (by omega) (by omega)
            refine lv_iinc hx hb dX9_movedToLevel_54 hl (k := 1) rfl ev41.symm (by decide) rfl (fun ls hl => ?_)
            replace hl : lv_has ls 5 [(4, .int v41), (3, .int v40), (2, .int v24), (0, .ref h0), (1, .int p1)] := hl
            refine lv_goto (tgt := 24) hx hb dX9_movedToLevel_57 rfl ?_
            exact ih28 locs39 v41 ((z26 + 1)) v40 (v40.toInt) ls (by omega) ev41i rfl (by omega) (by omega) hS39 hl
    exact L24 _ [] 0 0 0 0 ls (Nat.lt_succ_self _) (by decide) (by decide) (by omega) (by omega) hS0 hl
  · refine lv_iconst (v := (-1)) hx hb dX9_movedToLevel_17 rfl ?_
    exact ret (-1) H0 [] _ _ dX9_movedToLevel_18 ⟨rfl, trivial⟩ hC0 hS0
set_option maxRecDepth 100000 in
set_option maxHeartbeats 4000000 in
theorem m_X11_level (l : Launch) (X : xW) (Γ : Nat → Option Nat) (H0 : Heap) (hC0 : Conf X Γ H0) (h0 : Nat) (g0 : Γ h0 = some 0) (p1 : Int32) {a1 : Int} (e1 : p1.toInt = a1) : Ctr l X Γ yX11_level cX11_level 3 (some .int) 3 [.ref h0, .int p1] H0 (QI X Γ (fun v H1 => Kp X Γ [0, 2, 3, 4, 5, 18, 21, 23, 25, 27] H0 H1 ∧ (True))) := by
  refine q_enterI (own := "SnowForts") (by decide) rfl (Nat.le_of_ble_eq_true rfl) ?_
  intro p e s m args below meth c ls Qz E hl ret hS0
  have hx := E.1; have hb := E.2.1
  have hKp0 : Kp X Γ [0, 2, 3, 4, 5, 18, 21, 23, 25, 27] H0 H0 := Kp.rf
  have hl : lv_has ls 3 [(0, .ref h0), (1, .int p1)] := hl
  refine lv_iload_n hx hb dX11_level_0 rfl (lv_at hl 1 rfl) ?_
  refine q_goIp (q_runS (As := [.int p1]) (rest := []) E hS0 (m_X11_isHalf l X Γ H0 hC0 p1 (a0 := a1) e1) cw_X11_isHalf cl_RX11_263 rfl hl.1 rfl (Nat.zero_le _) (by decide) dX11_level_1) hS0 (fun v21 locs21 hr21 hS21 => ?_)
  rcases hr21 with ⟨rfl, f21a0, f21a1⟩ | ⟨rfl, -⟩
  · refine q_if_ne hx hb (a := 1) (by decide) (tgt := 13) dX11_level_4 rfl (fun c22 => ?_) (fun c22 => absurd c22 (by omega))
    refine lv_aload_n hx hb dX11_level_13 rfl (lv_at hl 0 rfl) ?_
    refine q_getR E hC0 g0 fa_RX11_42 dX11_level_14 (fun q23 eq23 gq23 => ?_)
    refine lv_iload_n hx hb dX11_level_17 rfl (lv_at hl 1 rfl) ?_
    refine q_goIp (q_runV (As := [.int p1]) (rest := []) E hC0 hS21 (m_X9_movedToLevel l X Γ H0 hC0 q23 gq23 p1 (a1 := a1) e1) cw_X9_movedToLevel cl_RX11_275 gq23 ⟨rfl, rfl⟩ rfl hl.1 rfl (Nat.zero_le _) (by decide) dX11_level_18) hS21 (fun v24 locs24 hr24 hS24 => ?_)
    refine lv_istore_n hx hb dX11_level_21 rfl hl (by decide) rfl (fun ls hl => ?_)
    replace hl : lv_has ls 3 [(2, .int v24), (0, .ref h0), (1, .int p1)] := hl
    refine lv_iload_n hx hb dX11_level_22 rfl (lv_at hl 0 rfl) ?_
    refine lv_iconst (v := (-1)) hx hb dX11_level_23 rfl ?_
    refine q_icmp_ne hx hb (a := v24.toInt) (b := (-1)) rfl (by decide) (tgt := 36) dX11_level_24 rfl (fun c25 => ?_) (fun c25 => ?_)
    · refine lv_aload_n hx hb dX11_level_36 rfl (lv_at hl 1 rfl) ?_
      refine lv_iload_n hx hb dX11_level_37 rfl (lv_at hl 0 rfl) ?_
      refine q_goI (q_runV (As := [.int v24]) (rest := []) E hC0 hS24 (m_X11_answer l X Γ H0 hC0 h0 g0 v24 (a1 := v24.toInt) rfl) cw_X11_answer cl_RX11_191 g0 ⟨rfl, rfl⟩ rfl hl.1 rfl (Nat.zero_le _) (by decide) dX11_level_38) hS24 (fun v26 H26 locs26 hr26 hC26 hS26 => ?_)
      obtain ⟨hp26, hr26⟩ := hr26
      have hKp26 := hKp0.tr (hp26.mono rfl)
      have f26_0 := hr26
      exact ret v26 H26 locs26 _ _ dX11_level_41 ⟨hKp26, trivial⟩ hC26 hS26
    · refine lv_aload_n hx hb dX11_level_27 rfl (lv_at hl 1 rfl) ?_
      refine lv_bipush (v := 9) hx hb dX11_level_28 rfl ?_
      refine q_goI (q_runV (As := [.int 9]) (rest := []) E hC0 hS24 (m_X11_refuse l X Γ H0 hC0 h0 g0 9 (a1 := 9) (by decide)) cw_X11_refuse cl_RX11_146 g0 ⟨rfl, rfl⟩ rfl hl.1 rfl (Nat.zero_le _) (by decide) dX11_level_30) hS24 (fun v27 H27 locs27 hr27 hC27 hS27 => ?_)
      obtain ⟨hp27, hr27⟩ := hr27
      have hKp27 := hKp0.tr (hp27.mono rfl)
      have f27_0 := hr27
      refine lv_goto (tgt := 41) hx hb dX11_level_33 rfl ?_
      exact ret v27 H27 locs27 _ _ dX11_level_41 ⟨hKp27, trivial⟩ hC27 hS27
  · refine q_if_ne hx hb (a := 0) (by decide) (tgt := 13) dX11_level_4 rfl (fun c28 => absurd c28 (by omega)) (fun c28 => ?_)
    refine lv_aload_n hx hb dX11_level_7 rfl (lv_at hl 0 rfl) ?_
    refine lv_iconst (v := 5) hx hb dX11_level_8 rfl ?_
    refine q_goI (q_runV (As := [.int 5]) (rest := []) E hC0 hS21 (m_X11_refuse l X Γ H0 hC0 h0 g0 5 (a1 := 5) (by decide)) cw_X11_refuse cl_RX11_146 g0 ⟨rfl, rfl⟩ rfl hl.1 rfl (Nat.zero_le _) (by decide) dX11_level_9) hS21 (fun v29 H29 locs29 hr29 hC29 hS29 => ?_)
    obtain ⟨hp29, hr29⟩ := hr29
    have hKp29 := hKp0.tr (hp29.mono rfl)
    have f29_0 := hr29
    exact ret v29 H29 locs29 _ _ dX11_level_12 ⟨hKp29, trivial⟩ hC29 hS29
set_option maxRecDepth 100000 in
set_option maxHeartbeats 4000000 in
theorem m_X9_unlikeCouples (l : Launch) (X : xW) (Γ : Nat → Option Nat) (H0 : Heap) (hC0 : Conf X Γ H0) (h0 : Nat) (g0 : Γ h0 = some 5) : Ctr l X Γ yX9_unlikeCouples cX9_unlikeCouples 3 (some .int) 1 [.ref h0] H0 (QI X Γ (fun v H1 => H1 = H0 ∧ (True))) := by
  refine q_enterI (own := "SnowForts$Yard") (by decide) rfl (Nat.le_of_ble_eq_true rfl) ?_
  intro p e s m args below meth c ls Qz E hl ret hS0
  have hx := E.1; have hb := E.2.1
  have hl : lv_has ls 3 [(0, .ref h0)] := hl
  refine lv_iconst (v := 0) hx hb dX9_unlikeCouples_0 rfl ?_
  refine lv_istore_n hx hb dX9_unlikeCouples_1 rfl hl (by decide) rfl (fun ls hl => ?_)
  replace hl : lv_has ls 3 [(1, .int 0), (0, .ref h0)] := hl
  refine lv_iconst (v := 0) hx hb dX9_unlikeCouples_2 rfl ?_
  refine lv_istore_n hx hb dX9_unlikeCouples_3 rfl hl (by decide) rfl (fun ls hl => ?_)
  replace hl : lv_has ls 3 [(2, .int 0), (1, .int 0), (0, .ref h0)] := hl
  have L4 : ∀ (n23 : Nat) (locs23 : List Loc) (v21 : Int32) (z21 : Int) (v22 : Int32) (z22 : Int) (ls : Array Slot), (36 - z21).toNat < n23 → v21.toInt = z21 → v22.toInt = z22 → z21 ≤ 36 → 0 ≤ z21 → va_S (AΓ Γ) H0 H0 locs23 → lv_has ls 3 [(2, .int v21), (1, .int v22), (0, .ref h0)] → W p l e (rmL 1) s m args below meth c H0 locs23 0 0 Qz (F0 m 4 ls []) := by
    intro n23
    induction n23 with
    | zero => intro locs23 v21 z21 v22 z22 ls hm23 ev21 ev22 iv23_0 iv23_1 hS23 hl; exact absurd hm23 (Nat.not_lt_zero _)
    | succ n23 ih23 =>
      intro locs23 v21 z21 v22 z22 ls hm23 ev21 ev22 iv23_0 iv23_1 hS23 hl
      refine lv_iload_n hx hb dX9_unlikeCouples_4 rfl (lv_at hl 0 rfl) ?_
      refine lv_bipush (v := 36) hx hb dX9_unlikeCouples_5 rfl ?_
      refine q_icmp_ge hx hb (a := z21) (b := 36) ev21 (by decide) (tgt := 45) dX9_unlikeCouples_7 rfl (fun c24 => ?_) (fun c24 => ?_)
      · refine lv_iload_n hx hb dX9_unlikeCouples_45 rfl (lv_at hl 1 rfl) ?_
        exact ret v22 H0 locs23 _ _ dX9_unlikeCouples_46 ⟨rfl, trivial⟩ hC0 hS23
      · refine lv_aload_n hx hb dX9_unlikeCouples_10 rfl (lv_at hl 2 rfl) ?_
        refine lv_iconst (v := 0) hx hb dX9_unlikeCouples_11 rfl ?_
        refine lv_iload_n hx hb dX9_unlikeCouples_12 rfl (lv_at hl 0 rfl) ?_
        refine q_goIp (q_runV (As := [.int 0, .int v21]) (rest := []) E hC0 hS23 (m_X9_isIn l X Γ H0 hC0 h0 g0 0 (a1 := 0) (by decide) v21 (a2 := z21) ev21) cw_X9_isIn cl_RX9_111 g0 ⟨rfl, rfl⟩ rfl hl.1 rfl (Nat.zero_le _) (by decide) dX9_unlikeCouples_13) hS23 (fun v25 locs25 hr25 hS25 => ?_)
        rcases hr25 with rfl | rfl
        · refine q_if_eq hx hb (a := 0) (by decide) (tgt := 39) dX9_unlikeCouples_16 rfl (fun c26 => ?_) (fun c26 => absurd c26 (by omega))
          obtain ⟨v27, ev27⟩ : ∃ z, z = v21 + Int32.ofInt 1 := ⟨_, rfl⟩
          have ev27i : v27.toInt = (z21 + 1) := i_add ev27 ev21 (by decide) (by omega) (by omega)
          refine lv_iinc hx hb dX9_unlikeCouples_39 hl (k := 0) rfl ev27.symm (by decide) rfl (fun ls hl => ?_)
          replace hl : lv_has ls 3 [(2, .int v27), (1, .int v22), (0, .ref h0)] := hl
          refine lv_goto (tgt := 4) hx hb dX9_unlikeCouples_42 rfl ?_
          exact ih23 locs25 v27 ((z21 + 1)) v22 (z22) ls (by omega) ev27i ev22 (by omega) (by omega) hS25 hl
        · refine q_if_eq hx hb (a := 1) (by decide) (tgt := 39) dX9_unlikeCouples_16 rfl (fun c28 => absurd c28 (by omega)) (fun c28 => ?_)
          refine lv_aload_n hx hb dX9_unlikeCouples_19 rfl (lv_at hl 2 rfl) ?_
          refine lv_iload_n hx hb dX9_unlikeCouples_20 rfl (lv_at hl 0 rfl) ?_
          refine q_goIp (q_runV (As := [.int v21]) (rest := []) E hC0 hS25 (m_X9_topOf l X Γ H0 hC0 h0 g0 v21 (a1 := z21) ev21) cw_X9_topOf cl_RX9_152 g0 ⟨rfl, rfl⟩ rfl hl.1 rfl (Nat.zero_le _) (by decide) dX9_unlikeCouples_21) hS25 (fun v29 locs29 hr29 hS29 => ?_)
          refine lv_aload_n hx hb dX9_unlikeCouples_24 rfl (lv_at hl 2 rfl) ?_
          refine lv_aload_n hx hb dX9_unlikeCouples_25 rfl (lv_at hl 2 rfl) ?_
          refine lv_iload_n hx hb dX9_unlikeCouples_26 rfl (lv_at hl 0 rfl) ?_
          refine q_goIp (q_runV (As := [.int v21]) (rest := [.ref h0, .int v29]) E hC0 hS29 (m_X9_across l X Γ H0 hC0 h0 g0 v21 (a1 := z21) ev21) cw_X9_across cl_RX9_146 g0 ⟨rfl, rfl⟩ rfl hl.1 rfl (show _ ≤ _ from by simp [Value.category]) (by decide) dX9_unlikeCouples_27) hS29 (fun v30 locs30 hr30 hS30 => ?_)
          obtain ⟨f30_0, f30_1⟩ := hr30
          refine q_goIp (q_runV (As := [.int v30]) (rest := [.int v29]) E hC0 hS30 (m_X9_topOf l X Γ H0 hC0 h0 g0 v30 (a1 := v30.toInt) rfl) cw_X9_topOf cl_RX9_152 g0 ⟨rfl, rfl⟩ rfl hl.1 rfl (show _ ≤ _ from by simp [Value.category]) (by decide) dX9_unlikeCouples_30) hS30 (fun v31 locs31 hr31 hS31 => ?_)
          have c32 := i_rng v29; rw [show v29.toInt = v29.toInt from rfl] at c32
          have c33 := i_rng v31; rw [show v31.toInt = v31.toInt from rfl] at c33
          refine q_icmp_eq hx hb (a := v29.toInt) (b := v31.toInt) rfl rfl (tgt := 39) dX9_unlikeCouples_33 rfl (fun c34 => ?_) (fun c34 => ?_)
          · obtain ⟨v35, ev35⟩ : ∃ z, z = v21 + Int32.ofInt 1 := ⟨_, rfl⟩
            have ev35i : v35.toInt = (z21 + 1) := i_add ev35 ev21 (by decide) (by omega) (by omega)
            refine lv_iinc hx hb dX9_unlikeCouples_39 hl (k := 0) rfl ev35.symm (by decide) rfl (fun ls hl => ?_)
            replace hl : lv_has ls 3 [(2, .int v35), (1, .int v22), (0, .ref h0)] := hl
            refine lv_goto (tgt := 4) hx hb dX9_unlikeCouples_42 rfl ?_
            exact ih23 locs31 v35 ((z21 + 1)) v22 (z22) ls (by omega) ev35i ev22 (by omega) (by omega) hS31 hl
          · obtain ⟨v36, ev36⟩ : ∃ z, z = v22 + Int32.ofInt 1 := ⟨_, rfl⟩
            refine lv_iinc hx hb dX9_unlikeCouples_36 hl (k := 1) rfl ev36.symm (by decide) rfl (fun ls hl => ?_)
            replace hl : lv_has ls 3 [(1, .int v36), (2, .int v21), (0, .ref h0)] := hl
            obtain ⟨v37, ev37⟩ : ∃ z, z = v21 + Int32.ofInt 1 := ⟨_, rfl⟩
            have ev37i : v37.toInt = (z21 + 1) := i_add ev37 ev21 (by decide) (by omega) (by omega)
            refine lv_iinc hx hb dX9_unlikeCouples_39 hl (k := 1) rfl ev37.symm (by decide) rfl (fun ls hl => ?_)
            replace hl : lv_has ls 3 [(2, .int v37), (1, .int v36), (0, .ref h0)] := hl
            refine lv_goto (tgt := 4) hx hb dX9_unlikeCouples_42 rfl ?_
            exact ih23 locs31 v37 ((z21 + 1)) v36 (v36.toInt) ls (by omega) ev37i rfl (by omega) (by omega) hS31 hl
  exact L4 _ [] 0 0 0 0 ls (Nat.lt_succ_self _) (by decide) (by decide) (by omega) (by omega) hS0 hl
set_option maxRecDepth 100000 in
set_option maxHeartbeats 4000000 in
theorem m_X11_unlike (l : Launch) (X : xW) (Γ : Nat → Option Nat) (H0 : Heap) (hC0 : Conf X Γ H0) (h0 : Nat) (g0 : Γ h0 = some 0) : Ctr l X Γ yX11_unlike cX11_unlike 1 (some .int) 2 [.ref h0] H0 (QI X Γ (fun v H1 => Kp X Γ [0, 2, 3, 4, 5, 18, 21, 23, 25, 27] H0 H1 ∧ (True))) := by
  refine q_enterI (own := "SnowForts") (by decide) rfl (Nat.le_of_ble_eq_true rfl) ?_
  intro p e s m args below meth c ls Qz E hl ret hS0
  have hx := E.1; have hb := E.2.1
  have hKp0 : Kp X Γ [0, 2, 3, 4, 5, 18, 21, 23, 25, 27] H0 H0 := Kp.rf
  have hl : lv_has ls 1 [(0, .ref h0)] := hl
  refine lv_aload_n hx hb dX11_unlike_0 rfl (lv_at hl 0 rfl) ?_
  refine lv_aload_n hx hb dX11_unlike_1 rfl (lv_at hl 0 rfl) ?_
  refine q_getR E hC0 g0 fa_RX11_42 dX11_unlike_2 (fun q21 eq21 gq21 => ?_)
  refine q_goIp (q_runV (As := []) (rest := [.ref h0]) E hC0 hS0 (m_X9_unlikeCouples l X Γ H0 hC0 q21 gq21) cw_X9_unlikeCouples cl_RX11_278 gq21 ⟨rfl, rfl⟩ rfl hl.1 rfl (show _ ≤ _ from by simp [Value.category]) (by decide) dX11_unlike_5) hS0 (fun v22 locs22 hr22 hS22 => ?_)
  refine q_goI (q_runV (As := [.int v22]) (rest := []) E hC0 hS22 (m_X11_answer l X Γ H0 hC0 h0 g0 v22 (a1 := v22.toInt) rfl) cw_X11_answer cl_RX11_191 g0 ⟨rfl, rfl⟩ rfl hl.1 rfl (Nat.zero_le _) (by decide) dX11_unlike_8) hS22 (fun v23 H23 locs23 hr23 hC23 hS23 => ?_)
  obtain ⟨hp23, hr23⟩ := hr23
  have hKp23 := hKp0.tr (hp23.mono rfl)
  have f23_0 := hr23
  exact ret v23 H23 locs23 _ _ dX11_unlike_11 ⟨hKp23, trivial⟩ hC23 hS23
set_option maxRecDepth 100000 in
set_option maxHeartbeats 4000000 in
theorem m_X9_lastingWall (l : Launch) (X : xW) (Γ : Nat → Option Nat) (H0 : Heap) (hC0 : Conf X Γ H0) (h0 : Nat) (g0 : Γ h0 = some 5) (p1 : Int32) {a1 : Int} (e1 : p1.toInt = a1) (p2 : Int32) {a2 : Int} (e2 : p2.toInt = a2) (p3 : Int32) {a3 : Int} (e3 : p3.toInt = a3) (r0 : 0 ≤ a1) (r1 : a1 ≤ 35) : Ctr l X Γ yX9_lastingWall cX9_lastingWall 9 (some .int) 1 [.ref h0, .int p1, .int p2, .int p3] H0 (QI X Γ (fun v H1 => H1 = H0 ∧ (True))) := by
  refine q_enterI (own := "SnowForts$Yard") (by decide) rfl (Nat.le_of_ble_eq_true rfl) ?_
  intro p e s m args below meth c ls Qz E hl ret hS0
  have hx := E.1; have hb := E.2.1
  have hl : lv_has ls 9 [(0, .ref h0), (1, .int p1), (2, .int p2), (3, .int p3)] := hl
  refine lv_aload_n hx hb dX9_lastingWall_0 rfl (lv_at hl 0 rfl) ?_
  refine q_getR E hC0 g0 fa_RX9_34 dX9_lastingWall_1 (fun q21 eq21 gq21 => ?_)
  refine lv_iload_n hx hb dX9_lastingWall_4 rfl (lv_at hl 1 rfl) ?_
  refine q_iald E hC0 gq21 rfl rfl (fun _ h => h) (i_in (a := a1) e1 (by omega) (by omega)) dX9_lastingWall_5 (fun v22 ev22 _ _ => ?_)
  refine lv_istore hx hb dX9_lastingWall_6 hl (by decide) rfl (fun ls hl => ?_)
  replace hl : lv_has ls 9 [(4, .int v22), (0, .ref h0), (1, .int p1), (2, .int p2), (3, .int p3)] := hl
  refine lv_aload_n hx hb dX9_lastingWall_8 rfl (lv_at hl 1 rfl) ?_
  refine q_getR E hC0 g0 fa_RX9_37 dX9_lastingWall_9 (fun q23 eq23 gq23 => ?_)
  refine lv_iload_n hx hb dX9_lastingWall_12 rfl (lv_at hl 2 rfl) ?_
  refine q_iald E hC0 gq23 rfl rfl (fun _ h => h) (i_in (a := a1) e1 (by omega) (by omega)) dX9_lastingWall_13 (fun v24 ev24 _ _ => ?_)
  refine lv_istore hx hb dX9_lastingWall_14 hl (by decide) rfl (fun ls hl => ?_)
  replace hl : lv_has ls 9 [(5, .int v24), (4, .int v22), (0, .ref h0), (1, .int p1), (2, .int p2), (3, .int p3)] := hl
  refine lv_iconst (v := 0) hx hb dX9_lastingWall_16 rfl ?_
  refine lv_istore hx hb dX9_lastingWall_17 hl (by decide) rfl (fun ls hl => ?_)
  replace hl : lv_has ls 9 [(6, .int 0), (5, .int v24), (4, .int v22), (0, .ref h0), (1, .int p1), (2, .int p2), (3, .int p3)] := hl
  have L19 : ∀ (n28 : Nat) (locs28 : List Loc) (v25 : Int32) (z25 : Int) (v26 : Int32) (z26 : Int) (v27 : Int32) (z27 : Int) (ls : Array Slot), (a2 - z25).toNat < n28 → v25.toInt = z25 → v26.toInt = z26 → v27.toInt = z27 → 0 ≤ z25 → va_S (AΓ Γ) H0 H0 locs28 → lv_has ls 9 [(6, .int v25), (5, .int v26), (4, .int v27), (0, .ref h0), (1, .int p1), (2, .int p2), (3, .int p3)] → W p l e (rmL 1) s m args below meth c H0 locs28 0 0 Qz (F0 m 19 ls []) := by
    intro n28
    induction n28 with
    | zero => intro locs28 v25 z25 v26 z26 v27 z27 ls hm28 ev25 ev26 ev27 iv28_0 hS28 hl; exact absurd hm28 (Nat.not_lt_zero _)
    | succ n28 ih28 =>
      intro locs28 v25 z25 v26 z26 v27 z27 ls hm28 ev25 ev26 ev27 iv28_0 hS28 hl
      refine lv_iload hx hb dX9_lastingWall_19 (lv_at hl 0 rfl) ?_
      refine lv_iload_n hx hb dX9_lastingWall_21 rfl (lv_at hl 5 rfl) ?_
      have c29 := i_rng p2; rw [show p2.toInt = a2 from e2] at c29
      refine q_icmp_ge hx hb (a := z25) (b := a2) ev25 e2 (tgt := 91) dX9_lastingWall_22 rfl (fun c30 => ?_) (fun c30 => ?_)
      · refine lv_iload hx hb dX9_lastingWall_91 (lv_at hl 1 rfl) ?_
        exact ret v26 H0 locs28 _ _ dX9_lastingWall_93 ⟨rfl, trivial⟩ hC0 hS28
      · refine lv_iload_n hx hb dX9_lastingWall_25 rfl (lv_at hl 6 rfl) ?_
        refine lv_iload hx hb dX9_lastingWall_26 (lv_at hl 2 rfl) ?_
        refine q_mmin E hl.1 w_908 mathw_min (a := a3) (b := z27) e3 ev27 (by decide) (Nat.zero_le _) dX9_lastingWall_28 (fun v31 mv31a mv31b mv31c => ?_)
        refine lv_istore hx hb dX9_lastingWall_31 hl (by decide) rfl (fun ls hl => ?_)
        replace hl : lv_has ls 9 [(7, .int v31), (6, .int v25), (5, .int v26), (4, .int v27), (0, .ref h0), (1, .int p1), (2, .int p2), (3, .int p3)] := hl
        refine lv_iload hx hb dX9_lastingWall_33 (lv_at hl 1 rfl) ?_
        refine q_if_ne hx hb (a := z25) ev25 (tgt := 52) dX9_lastingWall_35 rfl (fun c32 => ?_) (fun c32 => ?_)
        · refine lv_iconst (v := 0) hx hb dX9_lastingWall_52 rfl ?_
          refine lv_istore hx hb dX9_lastingWall_53 hl (by decide) rfl (fun ls hl => ?_)
          replace hl : lv_has ls 9 [(8, .int 0), (7, .int v31), (6, .int v25), (5, .int v26), (4, .int v27), (0, .ref h0), (1, .int p1), (2, .int p2), (3, .int p3)] := hl
          refine lv_iload hx hb dX9_lastingWall_55 (lv_at hl 4 rfl) ?_
          refine lv_iload hx hb dX9_lastingWall_57 (lv_at hl 1 rfl) ?_
          refine lv_isub hx hb dX9_lastingWall_59 (lv_topi (fun v33 ev33 => ?_))
          refine lv_istore hx hb dX9_lastingWall_60 hl (by decide) rfl (fun ls hl => ?_)
          replace hl : lv_has ls 9 [(4, .int v33), (8, .int 0), (7, .int v31), (6, .int v25), (5, .int v26), (0, .ref h0), (1, .int p1), (2, .int p2), (3, .int p3)] := hl
          refine lv_iload hx hb dX9_lastingWall_62 (lv_at hl 4 rfl) ?_
          refine lv_iload hx hb dX9_lastingWall_64 (lv_at hl 1 rfl) ?_
          refine q_if_eq hx hb (a := 0) (by decide) (tgt := 73) dX9_lastingWall_66 rfl (fun c34 => ?_) (fun c34 => absurd c34 (by omega))
          refine lv_iload_n hx hb dX9_lastingWall_73 rfl (lv_at hl 8 rfl) ?_
          refine lv_iload hx hb dX9_lastingWall_74 (lv_at hl 2 rfl) ?_
          refine lv_isub hx hb dX9_lastingWall_76 (lv_topi (fun v35 ev35 => ?_))
          refine lv_iload hx hb dX9_lastingWall_77 (lv_at hl 4 rfl) ?_
          refine q_mmin E hl.1 w_908 mathw_min (a := v35.toInt) (b := z26) rfl ev26 (by decide) (show _ ≤ _ from by simp [Value.category]) dX9_lastingWall_79 (fun v36 mv36a mv36b mv36c => ?_)
          refine lv_isub hx hb dX9_lastingWall_82 (lv_topi (fun v37 ev37 => ?_))
          refine lv_istore hx hb dX9_lastingWall_83 hl (by decide) rfl (fun ls hl => ?_)
          replace hl : lv_has ls 9 [(5, .int v37), (4, .int v33), (8, .int 0), (7, .int v31), (6, .int v25), (0, .ref h0), (1, .int p1), (2, .int p2), (3, .int p3)] := hl
          obtain ⟨v38, ev38⟩ : ∃ z, z = v25 + Int32.ofInt 1 := ⟨_, rfl⟩
          have ev38i : v38.toInt = (z25 + 1) := i_add ev38 ev25 (by decide) (by omega) (by omega)
          refine lv_iinc hx hb dX9_lastingWall_85 hl (k := 4) rfl ev38.symm (by decide) rfl (fun ls hl => ?_)
          replace hl : lv_has ls 9 [(6, .int v38), (5, .int v37), (4, .int v33), (8, .int 0), (7, .int v31), (0, .ref h0), (1, .int p1), (2, .int p2), (3, .int p3)] := hl
          refine lv_goto (tgt := 19) hx hb dX9_lastingWall_88 rfl ?_
          exact ih28 locs28 v38 ((z25 + 1)) v37 (v37.toInt) v33 (v33.toInt) ls (by omega) ev38i rfl rfl (by omega) hS28 (lv_sub hl [0, 1, 2, 5, 6, 7, 8] rfl)
        · refine lv_aload_n hx hb dX9_lastingWall_38 rfl (lv_at hl 4 rfl) ?_
          refine q_getR E hC0 g0 fa_RX9_46 dX9_lastingWall_39 (fun q39 eq39 gq39 => ?_)
          refine lv_iload_n hx hb dX9_lastingWall_42 rfl (lv_at hl 5 rfl) ?_
          refine q_iald E hC0 gq39 rfl rfl (fun _ h => h) (i_in (a := a1) e1 (by omega) (by omega)) dX9_lastingWall_43 (fun v40 ev40 _ _ => ?_)
          refine lv_iconst (v := 1) hx hb dX9_lastingWall_44 rfl ?_
          refine q_icmp_ne hx hb (a := v40.toInt) (b := 1) rfl (by decide) (tgt := 52) dX9_lastingWall_45 rfl (fun c41 => ?_) (fun c41 => ?_)
          · refine lv_iconst (v := 0) hx hb dX9_lastingWall_52 rfl ?_
            refine lv_istore hx hb dX9_lastingWall_53 hl (by decide) rfl (fun ls hl => ?_)
            replace hl : lv_has ls 9 [(8, .int 0), (7, .int v31), (6, .int v25), (5, .int v26), (4, .int v27), (0, .ref h0), (1, .int p1), (2, .int p2), (3, .int p3)] := hl
            refine lv_iload hx hb dX9_lastingWall_55 (lv_at hl 4 rfl) ?_
            refine lv_iload hx hb dX9_lastingWall_57 (lv_at hl 1 rfl) ?_
            refine lv_isub hx hb dX9_lastingWall_59 (lv_topi (fun v42 ev42 => ?_))
            refine lv_istore hx hb dX9_lastingWall_60 hl (by decide) rfl (fun ls hl => ?_)
            replace hl : lv_has ls 9 [(4, .int v42), (8, .int 0), (7, .int v31), (6, .int v25), (5, .int v26), (0, .ref h0), (1, .int p1), (2, .int p2), (3, .int p3)] := hl
            refine lv_iload hx hb dX9_lastingWall_62 (lv_at hl 4 rfl) ?_
            refine lv_iload hx hb dX9_lastingWall_64 (lv_at hl 1 rfl) ?_
            refine q_if_eq hx hb (a := 0) (by decide) (tgt := 73) dX9_lastingWall_66 rfl (fun c43 => ?_) (fun c43 => absurd c43 (by omega))
            refine lv_iload_n hx hb dX9_lastingWall_73 rfl (lv_at hl 8 rfl) ?_
            refine lv_iload hx hb dX9_lastingWall_74 (lv_at hl 2 rfl) ?_
            refine lv_isub hx hb dX9_lastingWall_76 (lv_topi (fun v44 ev44 => ?_))
            refine lv_iload hx hb dX9_lastingWall_77 (lv_at hl 4 rfl) ?_
            refine q_mmin E hl.1 w_908 mathw_min (a := v44.toInt) (b := z26) rfl ev26 (by decide) (show _ ≤ _ from by simp [Value.category]) dX9_lastingWall_79 (fun v45 mv45a mv45b mv45c => ?_)
            refine lv_isub hx hb dX9_lastingWall_82 (lv_topi (fun v46 ev46 => ?_))
            refine lv_istore hx hb dX9_lastingWall_83 hl (by decide) rfl (fun ls hl => ?_)
            replace hl : lv_has ls 9 [(5, .int v46), (4, .int v42), (8, .int 0), (7, .int v31), (6, .int v25), (0, .ref h0), (1, .int p1), (2, .int p2), (3, .int p3)] := hl
            obtain ⟨v47, ev47⟩ : ∃ z, z = v25 + Int32.ofInt 1 := ⟨_, rfl⟩
            have ev47i : v47.toInt = (z25 + 1) := i_add ev47 ev25 (by decide) (by omega) (by omega)
            refine lv_iinc hx hb dX9_lastingWall_85 hl (k := 4) rfl ev47.symm (by decide) rfl (fun ls hl => ?_)
            replace hl : lv_has ls 9 [(6, .int v47), (5, .int v46), (4, .int v42), (8, .int 0), (7, .int v31), (0, .ref h0), (1, .int p1), (2, .int p2), (3, .int p3)] := hl
            refine lv_goto (tgt := 19) hx hb dX9_lastingWall_88 rfl ?_
            exact ih28 locs28 v47 ((z25 + 1)) v46 (v46.toInt) v42 (v42.toInt) ls (by omega) ev47i rfl rfl (by omega) hS28 (lv_sub hl [0, 1, 2, 5, 6, 7, 8] rfl)
          · refine lv_iconst (v := 1) hx hb dX9_lastingWall_48 rfl ?_
            refine lv_goto (tgt := 53) hx hb dX9_lastingWall_49 rfl ?_
            refine lv_istore hx hb dX9_lastingWall_53 hl (by decide) rfl (fun ls hl => ?_)
            replace hl : lv_has ls 9 [(8, .int 1), (7, .int v31), (6, .int v25), (5, .int v26), (4, .int v27), (0, .ref h0), (1, .int p1), (2, .int p2), (3, .int p3)] := hl
            refine lv_iload hx hb dX9_lastingWall_55 (lv_at hl 4 rfl) ?_
            refine lv_iload hx hb dX9_lastingWall_57 (lv_at hl 1 rfl) ?_
            refine lv_isub hx hb dX9_lastingWall_59 (lv_topi (fun v48 ev48 => ?_))
            refine lv_istore hx hb dX9_lastingWall_60 hl (by decide) rfl (fun ls hl => ?_)
            replace hl : lv_has ls 9 [(4, .int v48), (8, .int 1), (7, .int v31), (6, .int v25), (5, .int v26), (0, .ref h0), (1, .int p1), (2, .int p2), (3, .int p3)] := hl
            refine lv_iload hx hb dX9_lastingWall_62 (lv_at hl 4 rfl) ?_
            refine lv_iload hx hb dX9_lastingWall_64 (lv_at hl 1 rfl) ?_
            refine q_if_eq hx hb (a := 1) (by decide) (tgt := 73) dX9_lastingWall_66 rfl (fun c49 => absurd c49 (by omega)) (fun c49 => ?_)
            refine lv_iconst (v := 0) hx hb dX9_lastingWall_69 rfl ?_
            refine lv_goto (tgt := 82) hx hb dX9_lastingWall_70 rfl ?_
            refine lv_isub hx hb dX9_lastingWall_82 (lv_topi (fun v50 ev50 => ?_))
            have c51 := i_rng v26; rw [show v26.toInt = z26 from ev26] at c51
            have ev50i : v50.toInt = (z26 - 0) := i_sub ev50 ev26 (by decide) (by omega) (by omega)
            refine lv_istore hx hb dX9_lastingWall_83 hl (by decide) rfl (fun ls hl => ?_)
            replace hl : lv_has ls 9 [(5, .int v50), (4, .int v48), (8, .int 1), (7, .int v31), (6, .int v25), (0, .ref h0), (1, .int p1), (2, .int p2), (3, .int p3)] := hl
            obtain ⟨v52, ev52⟩ : ∃ z, z = v25 + Int32.ofInt 1 := ⟨_, rfl⟩
            have ev52i : v52.toInt = (z25 + 1) := i_add ev52 ev25 (by decide) (by omega) (by omega)
            refine lv_iinc hx hb dX9_lastingWall_85 hl (k := 4) rfl ev52.symm (by decide) rfl (fun ls hl => ?_)
            replace hl : lv_has ls 9 [(6, .int v52), (5, .int v50), (4, .int v48), (8, .int 1), (7, .int v31), (0, .ref h0), (1, .int p1), (2, .int p2), (3, .int p3)] := hl
            refine lv_goto (tgt := 19) hx hb dX9_lastingWall_88 rfl ?_
            exact ih28 locs28 v52 ((z25 + 1)) v50 ((z26 - 0)) v48 (v48.toInt) ls (by omega) ev52i ev50i rfl (by omega) hS28 (lv_sub hl [0, 1, 2, 5, 6, 7, 8] rfl)
  exact L19 _ [] 0 0 v24 v24.toInt v22 v22.toInt ls (Nat.lt_succ_self _) (by decide) rfl rfl (by omega) hS0 hl
set_option maxRecDepth 100000 in
set_option maxHeartbeats 4000000 in
theorem m_X9_lastingWalls (l : Launch) (X : xW) (Γ : Nat → Option Nat) (H0 : Heap) (hC0 : Conf X Γ H0) (h0 : Nat) (g0 : Γ h0 = some 5) (p1 : Int32) {a1 : Int} (e1 : p1.toInt = a1) (p2 : Int32) {a2 : Int} (e2 : p2.toInt = a2) (p3 : Int32) {a3 : Int} (e3 : p3.toInt = a3) : Ctr l X Γ yX9_lastingWalls cX9_lastingWalls 6 (some .int) 2 [.ref h0, .int p1, .int p2, .int p3] H0 (QI X Γ (fun v H1 => H1 = H0 ∧ (True))) := by
  refine q_enterI (own := "SnowForts$Yard") (by decide) rfl (Nat.le_of_ble_eq_true rfl) ?_
  intro p e s m args below meth c ls Qz E hl ret hS0
  have hx := E.1; have hb := E.2.1
  have hl : lv_has ls 6 [(0, .ref h0), (1, .int p1), (2, .int p2), (3, .int p3)] := hl
  refine lv_iconst (v := 0) hx hb dX9_lastingWalls_0 rfl ?_
  refine lv_istore hx hb dX9_lastingWalls_1 hl (by decide) rfl (fun ls hl => ?_)
  replace hl : lv_has ls 6 [(4, .int 0), (0, .ref h0), (1, .int p1), (2, .int p2), (3, .int p3)] := hl
  refine lv_iconst (v := 0) hx hb dX9_lastingWalls_3 rfl ?_
  refine lv_istore hx hb dX9_lastingWalls_4 hl (by decide) rfl (fun ls hl => ?_)
  replace hl : lv_has ls 6 [(5, .int 0), (4, .int 0), (0, .ref h0), (1, .int p1), (2, .int p2), (3, .int p3)] := hl
  have L6 : ∀ (n23 : Nat) (locs23 : List Loc) (v21 : Int32) (z21 : Int) (v22 : Int32) (z22 : Int) (ls : Array Slot), (36 - z21).toNat < n23 → v21.toInt = z21 → v22.toInt = z22 → z21 ≤ 36 → 0 ≤ z21 → va_S (AΓ Γ) H0 H0 locs23 → lv_has ls 6 [(5, .int v21), (4, .int v22), (0, .ref h0), (1, .int p1), (2, .int p2), (3, .int p3)] → W p l e (rmL 2) s m args below meth c H0 locs23 0 0 Qz (F0 m 6 ls []) := by
    intro n23
    induction n23 with
    | zero => intro locs23 v21 z21 v22 z22 ls hm23 ev21 ev22 iv23_0 iv23_1 hS23 hl; exact absurd hm23 (Nat.not_lt_zero _)
    | succ n23 ih23 =>
      intro locs23 v21 z21 v22 z22 ls hm23 ev21 ev22 iv23_0 iv23_1 hS23 hl
      refine lv_iload hx hb dX9_lastingWalls_6 (lv_at hl 0 rfl) ?_
      refine lv_bipush (v := 36) hx hb dX9_lastingWalls_8 rfl ?_
      refine q_icmp_ge hx hb (a := z21) (b := 36) ev21 (by decide) (tgt := 50) dX9_lastingWalls_10 rfl (fun c24 => ?_) (fun c24 => ?_)
      · refine lv_iload hx hb dX9_lastingWalls_50 (lv_at hl 1 rfl) ?_
        exact ret v22 H0 locs23 _ _ dX9_lastingWalls_52 ⟨rfl, trivial⟩ hC0 hS23
      · refine lv_aload_n hx hb dX9_lastingWalls_13 rfl (lv_at hl 2 rfl) ?_
        refine lv_iload_n hx hb dX9_lastingWalls_14 rfl (lv_at hl 3 rfl) ?_
        refine lv_iload hx hb dX9_lastingWalls_15 (lv_at hl 0 rfl) ?_
        refine q_goIp (q_runV (As := [.int p1, .int v21]) (rest := []) E hC0 hS23 (m_X9_isIn l X Γ H0 hC0 h0 g0 p1 (a1 := a1) e1 v21 (a2 := z21) ev21) cw_X9_isIn cl_RX9_111 g0 ⟨rfl, rfl⟩ rfl hl.1 rfl (Nat.zero_le _) (by decide) dX9_lastingWalls_17) hS23 (fun v25 locs25 hr25 hS25 => ?_)
        rcases hr25 with rfl | rfl
        · refine q_if_eq hx hb (a := 0) (by decide) (tgt := 44) dX9_lastingWalls_20 rfl (fun c26 => ?_) (fun c26 => absurd c26 (by omega))
          obtain ⟨v27, ev27⟩ : ∃ z, z = v21 + Int32.ofInt 1 := ⟨_, rfl⟩
          have ev27i : v27.toInt = (z21 + 1) := i_add ev27 ev21 (by decide) (by omega) (by omega)
          refine lv_iinc hx hb dX9_lastingWalls_44 hl (k := 0) rfl ev27.symm (by decide) rfl (fun ls hl => ?_)
          replace hl : lv_has ls 6 [(5, .int v27), (4, .int v22), (0, .ref h0), (1, .int p1), (2, .int p2), (3, .int p3)] := hl
          refine lv_goto (tgt := 6) hx hb dX9_lastingWalls_47 rfl ?_
          exact ih23 locs25 v27 ((z21 + 1)) v22 (z22) ls (by omega) ev27i ev22 (by omega) (by omega) hS25 hl
        · refine q_if_eq hx hb (a := 1) (by decide) (tgt := 44) dX9_lastingWalls_20 rfl (fun c28 => absurd c28 (by omega)) (fun c28 => ?_)
          refine lv_iload hx hb dX9_lastingWalls_23 (lv_at hl 1 rfl) ?_
          refine lv_aload_n hx hb dX9_lastingWalls_25 rfl (lv_at hl 2 rfl) ?_
          refine lv_iload hx hb dX9_lastingWalls_26 (lv_at hl 0 rfl) ?_
          refine lv_iload_n hx hb dX9_lastingWalls_28 rfl (lv_at hl 4 rfl) ?_
          refine lv_iload_n hx hb dX9_lastingWalls_29 rfl (lv_at hl 5 rfl) ?_
          refine lv_aload_n hx hb dX9_lastingWalls_30 rfl (lv_at hl 2 rfl) ?_
          refine q_getR E hC0 g0 fa_RX9_40 dX9_lastingWalls_31 (fun q29 eq29 gq29 => ?_)
          refine lv_iload hx hb dX9_lastingWalls_34 (lv_at hl 0 rfl) ?_
          refine q_iald E hC0 gq29 rfl rfl (fun _ h => h) (i_in (a := z21) ev21 (by omega) (by omega)) dX9_lastingWalls_36 (fun v30 ev30 _ _ => ?_)
          refine lv_iadd hx hb dX9_lastingWalls_37 (lv_topi (fun v31 ev31 => ?_))
          refine q_goIp (q_runV (As := [.int v21, .int p2, .int v31]) (rest := [.int v22]) E hC0 hS25 (m_X9_lastingWall l X Γ H0 hC0 h0 g0 v21 (a1 := z21) ev21 p2 (a2 := a2) e2 v31 (a3 := v31.toInt) rfl (by omega) (by omega)) cw_X9_lastingWall cl_RX9_168 g0 ⟨rfl, rfl⟩ rfl hl.1 rfl (show _ ≤ _ from by simp [Value.category]) (by decide) dX9_lastingWalls_38) hS25 (fun v32 locs32 hr32 hS32 => ?_)
          refine lv_iadd hx hb dX9_lastingWalls_41 (lv_topi (fun v33 ev33 => ?_))
          refine lv_istore hx hb dX9_lastingWalls_42 hl (by decide) rfl (fun ls hl => ?_)
          replace hl : lv_has ls 6 [(4, .int v33), (5, .int v21), (0, .ref h0), (1, .int p1), (2, .int p2), (3, .int p3)] := hl
          obtain ⟨v34, ev34⟩ : ∃ z, z = v21 + Int32.ofInt 1 := ⟨_, rfl⟩
          have ev34i : v34.toInt = (z21 + 1) := i_add ev34 ev21 (by decide) (by omega) (by omega)
          refine lv_iinc hx hb dX9_lastingWalls_44 hl (k := 1) rfl ev34.symm (by decide) rfl (fun ls hl => ?_)
          replace hl : lv_has ls 6 [(5, .int v34), (4, .int v33), (0, .ref h0), (1, .int p1), (2, .int p2), (3, .int p3)] := hl
          refine lv_goto (tgt := 6) hx hb dX9_lastingWalls_47 rfl ?_
          exact ih23 locs32 v34 ((z21 + 1)) v33 (v33.toInt) ls (by omega) ev34i rfl (by omega) (by omega) hS32 hl
  exact L6 _ [] 0 0 0 0 ls (Nat.lt_succ_self _) (by decide) (by decide) (by omega) (by omega) hS0 hl
set_option maxRecDepth 100000 in
set_option maxHeartbeats 4000000 in
theorem m_X11_lasting (l : Launch) (X : xW) (Γ : Nat → Option Nat) (H0 : Heap) (hC0 : Conf X Γ H0) (h0 : Nat) (g0 : Γ h0 = some 0) (p1 : Int32) {a1 : Int} (e1 : p1.toInt = a1) (p2 : Int32) {a2 : Int} (e2 : p2.toInt = a2) (p3 : Int32) {a3 : Int} (e3 : p3.toInt = a3) : Ctr l X Γ yX11_lasting cX11_lasting 4 (some .int) 3 [.ref h0, .int p1, .int p2, .int p3] H0 (QI X Γ (fun v H1 => Kp X Γ [0, 2, 3, 4, 5, 18, 21, 23, 25, 27] H0 H1 ∧ (True))) := by
  refine q_enterI (own := "SnowForts") (by decide) rfl (Nat.le_of_ble_eq_true rfl) ?_
  intro p e s m args below meth c ls Qz E hl ret hS0
  have hx := E.1; have hb := E.2.1
  have hKp0 : Kp X Γ [0, 2, 3, 4, 5, 18, 21, 23, 25, 27] H0 H0 := Kp.rf
  have hl : lv_has ls 4 [(0, .ref h0), (1, .int p1), (2, .int p2), (3, .int p3)] := hl
  refine lv_aload_n hx hb dX11_lasting_0 rfl (lv_at hl 0 rfl) ?_
  refine q_getR E hC0 g0 fa_RX11_42 dX11_lasting_1 (fun q21 eq21 gq21 => ?_)
  refine lv_iload_n hx hb dX11_lasting_4 rfl (lv_at hl 1 rfl) ?_
  refine q_goIp (q_runV (As := [.int p1]) (rest := []) E hC0 hS0 (m_X9_isSchool l X Γ H0 hC0 q21 gq21 p1 (a1 := a1) e1) cw_X9_isSchool cl_RX11_215 gq21 ⟨rfl, rfl⟩ rfl hl.1 rfl (Nat.zero_le _) (by decide) dX11_lasting_5) hS0 (fun v22 locs22 hr22 hS22 => ?_)
  rcases hr22 with ⟨rfl, f22a0, f22a1⟩ | ⟨rfl, -⟩
  · refine q_if_ne hx hb (a := 1) (by decide) (tgt := 17) dX11_lasting_8 rfl (fun c23 => ?_) (fun c23 => absurd c23 (by omega))
    refine lv_iload_n hx hb dX11_lasting_17 rfl (lv_at hl 2 rfl) ?_
    refine lv_i2l (v := p2.toInt64) hx hb dX11_lasting_18 rfl (lv_topl (fun v24 ev24 => ?_))
    have ev24i : v24.toInt = a2 := l_ofi ev24.symm e2
    refine lv_iconst (v := 0) hx hb dX11_lasting_19 rfl ?_
    refine lv_bipush (v := 30) hx hb dX11_lasting_20 rfl ?_
    refine q_goIp (q_runS (As := [.long v24, .int 0, .int 30]) (rest := []) E hS22 (m_X11_isWithin l X Γ H0 hC0 v24 (a0 := a2) ev24i 0 (a1 := 0) (by decide) 30 (a2 := 30) (by decide)) cw_X11_isWithin cl_RX11_113 rfl hl.1 rfl (Nat.zero_le _) (by decide) dX11_lasting_22) hS22 (fun v25 locs25 hr25 hS25 => ?_)
    rcases hr25 with ⟨rfl, f25a0, f25a1⟩ | ⟨rfl, f25b⟩
    · refine q_if_eq hx hb (a := 1) (by decide) (tgt := 39) dX11_lasting_25 rfl (fun c26 => absurd c26 (by omega)) (fun c26 => ?_)
      refine lv_iload_n hx hb dX11_lasting_28 rfl (lv_at hl 3 rfl) ?_
      refine lv_i2l (v := p3.toInt64) hx hb dX11_lasting_29 rfl (lv_topl (fun v27 ev27 => ?_))
      have ev27i : v27.toInt = a3 := l_ofi ev27.symm e3
      refine lv_iconst (v := 0) hx hb dX11_lasting_30 rfl ?_
      refine lv_bipush (v := 40) hx hb dX11_lasting_31 rfl ?_
      refine q_goIp (q_runS (As := [.long v27, .int 0, .int 40]) (rest := []) E hS25 (m_X11_isWithin l X Γ H0 hC0 v27 (a0 := a3) ev27i 0 (a1 := 0) (by decide) 40 (a2 := 40) (by decide)) cw_X11_isWithin cl_RX11_113 rfl hl.1 rfl (Nat.zero_le _) (by decide) dX11_lasting_33) hS25 (fun v28 locs28 hr28 hS28 => ?_)
      rcases hr28 with ⟨rfl, f28a0, f28a1⟩ | ⟨rfl, f28b⟩
      · refine q_if_ne hx hb (a := 1) (by decide) (tgt := 45) dX11_lasting_36 rfl (fun c29 => ?_) (fun c29 => absurd c29 (by omega))
        refine lv_aload_n hx hb dX11_lasting_45 rfl (lv_at hl 0 rfl) ?_
        refine lv_aload_n hx hb dX11_lasting_46 rfl (lv_at hl 0 rfl) ?_
        refine q_getR E hC0 g0 fa_RX11_42 dX11_lasting_47 (fun q30 eq30 gq30 => ?_)
        refine lv_iload_n hx hb dX11_lasting_50 rfl (lv_at hl 1 rfl) ?_
        refine lv_iload_n hx hb dX11_lasting_51 rfl (lv_at hl 2 rfl) ?_
        refine lv_iload_n hx hb dX11_lasting_52 rfl (lv_at hl 3 rfl) ?_
        refine q_goIp (q_runV (As := [.int p1, .int p2, .int p3]) (rest := [.ref h0]) E hC0 hS28 (m_X9_lastingWalls l X Γ H0 hC0 q30 gq30 p1 (a1 := a1) e1 p2 (a2 := a2) e2 p3 (a3 := a3) e3) cw_X9_lastingWalls cl_RX11_281 gq30 ⟨rfl, rfl⟩ rfl hl.1 rfl (show _ ≤ _ from by simp [Value.category]) (by decide) dX11_lasting_53) hS28 (fun v31 locs31 hr31 hS31 => ?_)
        refine q_goI (q_runV (As := [.int v31]) (rest := []) E hC0 hS31 (m_X11_answer l X Γ H0 hC0 h0 g0 v31 (a1 := v31.toInt) rfl) cw_X11_answer cl_RX11_191 g0 ⟨rfl, rfl⟩ rfl hl.1 rfl (Nat.zero_le _) (by decide) dX11_lasting_56) hS31 (fun v32 H32 locs32 hr32 hC32 hS32 => ?_)
        obtain ⟨hp32, hr32⟩ := hr32
        have hKp32 := hKp0.tr (hp32.mono rfl)
        have f32_0 := hr32
        exact ret v32 H32 locs32 _ _ dX11_lasting_59 ⟨hKp32, trivial⟩ hC32 hS32
      · refine q_if_ne hx hb (a := 0) (by decide) (tgt := 45) dX11_lasting_36 rfl (fun c33 => absurd c33 (by omega)) (fun c33 => ?_)
        refine lv_aload_n hx hb dX11_lasting_39 rfl (lv_at hl 0 rfl) ?_
        refine lv_iconst (v := 5) hx hb dX11_lasting_40 rfl ?_
        refine q_goI (q_runV (As := [.int 5]) (rest := []) E hC0 hS28 (m_X11_refuse l X Γ H0 hC0 h0 g0 5 (a1 := 5) (by decide)) cw_X11_refuse cl_RX11_146 g0 ⟨rfl, rfl⟩ rfl hl.1 rfl (Nat.zero_le _) (by decide) dX11_lasting_41) hS28 (fun v34 H34 locs34 hr34 hC34 hS34 => ?_)
        obtain ⟨hp34, hr34⟩ := hr34
        have hKp34 := hKp0.tr (hp34.mono rfl)
        have f34_0 := hr34
        exact ret v34 H34 locs34 _ _ dX11_lasting_44 ⟨hKp34, trivial⟩ hC34 hS34
    · refine q_if_eq hx hb (a := 0) (by decide) (tgt := 39) dX11_lasting_25 rfl (fun c35 => ?_) (fun c35 => absurd c35 (by omega))
      refine lv_aload_n hx hb dX11_lasting_39 rfl (lv_at hl 0 rfl) ?_
      refine lv_iconst (v := 5) hx hb dX11_lasting_40 rfl ?_
      refine q_goI (q_runV (As := [.int 5]) (rest := []) E hC0 hS25 (m_X11_refuse l X Γ H0 hC0 h0 g0 5 (a1 := 5) (by decide)) cw_X11_refuse cl_RX11_146 g0 ⟨rfl, rfl⟩ rfl hl.1 rfl (Nat.zero_le _) (by decide) dX11_lasting_41) hS25 (fun v36 H36 locs36 hr36 hC36 hS36 => ?_)
      obtain ⟨hp36, hr36⟩ := hr36
      have hKp36 := hKp0.tr (hp36.mono rfl)
      have f36_0 := hr36
      exact ret v36 H36 locs36 _ _ dX11_lasting_44 ⟨hKp36, trivial⟩ hC36 hS36
  · refine q_if_ne hx hb (a := 0) (by decide) (tgt := 17) dX11_lasting_8 rfl (fun c37 => absurd c37 (by omega)) (fun c37 => ?_)
    refine lv_aload_n hx hb dX11_lasting_11 rfl (lv_at hl 0 rfl) ?_
    refine lv_iconst (v := 2) hx hb dX11_lasting_12 rfl ?_
    refine q_goI (q_runV (As := [.int 2]) (rest := []) E hC0 hS22 (m_X11_refuse l X Γ H0 hC0 h0 g0 2 (a1 := 2) (by decide)) cw_X11_refuse cl_RX11_146 g0 ⟨rfl, rfl⟩ rfl hl.1 rfl (Nat.zero_le _) (by decide) dX11_lasting_13) hS22 (fun v38 H38 locs38 hr38 hC38 hS38 => ?_)
    obtain ⟨hp38, hr38⟩ := hr38
    have hKp38 := hKp0.tr (hp38.mono rfl)
    have f38_0 := hr38
    exact ret v38 H38 locs38 _ _ dX11_lasting_16 ⟨hKp38, trivial⟩ hC38 hS38
set_option maxRecDepth 100000 in
set_option maxHeartbeats 4000000 in
theorem m_X7_comesTo (l : Launch) (X : xW) (Γ : Nat → Option Nat) (H0 : Heap) (hC0 : Conf X Γ H0) (h0 : Nat) (g0 : Γ h0 = some 7) (h1 : Nat) (g1 : Γ h1 = some 5) : Ctr l X Γ yX7_comesTo cX7_comesTo 5 (some .boolean) 1 [.ref h0, .ref h1] H0 (QI X Γ (fun v H1 => Kp X Γ [0, 2, 3, 4, 5, 18, 21, 23, 25, 27] H0 H1 ∧ (v = 0 ∨ v = 1))) := by
  refine q_enterZ (own := "SnowForts$Walk") (by decide) rfl (Nat.le_of_ble_eq_true rfl) ?_
  intro p e s m args below meth c ls Qz E hl ret hS0
  have hx := E.1; have hb := E.2.1
  have hKp0 : Kp X Γ [0, 2, 3, 4, 5, 18, 21, 23, 25, 27] H0 H0 := Kp.rf
  have hl : lv_has ls 5 [(0, .ref h0), (1, .ref h1)] := hl
  refine lv_aload_n hx hb dX7_comesTo_0 rfl (lv_at hl 0 rfl) ?_
  refine q_getI E hC0 g0 fa_RX7_43 dX7_comesTo_1 (fun v21 ev21 _ _ => ?_)
  refine lv_aload_n hx hb dX7_comesTo_4 rfl (lv_at hl 1 rfl) ?_
  refine q_getI E hC0 g1 fa_RX7_46 dX7_comesTo_5 (fun v22 ev22 _ _ => ?_)
  have c23 := i_rng v21; rw [show v21.toInt = v21.toInt from rfl] at c23
  have c24 := i_rng v22; rw [show v22.toInt = v22.toInt from rfl] at c24
  refine q_icmp_ne hx hb (a := v21.toInt) (b := v22.toInt) rfl rfl (tgt := 22) dX7_comesTo_8 rfl (fun c25 => ?_) (fun c25 => ?_)
  · refine lv_iconst (v := 1) hx hb dX7_comesTo_22 rfl ?_
    refine lv_goto (tgt := 27) hx hb dX7_comesTo_23 rfl ?_
    refine lv_istore_n hx hb dX7_comesTo_27 rfl hl (by decide) rfl (fun ls hl => ?_)
    replace hl : lv_has ls 5 [(2, .int 1), (0, .ref h0), (1, .ref h1)] := hl
    refine lv_aload_n hx hb dX7_comesTo_28 rfl (lv_at hl 1 rfl) ?_
    refine lv_aload_n hx hb dX7_comesTo_29 rfl (lv_at hl 2 rfl) ?_
    refine q_getI E hC0 g1 fa_RX7_46 dX7_comesTo_30 (fun v26 ev26 _ _ => ?_)
    have qv26 := ev22.symm.trans ev26; subst qv26
    refine q_put E hC0 hS0 g0 fp_RX7_43 tv_F rfl rfl dX7_comesTo_33 (fun H27 locs27 hC27 hS27 U27 => ?_)
    have hKp27 := Kp.upO E g0 fp_RX7_43 rfl U27 hKp0
    have e28 := up_I U27
    refine lv_aload_n hx hb dX7_comesTo_36 rfl (lv_at hl 1 rfl) ?_
    refine lv_aload_n hx hb dX7_comesTo_37 rfl (lv_at hl 2 rfl) ?_
    refine q_getI E hC27 g1 fa_RX7_52 dX7_comesTo_38 (fun v29 ev29 _ _ => ?_)
    refine q_put E hC27 hS27 g0 fp_RX7_49 tv_F rfl rfl dX7_comesTo_41 (fun H30 locs30 hC30 hS30 U30 => ?_)
    have hKp30 := Kp.upO E g0 fp_RX7_49 rfl U30 hKp27
    have e31 := up_I U30
    refine lv_iconst (v := 0) hx hb dX7_comesTo_44 rfl ?_
    refine lv_istore_n hx hb dX7_comesTo_45 rfl hl (by decide) rfl (fun ls hl => ?_)
    replace hl : lv_has ls 5 [(3, .int 0), (2, .int 1), (0, .ref h0), (1, .ref h1)] := hl
    have L46 : ∀ (n34 : Nat) (H34 : Heap) (locs34 : List Loc) (v32 : Int32) (z32 : Int) (v33 : Int32) (z33 : Int) (ls : Array Slot), (36 - z32).toNat < n34 → v32.toInt = z32 → v33.toInt = z33 → z32 ≤ 36 → 0 ≤ z32 → 0 ≤ z33 → z33 ≤ 1 → Conf X Γ H34 → va_S (AΓ Γ) H0 H34 locs34 → Kp X Γ [0, 2, 3, 4, 5, 18, 21, 23, 25, 27] H0 H34 → lv_has ls 5 [(3, .int v32), (2, .int v33), (0, .ref h0), (1, .ref h1)] → W p l e (rmL 1) s m args below meth c H34 locs34 0 0 Qz (F0 m 46 ls []) := by
      intro n34
      induction n34 with
      | zero => intro H34 locs34 v32 z32 v33 z33 ls hm34 ev32 ev33 iv34_0 iv34_1 iv34_2 iv34_3 hC34 hS34 hKp34 hl; exact absurd hm34 (Nat.not_lt_zero _)
      | succ n34 ih34 =>
        intro H34 locs34 v32 z32 v33 z33 ls hm34 ev32 ev33 iv34_0 iv34_1 iv34_2 iv34_3 hC34 hS34 hKp34 hl
        refine lv_iload_n hx hb dX7_comesTo_46 rfl (lv_at hl 0 rfl) ?_
        refine lv_bipush (v := 36) hx hb dX7_comesTo_47 rfl ?_
        refine q_icmp_ge hx hb (a := z32) (b := 36) ev32 (by decide) (tgt := 92) dX7_comesTo_49 rfl (fun c35 => ?_) (fun c35 => ?_)
        · refine lv_iload_n hx hb dX7_comesTo_92 rfl (lv_at hl 1 rfl) ?_
          exact ret v33 H34 locs34 _ _ dX7_comesTo_93 (z01 ev33 (by omega) (by omega)) ⟨hKp34, z01 ev33 (by omega) (by omega)⟩ hC34 hS34
        · refine lv_aload_n hx hb dX7_comesTo_52 rfl (lv_at hl 3 rfl) ?_
          refine lv_iload_n hx hb dX7_comesTo_53 rfl (lv_at hl 0 rfl) ?_
          refine q_goIp (q_runV (As := [.int v32]) (rest := []) E hC34 hS34 (m_X9_topOf l X Γ H34 hC34 h1 g1 v32 (a1 := z32) ev32) cw_X9_topOf cl_RX7_53 g1 ⟨rfl, rfl⟩ rfl hl.1 rfl (Nat.zero_le _) (by decide) dX7_comesTo_54) hS34 (fun v36 locs36 hr36 hS36 => ?_)
          refine lv_istore hx hb dX7_comesTo_57 hl (by decide) rfl (fun ls hl => ?_)
          replace hl : lv_has ls 5 [(4, .int v36), (3, .int v32), (2, .int v33), (0, .ref h0), (1, .ref h1)] := hl
          refine lv_iload_n hx hb dX7_comesTo_59 rfl (lv_at hl 2 rfl) ?_
          refine lv_aload_n hx hb dX7_comesTo_60 rfl (lv_at hl 3 rfl) ?_
          refine q_getR E hC34 g0 fa_RX7_15 dX7_comesTo_61 (fun q37 eq37 gq37 => ?_)
          refine lv_iload_n hx hb dX7_comesTo_64 rfl (lv_at hl 1 rfl) ?_
          refine q_iald E hC34 gq37 rfl rfl (fun _ h => h) (i_in (a := z32) ev32 (by omega) (by omega)) dX7_comesTo_65 (fun v38 ev38 _ _ => ?_)
          refine lv_iload hx hb dX7_comesTo_66 (lv_at hl 0 rfl) ?_
          have c39 := i_rng v38; rw [show v38.toInt = v38.toInt from rfl] at c39
          have c40 := i_rng v36; rw [show v36.toInt = v36.toInt from rfl] at c40
          refine q_icmp_eq hx hb (a := v38.toInt) (b := v36.toInt) rfl rfl (tgt := 75) dX7_comesTo_68 rfl (fun c41 => ?_) (fun c41 => ?_)
          · refine lv_iconst (v := 0) hx hb dX7_comesTo_75 rfl ?_
            refine lv_ior hx hb dX7_comesTo_76 (lv_topi (fun v42 ev42 => ?_))
            have bv42 := i_or01 ev42 ev33 (show (0 : Int32).toInt = 0 from by decide) (by omega) (by omega) (by omega) (by omega)
            refine lv_istore_n hx hb dX7_comesTo_77 rfl hl (by decide) rfl (fun ls hl => ?_)
            replace hl : lv_has ls 5 [(2, .int v42), (4, .int v36), (3, .int v32), (0, .ref h0), (1, .ref h1)] := hl
            refine lv_aload_n hx hb dX7_comesTo_78 rfl (lv_at hl 3 rfl) ?_
            refine q_getR E hC34 g0 fa_RX7_15 dX7_comesTo_79 (fun q43 eq43 gq43 => ?_)
            refine lv_iload_n hx hb dX7_comesTo_82 rfl (lv_at hl 2 rfl) ?_
            refine lv_iload hx hb dX7_comesTo_83 (lv_at hl 1 rfl) ?_
            refine q_iast E hC34 hS36 gq43 (by decide) rfl rfl (i_in (a := z32) ev32 (by omega) (by omega)) tv_F dX7_comesTo_85 (fun H44 locs44 hC44 hS44 U44 => ?_)
            have hKp44 := Kp.upA gq43 rfl (by decide) rfl U44 hKp34
            obtain ⟨v45, ev45⟩ : ∃ z, z = v32 + Int32.ofInt 1 := ⟨_, rfl⟩
            have ev45i : v45.toInt = (z32 + 1) := i_add ev45 ev32 (by decide) (by omega) (by omega)
            refine lv_iinc hx hb dX7_comesTo_86 hl (k := 2) rfl ev45.symm (by decide) rfl (fun ls hl => ?_)
            replace hl : lv_has ls 5 [(3, .int v45), (2, .int v42), (4, .int v36), (0, .ref h0), (1, .ref h1)] := hl
            refine lv_goto (tgt := 46) hx hb dX7_comesTo_89 rfl ?_
            exact ih34 H44 locs44 v45 ((z32 + 1)) v42 (v42.toInt) ls (by omega) ev45i rfl (by omega) (by omega) (by omega) (by omega) hC44 hS44 hKp44 (lv_sub hl [0, 1, 3, 4] rfl)
          · refine lv_iconst (v := 1) hx hb dX7_comesTo_71 rfl ?_
            refine lv_goto (tgt := 76) hx hb dX7_comesTo_72 rfl ?_
            refine lv_ior hx hb dX7_comesTo_76 (lv_topi (fun v46 ev46 => ?_))
            have bv46 := i_or01 ev46 ev33 (show (1 : Int32).toInt = 1 from by decide) (by omega) (by omega) (by omega) (by omega)
            refine lv_istore_n hx hb dX7_comesTo_77 rfl hl (by decide) rfl (fun ls hl => ?_)
            replace hl : lv_has ls 5 [(2, .int v46), (4, .int v36), (3, .int v32), (0, .ref h0), (1, .ref h1)] := hl
            refine lv_aload_n hx hb dX7_comesTo_78 rfl (lv_at hl 3 rfl) ?_
            refine q_getR E hC34 g0 fa_RX7_15 dX7_comesTo_79 (fun q47 eq47 gq47 => ?_)
            refine lv_iload_n hx hb dX7_comesTo_82 rfl (lv_at hl 2 rfl) ?_
            refine lv_iload hx hb dX7_comesTo_83 (lv_at hl 1 rfl) ?_
            refine q_iast E hC34 hS36 gq47 (by decide) rfl rfl (i_in (a := z32) ev32 (by omega) (by omega)) tv_F dX7_comesTo_85 (fun H48 locs48 hC48 hS48 U48 => ?_)
            have hKp48 := Kp.upA gq47 rfl (by decide) rfl U48 hKp34
            obtain ⟨v49, ev49⟩ : ∃ z, z = v32 + Int32.ofInt 1 := ⟨_, rfl⟩
            have ev49i : v49.toInt = (z32 + 1) := i_add ev49 ev32 (by decide) (by omega) (by omega)
            refine lv_iinc hx hb dX7_comesTo_86 hl (k := 2) rfl ev49.symm (by decide) rfl (fun ls hl => ?_)
            replace hl : lv_has ls 5 [(3, .int v49), (2, .int v46), (4, .int v36), (0, .ref h0), (1, .ref h1)] := hl
            refine lv_goto (tgt := 46) hx hb dX7_comesTo_89 rfl ?_
            exact ih34 H48 locs48 v49 ((z32 + 1)) v46 (v46.toInt) ls (by omega) ev49i rfl (by omega) (by omega) (by omega) (by omega) hC48 hS48 hKp48 (lv_sub hl [0, 1, 3, 4] rfl)
    exact L46 _ H30 locs30 0 0 1 1 ls (Nat.lt_succ_self _) (by decide) (by decide) (by omega) (by omega) (by omega) (by omega) hC30 hS30 hKp30 hl
  · refine lv_aload_n hx hb dX7_comesTo_11 rfl (lv_at hl 0 rfl) ?_
    refine q_getI E hC0 g0 fa_RX7_49 dX7_comesTo_12 (fun v50 ev50 _ _ => ?_)
    refine lv_aload_n hx hb dX7_comesTo_15 rfl (lv_at hl 1 rfl) ?_
    refine q_getI E hC0 g1 fa_RX7_52 dX7_comesTo_16 (fun v51 ev51 _ _ => ?_)
    have c52 := i_rng v50; rw [show v50.toInt = v50.toInt from rfl] at c52
    have c53 := i_rng v51; rw [show v51.toInt = v51.toInt from rfl] at c53
    refine q_icmp_eq hx hb (a := v50.toInt) (b := v51.toInt) rfl rfl (tgt := 26) dX7_comesTo_19 rfl (fun c54 => ?_) (fun c54 => ?_)
    · refine lv_iconst (v := 0) hx hb dX7_comesTo_26 rfl ?_
      refine lv_istore_n hx hb dX7_comesTo_27 rfl hl (by decide) rfl (fun ls hl => ?_)
      replace hl : lv_has ls 5 [(2, .int 0), (0, .ref h0), (1, .ref h1)] := hl
      refine lv_aload_n hx hb dX7_comesTo_28 rfl (lv_at hl 1 rfl) ?_
      refine lv_aload_n hx hb dX7_comesTo_29 rfl (lv_at hl 2 rfl) ?_
      refine q_getI E hC0 g1 fa_RX7_46 dX7_comesTo_30 (fun v55 ev55 _ _ => ?_)
      have qv55 := ev22.symm.trans ev55; subst qv55
      refine q_put E hC0 hS0 g0 fp_RX7_43 tv_F rfl rfl dX7_comesTo_33 (fun H56 locs56 hC56 hS56 U56 => ?_)
      have hKp56 := Kp.upO E g0 fp_RX7_43 rfl U56 hKp0
      have e57 := up_I U56
      refine lv_aload_n hx hb dX7_comesTo_36 rfl (lv_at hl 1 rfl) ?_
      refine lv_aload_n hx hb dX7_comesTo_37 rfl (lv_at hl 2 rfl) ?_
      have e59 := (up_nI U56 (ne_k g1 g0 (by decide))).trans ev51
      refine q_getI E hC56 g1 fa_RX7_52 dX7_comesTo_38 (fun v58 ev58 _ _ => ?_)
      have qv58 := e59.symm.trans ev58; subst qv58
      refine q_put E hC56 hS56 g0 fp_RX7_49 tv_F rfl rfl dX7_comesTo_41 (fun H60 locs60 hC60 hS60 U60 => ?_)
      have hKp60 := Kp.upO E g0 fp_RX7_49 rfl U60 hKp56
      have e61 := up_I U60
      refine lv_iconst (v := 0) hx hb dX7_comesTo_44 rfl ?_
      refine lv_istore_n hx hb dX7_comesTo_45 rfl hl (by decide) rfl (fun ls hl => ?_)
      replace hl : lv_has ls 5 [(3, .int 0), (2, .int 0), (0, .ref h0), (1, .ref h1)] := hl
      have L46 : ∀ (n64 : Nat) (H64 : Heap) (locs64 : List Loc) (v62 : Int32) (z62 : Int) (v63 : Int32) (z63 : Int) (ls : Array Slot), (36 - z62).toNat < n64 → v62.toInt = z62 → v63.toInt = z63 → z62 ≤ 36 → 0 ≤ z62 → 0 ≤ z63 → z63 ≤ 1 → Conf X Γ H64 → va_S (AΓ Γ) H0 H64 locs64 → Kp X Γ [0, 2, 3, 4, 5, 18, 21, 23, 25, 27] H0 H64 → lv_has ls 5 [(3, .int v62), (2, .int v63), (0, .ref h0), (1, .ref h1)] → W p l e (rmL 1) s m args below meth c H64 locs64 0 0 Qz (F0 m 46 ls []) := by
        intro n64
        induction n64 with
        | zero => intro H64 locs64 v62 z62 v63 z63 ls hm64 ev62 ev63 iv64_0 iv64_1 iv64_2 iv64_3 hC64 hS64 hKp64 hl; exact absurd hm64 (Nat.not_lt_zero _)
        | succ n64 ih64 =>
          intro H64 locs64 v62 z62 v63 z63 ls hm64 ev62 ev63 iv64_0 iv64_1 iv64_2 iv64_3 hC64 hS64 hKp64 hl
          refine lv_iload_n hx hb dX7_comesTo_46 rfl (lv_at hl 0 rfl) ?_
          refine lv_bipush (v := 36) hx hb dX7_comesTo_47 rfl ?_
          refine q_icmp_ge hx hb (a := z62) (b := 36) ev62 (by decide) (tgt := 92) dX7_comesTo_49 rfl (fun c65 => ?_) (fun c65 => ?_)
          · refine lv_iload_n hx hb dX7_comesTo_92 rfl (lv_at hl 1 rfl) ?_
            exact ret v63 H64 locs64 _ _ dX7_comesTo_93 (z01 ev63 (by omega) (by omega)) ⟨hKp64, z01 ev63 (by omega) (by omega)⟩ hC64 hS64
          · refine lv_aload_n hx hb dX7_comesTo_52 rfl (lv_at hl 3 rfl) ?_
            refine lv_iload_n hx hb dX7_comesTo_53 rfl (lv_at hl 0 rfl) ?_
            refine q_goIp (q_runV (As := [.int v62]) (rest := []) E hC64 hS64 (m_X9_topOf l X Γ H64 hC64 h1 g1 v62 (a1 := z62) ev62) cw_X9_topOf cl_RX7_53 g1 ⟨rfl, rfl⟩ rfl hl.1 rfl (Nat.zero_le _) (by decide) dX7_comesTo_54) hS64 (fun v66 locs66 hr66 hS66 => ?_)
            refine lv_istore hx hb dX7_comesTo_57 hl (by decide) rfl (fun ls hl => ?_)
            replace hl : lv_has ls 5 [(4, .int v66), (3, .int v62), (2, .int v63), (0, .ref h0), (1, .ref h1)] := hl
            refine lv_iload_n hx hb dX7_comesTo_59 rfl (lv_at hl 2 rfl) ?_
            refine lv_aload_n hx hb dX7_comesTo_60 rfl (lv_at hl 3 rfl) ?_
            refine q_getR E hC64 g0 fa_RX7_15 dX7_comesTo_61 (fun q67 eq67 gq67 => ?_)
            refine lv_iload_n hx hb dX7_comesTo_64 rfl (lv_at hl 1 rfl) ?_
            refine q_iald E hC64 gq67 rfl rfl (fun _ h => h) (i_in (a := z62) ev62 (by omega) (by omega)) dX7_comesTo_65 (fun v68 ev68 _ _ => ?_)
            refine lv_iload hx hb dX7_comesTo_66 (lv_at hl 0 rfl) ?_
            have c69 := i_rng v68; rw [show v68.toInt = v68.toInt from rfl] at c69
            have c70 := i_rng v66; rw [show v66.toInt = v66.toInt from rfl] at c70
            refine q_icmp_eq hx hb (a := v68.toInt) (b := v66.toInt) rfl rfl (tgt := 75) dX7_comesTo_68 rfl (fun c71 => ?_) (fun c71 => ?_)
            · refine lv_iconst (v := 0) hx hb dX7_comesTo_75 rfl ?_
              refine lv_ior hx hb dX7_comesTo_76 (lv_topi (fun v72 ev72 => ?_))
              have bv72 := i_or01 ev72 ev63 (show (0 : Int32).toInt = 0 from by decide) (by omega) (by omega) (by omega) (by omega)
              refine lv_istore_n hx hb dX7_comesTo_77 rfl hl (by decide) rfl (fun ls hl => ?_)
              replace hl : lv_has ls 5 [(2, .int v72), (4, .int v66), (3, .int v62), (0, .ref h0), (1, .ref h1)] := hl
              refine lv_aload_n hx hb dX7_comesTo_78 rfl (lv_at hl 3 rfl) ?_
              refine q_getR E hC64 g0 fa_RX7_15 dX7_comesTo_79 (fun q73 eq73 gq73 => ?_)
              refine lv_iload_n hx hb dX7_comesTo_82 rfl (lv_at hl 2 rfl) ?_
              refine lv_iload hx hb dX7_comesTo_83 (lv_at hl 1 rfl) ?_
              refine q_iast E hC64 hS66 gq73 (by decide) rfl rfl (i_in (a := z62) ev62 (by omega) (by omega)) tv_F dX7_comesTo_85 (fun H74 locs74 hC74 hS74 U74 => ?_)
              have hKp74 := Kp.upA gq73 rfl (by decide) rfl U74 hKp64
              obtain ⟨v75, ev75⟩ : ∃ z, z = v62 + Int32.ofInt 1 := ⟨_, rfl⟩
              have ev75i : v75.toInt = (z62 + 1) := i_add ev75 ev62 (by decide) (by omega) (by omega)
              refine lv_iinc hx hb dX7_comesTo_86 hl (k := 2) rfl ev75.symm (by decide) rfl (fun ls hl => ?_)
              replace hl : lv_has ls 5 [(3, .int v75), (2, .int v72), (4, .int v66), (0, .ref h0), (1, .ref h1)] := hl
              refine lv_goto (tgt := 46) hx hb dX7_comesTo_89 rfl ?_
              exact ih64 H74 locs74 v75 ((z62 + 1)) v72 (v72.toInt) ls (by omega) ev75i rfl (by omega) (by omega) (by omega) (by omega) hC74 hS74 hKp74 (lv_sub hl [0, 1, 3, 4] rfl)
            · refine lv_iconst (v := 1) hx hb dX7_comesTo_71 rfl ?_
              refine lv_goto (tgt := 76) hx hb dX7_comesTo_72 rfl ?_
              refine lv_ior hx hb dX7_comesTo_76 (lv_topi (fun v76 ev76 => ?_))
              have bv76 := i_or01 ev76 ev63 (show (1 : Int32).toInt = 1 from by decide) (by omega) (by omega) (by omega) (by omega)
              refine lv_istore_n hx hb dX7_comesTo_77 rfl hl (by decide) rfl (fun ls hl => ?_)
              replace hl : lv_has ls 5 [(2, .int v76), (4, .int v66), (3, .int v62), (0, .ref h0), (1, .ref h1)] := hl
              refine lv_aload_n hx hb dX7_comesTo_78 rfl (lv_at hl 3 rfl) ?_
              refine q_getR E hC64 g0 fa_RX7_15 dX7_comesTo_79 (fun q77 eq77 gq77 => ?_)
              refine lv_iload_n hx hb dX7_comesTo_82 rfl (lv_at hl 2 rfl) ?_
              refine lv_iload hx hb dX7_comesTo_83 (lv_at hl 1 rfl) ?_
              refine q_iast E hC64 hS66 gq77 (by decide) rfl rfl (i_in (a := z62) ev62 (by omega) (by omega)) tv_F dX7_comesTo_85 (fun H78 locs78 hC78 hS78 U78 => ?_)
              have hKp78 := Kp.upA gq77 rfl (by decide) rfl U78 hKp64
              obtain ⟨v79, ev79⟩ : ∃ z, z = v62 + Int32.ofInt 1 := ⟨_, rfl⟩
              have ev79i : v79.toInt = (z62 + 1) := i_add ev79 ev62 (by decide) (by omega) (by omega)
              refine lv_iinc hx hb dX7_comesTo_86 hl (k := 2) rfl ev79.symm (by decide) rfl (fun ls hl => ?_)
              replace hl : lv_has ls 5 [(3, .int v79), (2, .int v76), (4, .int v66), (0, .ref h0), (1, .ref h1)] := hl
              refine lv_goto (tgt := 46) hx hb dX7_comesTo_89 rfl ?_
              exact ih64 H78 locs78 v79 ((z62 + 1)) v76 (v76.toInt) ls (by omega) ev79i rfl (by omega) (by omega) (by omega) (by omega) hC78 hS78 hKp78 (lv_sub hl [0, 1, 3, 4] rfl)
      exact L46 _ H60 locs60 0 0 0 0 ls (Nat.lt_succ_self _) (by decide) (by decide) (by omega) (by omega) (by omega) (by omega) hC60 hS60 hKp60 hl
    · refine lv_iconst (v := 1) hx hb dX7_comesTo_22 rfl ?_
      refine lv_goto (tgt := 27) hx hb dX7_comesTo_23 rfl ?_
      refine lv_istore_n hx hb dX7_comesTo_27 rfl hl (by decide) rfl (fun ls hl => ?_)
      replace hl : lv_has ls 5 [(2, .int 1), (0, .ref h0), (1, .ref h1)] := hl
      refine lv_aload_n hx hb dX7_comesTo_28 rfl (lv_at hl 1 rfl) ?_
      refine lv_aload_n hx hb dX7_comesTo_29 rfl (lv_at hl 2 rfl) ?_
      refine q_getI E hC0 g1 fa_RX7_46 dX7_comesTo_30 (fun v80 ev80 _ _ => ?_)
      have qv80 := ev22.symm.trans ev80; subst qv80
      refine q_put E hC0 hS0 g0 fp_RX7_43 tv_F rfl rfl dX7_comesTo_33 (fun H81 locs81 hC81 hS81 U81 => ?_)
      have hKp81 := Kp.upO E g0 fp_RX7_43 rfl U81 hKp0
      have e82 := up_I U81
      refine lv_aload_n hx hb dX7_comesTo_36 rfl (lv_at hl 1 rfl) ?_
      refine lv_aload_n hx hb dX7_comesTo_37 rfl (lv_at hl 2 rfl) ?_
      have e84 := (up_nI U81 (ne_k g1 g0 (by decide))).trans ev51
      refine q_getI E hC81 g1 fa_RX7_52 dX7_comesTo_38 (fun v83 ev83 _ _ => ?_)
      have qv83 := e84.symm.trans ev83; subst qv83
      refine q_put E hC81 hS81 g0 fp_RX7_49 tv_F rfl rfl dX7_comesTo_41 (fun H85 locs85 hC85 hS85 U85 => ?_)
      have hKp85 := Kp.upO E g0 fp_RX7_49 rfl U85 hKp81
      have e86 := up_I U85
      refine lv_iconst (v := 0) hx hb dX7_comesTo_44 rfl ?_
      refine lv_istore_n hx hb dX7_comesTo_45 rfl hl (by decide) rfl (fun ls hl => ?_)
      replace hl : lv_has ls 5 [(3, .int 0), (2, .int 1), (0, .ref h0), (1, .ref h1)] := hl
      have L46 : ∀ (n89 : Nat) (H89 : Heap) (locs89 : List Loc) (v87 : Int32) (z87 : Int) (v88 : Int32) (z88 : Int) (ls : Array Slot), (36 - z87).toNat < n89 → v87.toInt = z87 → v88.toInt = z88 → z87 ≤ 36 → 0 ≤ z87 → 0 ≤ z88 → z88 ≤ 1 → Conf X Γ H89 → va_S (AΓ Γ) H0 H89 locs89 → Kp X Γ [0, 2, 3, 4, 5, 18, 21, 23, 25, 27] H0 H89 → lv_has ls 5 [(3, .int v87), (2, .int v88), (0, .ref h0), (1, .ref h1)] → W p l e (rmL 1) s m args below meth c H89 locs89 0 0 Qz (F0 m 46 ls []) := by
        intro n89
        induction n89 with
        | zero => intro H89 locs89 v87 z87 v88 z88 ls hm89 ev87 ev88 iv89_0 iv89_1 iv89_2 iv89_3 hC89 hS89 hKp89 hl; exact absurd hm89 (Nat.not_lt_zero _)
        | succ n89 ih89 =>
          intro H89 locs89 v87 z87 v88 z88 ls hm89 ev87 ev88 iv89_0 iv89_1 iv89_2 iv89_3 hC89 hS89 hKp89 hl
          refine lv_iload_n hx hb dX7_comesTo_46 rfl (lv_at hl 0 rfl) ?_
          refine lv_bipush (v := 36) hx hb dX7_comesTo_47 rfl ?_
          refine q_icmp_ge hx hb (a := z87) (b := 36) ev87 (by decide) (tgt := 92) dX7_comesTo_49 rfl (fun c90 => ?_) (fun c90 => ?_)
          · refine lv_iload_n hx hb dX7_comesTo_92 rfl (lv_at hl 1 rfl) ?_
            exact ret v88 H89 locs89 _ _ dX7_comesTo_93 (z01 ev88 (by omega) (by omega)) ⟨hKp89, z01 ev88 (by omega) (by omega)⟩ hC89 hS89
          · refine lv_aload_n hx hb dX7_comesTo_52 rfl (lv_at hl 3 rfl) ?_
            refine lv_iload_n hx hb dX7_comesTo_53 rfl (lv_at hl 0 rfl) ?_
            refine q_goIp (q_runV (As := [.int v87]) (rest := []) E hC89 hS89 (m_X9_topOf l X Γ H89 hC89 h1 g1 v87 (a1 := z87) ev87) cw_X9_topOf cl_RX7_53 g1 ⟨rfl, rfl⟩ rfl hl.1 rfl (Nat.zero_le _) (by decide) dX7_comesTo_54) hS89 (fun v91 locs91 hr91 hS91 => ?_)
            refine lv_istore hx hb dX7_comesTo_57 hl (by decide) rfl (fun ls hl => ?_)
            replace hl : lv_has ls 5 [(4, .int v91), (3, .int v87), (2, .int v88), (0, .ref h0), (1, .ref h1)] := hl
            refine lv_iload_n hx hb dX7_comesTo_59 rfl (lv_at hl 2 rfl) ?_
            refine lv_aload_n hx hb dX7_comesTo_60 rfl (lv_at hl 3 rfl) ?_
            refine q_getR E hC89 g0 fa_RX7_15 dX7_comesTo_61 (fun q92 eq92 gq92 => ?_)
            refine lv_iload_n hx hb dX7_comesTo_64 rfl (lv_at hl 1 rfl) ?_
            refine q_iald E hC89 gq92 rfl rfl (fun _ h => h) (i_in (a := z87) ev87 (by omega) (by omega)) dX7_comesTo_65 (fun v93 ev93 _ _ => ?_)
            refine lv_iload hx hb dX7_comesTo_66 (lv_at hl 0 rfl) ?_
            have c94 := i_rng v93; rw [show v93.toInt = v93.toInt from rfl] at c94
            have c95 := i_rng v91; rw [show v91.toInt = v91.toInt from rfl] at c95
            refine q_icmp_eq hx hb (a := v93.toInt) (b := v91.toInt) rfl rfl (tgt := 75) dX7_comesTo_68 rfl (fun c96 => ?_) (fun c96 => ?_)
            · refine lv_iconst (v := 0) hx hb dX7_comesTo_75 rfl ?_
              refine lv_ior hx hb dX7_comesTo_76 (lv_topi (fun v97 ev97 => ?_))
              have bv97 := i_or01 ev97 ev88 (show (0 : Int32).toInt = 0 from by decide) (by omega) (by omega) (by omega) (by omega)
              refine lv_istore_n hx hb dX7_comesTo_77 rfl hl (by decide) rfl (fun ls hl => ?_)
              replace hl : lv_has ls 5 [(2, .int v97), (4, .int v91), (3, .int v87), (0, .ref h0), (1, .ref h1)] := hl
              refine lv_aload_n hx hb dX7_comesTo_78 rfl (lv_at hl 3 rfl) ?_
              refine q_getR E hC89 g0 fa_RX7_15 dX7_comesTo_79 (fun q98 eq98 gq98 => ?_)
              refine lv_iload_n hx hb dX7_comesTo_82 rfl (lv_at hl 2 rfl) ?_
              refine lv_iload hx hb dX7_comesTo_83 (lv_at hl 1 rfl) ?_
              refine q_iast E hC89 hS91 gq98 (by decide) rfl rfl (i_in (a := z87) ev87 (by omega) (by omega)) tv_F dX7_comesTo_85 (fun H99 locs99 hC99 hS99 U99 => ?_)
              have hKp99 := Kp.upA gq98 rfl (by decide) rfl U99 hKp89
              obtain ⟨v100, ev100⟩ : ∃ z, z = v87 + Int32.ofInt 1 := ⟨_, rfl⟩
              have ev100i : v100.toInt = (z87 + 1) := i_add ev100 ev87 (by decide) (by omega) (by omega)
              refine lv_iinc hx hb dX7_comesTo_86 hl (k := 2) rfl ev100.symm (by decide) rfl (fun ls hl => ?_)
              replace hl : lv_has ls 5 [(3, .int v100), (2, .int v97), (4, .int v91), (0, .ref h0), (1, .ref h1)] := hl
              refine lv_goto (tgt := 46) hx hb dX7_comesTo_89 rfl ?_
              exact ih89 H99 locs99 v100 ((z87 + 1)) v97 (v97.toInt) ls (by omega) ev100i rfl (by omega) (by omega) (by omega) (by omega) hC99 hS99 hKp99 (lv_sub hl [0, 1, 3, 4] rfl)
            · refine lv_iconst (v := 1) hx hb dX7_comesTo_71 rfl ?_
              refine lv_goto (tgt := 76) hx hb dX7_comesTo_72 rfl ?_
              refine lv_ior hx hb dX7_comesTo_76 (lv_topi (fun v101 ev101 => ?_))
              have bv101 := i_or01 ev101 ev88 (show (1 : Int32).toInt = 1 from by decide) (by omega) (by omega) (by omega) (by omega)
              refine lv_istore_n hx hb dX7_comesTo_77 rfl hl (by decide) rfl (fun ls hl => ?_)
              replace hl : lv_has ls 5 [(2, .int v101), (4, .int v91), (3, .int v87), (0, .ref h0), (1, .ref h1)] := hl
              refine lv_aload_n hx hb dX7_comesTo_78 rfl (lv_at hl 3 rfl) ?_
              refine q_getR E hC89 g0 fa_RX7_15 dX7_comesTo_79 (fun q102 eq102 gq102 => ?_)
              refine lv_iload_n hx hb dX7_comesTo_82 rfl (lv_at hl 2 rfl) ?_
              refine lv_iload hx hb dX7_comesTo_83 (lv_at hl 1 rfl) ?_
              refine q_iast E hC89 hS91 gq102 (by decide) rfl rfl (i_in (a := z87) ev87 (by omega) (by omega)) tv_F dX7_comesTo_85 (fun H103 locs103 hC103 hS103 U103 => ?_)
              have hKp103 := Kp.upA gq102 rfl (by decide) rfl U103 hKp89
              obtain ⟨v104, ev104⟩ : ∃ z, z = v87 + Int32.ofInt 1 := ⟨_, rfl⟩
              have ev104i : v104.toInt = (z87 + 1) := i_add ev104 ev87 (by decide) (by omega) (by omega)
              refine lv_iinc hx hb dX7_comesTo_86 hl (k := 2) rfl ev104.symm (by decide) rfl (fun ls hl => ?_)
              replace hl : lv_has ls 5 [(3, .int v104), (2, .int v101), (4, .int v91), (0, .ref h0), (1, .ref h1)] := hl
              refine lv_goto (tgt := 46) hx hb dX7_comesTo_89 rfl ?_
              exact ih89 H103 locs103 v104 ((z87 + 1)) v101 (v101.toInt) ls (by omega) ev104i rfl (by omega) (by omega) (by omega) (by omega) hC103 hS103 hKp103 (lv_sub hl [0, 1, 3, 4] rfl)
      exact L46 _ H85 locs85 0 0 1 1 ls (Nat.lt_succ_self _) (by decide) (by decide) (by omega) (by omega) (by omega) (by omega) hC85 hS85 hKp85 hl
set_option maxRecDepth 100000 in
set_option maxHeartbeats 4000000 in
theorem m_X7_costOfStep (l : Launch) (X : xW) (Γ : Nat → Option Nat) (H0 : Heap) (hC0 : Conf X Γ H0) (p0 : Int32) {a0 : Int} (e0 : p0.toInt = a0) (p1 : Int32) {a1 : Int} (e1 : p1.toInt = a1) : Ctr l X Γ yX7_costOfStep cX7_costOfStep 2 (some .int) 0 [.int p0, .int p1] H0 (QI X Γ (fun v H1 => H1 = H0 ∧ (True))) := by
  refine q_enterI (own := "SnowForts$Walk") (by decide) rfl (Nat.le_of_ble_eq_true rfl) ?_
  intro p e s m args below meth c ls Qz E hl ret hS0
  have hx := E.1; have hb := E.2.1
  have hl : lv_has ls 2 [(0, .int p0), (1, .int p1)] := hl
  refine lv_iload_n hx hb dX7_costOfStep_0 rfl (lv_at hl 1 rfl) ?_
  refine lv_iload_n hx hb dX7_costOfStep_1 rfl (lv_at hl 0 rfl) ?_
  have c21 := i_rng p1; rw [show p1.toInt = a1 from e1] at c21
  have c22 := i_rng p0; rw [show p0.toInt = a0 from e0] at c22
  refine q_icmp_le hx hb (a := a1) (b := a0) e1 e0 (tgt := 9) dX7_costOfStep_2 rfl (fun c23 => ?_) (fun c23 => ?_)
  · refine lv_iload_n hx hb dX7_costOfStep_9 rfl (lv_at hl 0 rfl) ?_
    refine lv_iload_n hx hb dX7_costOfStep_10 rfl (lv_at hl 1 rfl) ?_
    refine lv_isub hx hb dX7_costOfStep_11 (lv_topi (fun v24 ev24 => ?_))
    refine lv_iconst (v := 3) hx hb dX7_costOfStep_12 rfl ?_
    refine q_icmp_le hx hb (a := v24.toInt) (b := 3) rfl (by decide) (tgt := 20) dX7_costOfStep_13 rfl (fun c25 => ?_) (fun c25 => ?_)
    · refine lv_iconst (v := 0) hx hb dX7_costOfStep_20 rfl ?_
      exact ret 0 H0 [] _ _ dX7_costOfStep_21 ⟨rfl, trivial⟩ hC0 hS0
    · refine lv_iconst (v := 2) hx hb dX7_costOfStep_16 rfl ?_
      refine lv_goto (tgt := 21) hx hb dX7_costOfStep_17 rfl ?_
      exact ret 2 H0 [] _ _ dX7_costOfStep_21 ⟨rfl, trivial⟩ hC0 hS0
  · refine lv_iload_n hx hb dX7_costOfStep_5 rfl (lv_at hl 1 rfl) ?_
    refine lv_iload_n hx hb dX7_costOfStep_6 rfl (lv_at hl 0 rfl) ?_
    refine lv_isub hx hb dX7_costOfStep_7 (lv_topi (fun v26 ev26 => ?_))
    exact ret v26 H0 [] _ _ dX7_costOfStep_8 ⟨rfl, trivial⟩ hC0 hS0
set_option maxRecDepth 100000 in
set_option maxHeartbeats 4000000 in
theorem m_X7_weightBy (l : Launch) (X : xW) (Γ : Nat → Option Nat) (H0 : Heap) (hC0 : Conf X Γ H0) (h0 : Nat) (g0 : Γ h0 = some 7) (p1 : Int32) {a1 : Int} (e1 : p1.toInt = a1) (p2 : Int32) {a2 : Int} (e2 : p2.toInt = a2) : Ctr l X Γ yX7_weightBy cX7_weightBy 3 (some .int) 1 [.ref h0, .int p1, .int p2] H0 (QI X Γ (fun v H1 => H1 = H0 ∧ (True))) := by
  refine q_enterI (own := "SnowForts$Walk") (by decide) rfl (Nat.le_of_ble_eq_true rfl) ?_
  intro p e s m args below meth c ls Qz E hl ret hS0
  have hx := E.1; have hb := E.2.1
  have hl : lv_has ls 3 [(0, .ref h0), (1, .int p1), (2, .int p2)] := hl
  refine lv_iload_n hx hb dX7_weightBy_0 rfl (lv_at hl 1 rfl) ?_
  refine q_if_lt hx hb (a := a1) e1 (tgt := 20) dX7_weightBy_1 rfl (fun c21 => ?_) (fun c21 => ?_)
  · refine lv_ldc (v := 268435456) hx hb E.2.2.2.1 (E.2.2.2.2.1 _ w_1079) dX7_weightBy_20 ?_
    exact ret 268435456 H0 [] _ _ dX7_weightBy_22 ⟨rfl, trivial⟩ hC0 hS0
  · refine lv_iload_n hx hb dX7_weightBy_4 rfl (lv_at hl 1 rfl) ?_
    refine lv_bipush (v := 36) hx hb dX7_weightBy_5 rfl ?_
    refine q_icmp_ge hx hb (a := a1) (b := 36) e1 (by decide) (tgt := 20) dX7_weightBy_7 rfl (fun c22 => ?_) (fun c22 => ?_)
    · refine lv_ldc (v := 268435456) hx hb E.2.2.2.1 (E.2.2.2.2.1 _ w_1079) dX7_weightBy_20 ?_
      exact ret 268435456 H0 [] _ _ dX7_weightBy_22 ⟨rfl, trivial⟩ hC0 hS0
    · refine lv_iload_n hx hb dX7_weightBy_10 rfl (lv_at hl 2 rfl) ?_
      refine q_if_lt hx hb (a := a2) e2 (tgt := 20) dX7_weightBy_11 rfl (fun c23 => ?_) (fun c23 => ?_)
      · refine lv_ldc (v := 268435456) hx hb E.2.2.2.1 (E.2.2.2.2.1 _ w_1079) dX7_weightBy_20 ?_
        exact ret 268435456 H0 [] _ _ dX7_weightBy_22 ⟨rfl, trivial⟩ hC0 hS0
      · refine lv_iload_n hx hb dX7_weightBy_14 rfl (lv_at hl 2 rfl) ?_
        refine lv_bipush (v := 36) hx hb dX7_weightBy_15 rfl ?_
        refine q_icmp_lt hx hb (a := a2) (b := 36) e2 (by decide) (tgt := 23) dX7_weightBy_17 rfl (fun c24 => ?_) (fun c24 => ?_)
        · refine lv_aload_n hx hb dX7_weightBy_23 rfl (lv_at hl 0 rfl) ?_
          refine q_getR E hC0 g0 fa_RX7_15 dX7_weightBy_24 (fun q25 eq25 gq25 => ?_)
          refine lv_iload_n hx hb dX7_weightBy_27 rfl (lv_at hl 1 rfl) ?_
          refine q_iald E hC0 gq25 rfl rfl (fun _ h => h) (i_in (a := a1) e1 (by omega) (by omega)) dX7_weightBy_28 (fun v26 ev26 _ _ => ?_)
          refine lv_aload_n hx hb dX7_weightBy_29 rfl (lv_at hl 0 rfl) ?_
          refine q_getR E hC0 g0 fa_RX7_15 dX7_weightBy_30 (fun q27 eq27 gq27 => ?_)
          refine lv_iload_n hx hb dX7_weightBy_33 rfl (lv_at hl 2 rfl) ?_
          refine q_iald E hC0 gq27 rfl rfl (fun _ h => h) (i_in (a := a2) e2 (by omega) (by omega)) dX7_weightBy_34 (fun v28 ev28 _ _ => ?_)
          refine q_goIp (q_runS (As := [.int v26, .int v28]) (rest := []) E hS0 (m_X7_costOfStep l X Γ H0 hC0 v26 (a0 := v26.toInt) rfl v28 (a1 := v28.toInt) rfl) cw_X7_costOfStep cl_RX7_57 rfl hl.1 rfl (Nat.zero_le _) (by decide) dX7_weightBy_35) hS0 (fun v29 locs29 hr29 hS29 => ?_)
          refine lv_bipush (v := 64) hx hb dX7_weightBy_38 rfl ?_
          refine lv_imul hx hb dX7_weightBy_40 (lv_topi (fun v30 ev30 => ?_))
          refine lv_aload_n hx hb dX7_weightBy_41 rfl (lv_at hl 0 rfl) ?_
          refine q_getR E hC0 g0 fa_RX7_18 dX7_weightBy_42 (fun q31 eq31 gq31 => ?_)
          refine lv_iload_n hx hb dX7_weightBy_45 rfl (lv_at hl 2 rfl) ?_
          refine q_iald E hC0 gq31 rfl rfl (fun _ h => h) (i_in (a := a2) e2 (by omega) (by omega)) dX7_weightBy_46 (fun v32 ev32 _ _ => ?_)
          refine lv_iadd hx hb dX7_weightBy_47 (lv_topi (fun v33 ev33 => ?_))
          exact ret v33 H0 locs29 _ _ dX7_weightBy_48 ⟨rfl, trivial⟩ hC0 hS29
        · refine lv_ldc (v := 268435456) hx hb E.2.2.2.1 (E.2.2.2.2.1 _ w_1079) dX7_weightBy_20 ?_
          exact ret 268435456 H0 [] _ _ dX7_weightBy_22 ⟨rfl, trivial⟩ hC0 hS0
set_option maxRecDepth 100000 in
set_option maxHeartbeats 4000000 in
theorem m_X7_weightFrom (l : Launch) (X : xW) (Γ : Nat → Option Nat) (H0 : Heap) (hC0 : Conf X Γ H0) (h0 : Nat) (g0 : Γ h0 = some 7) (h1 : Nat) (g1 : Γ h1 = some 5) (p2 : Int32) {a2 : Int} (e2 : p2.toInt = a2) (r0 : 0 ≤ a2) (r1 : a2 ≤ 35) : Ctr l X Γ yX7_weightFrom cX7_weightFrom 7 (some .int) 2 [.ref h0, .ref h1, .int p2] H0 (QI X Γ (fun v H1 => H1 = H0 ∧ (True))) := by
  refine q_enterI (own := "SnowForts$Walk") (by decide) rfl (Nat.le_of_ble_eq_true rfl) ?_
  intro p e s m args below meth c ls Qz E hl ret hS0
  have hx := E.1; have hb := E.2.1
  have hl : lv_has ls 7 [(0, .ref h0), (1, .ref h1), (2, .int p2)] := hl
  refine lv_iload_n hx hb dX7_weightFrom_0 rfl (lv_at hl 2 rfl) ?_
  refine lv_bipush (v := 6) hx hb dX7_weightFrom_1 rfl ?_
  refine lv_irem hx hb dX7_weightFrom_3 (by decide) (lv_topi (fun v21 ev21 => ?_))
  have ev21i : v21.toInt = (a2 % 6) := i_rem ev21 e2 (by decide) (by omega) (by decide)
  refine lv_istore_n hx hb dX7_weightFrom_4 rfl hl (by decide) rfl (fun ls hl => ?_)
  replace hl : lv_has ls 7 [(3, .int v21), (0, .ref h0), (1, .ref h1), (2, .int p2)] := hl
  refine lv_iload_n hx hb dX7_weightFrom_5 rfl (lv_at hl 3 rfl) ?_
  refine lv_bipush (v := 6) hx hb dX7_weightFrom_6 rfl ?_
  refine lv_idiv hx hb dX7_weightFrom_8 (by decide) (lv_topi (fun v22 ev22 => ?_))
  have ev22i : v22.toInt = (a2 / 6) := i_div ev22 e2 (by decide) (by omega) (by decide)
  refine lv_istore hx hb dX7_weightFrom_9 hl (by decide) rfl (fun ls hl => ?_)
  replace hl : lv_has ls 7 [(4, .int v22), (3, .int v21), (0, .ref h0), (1, .ref h1), (2, .int p2)] := hl
  refine lv_aload_n hx hb dX7_weightFrom_11 rfl (lv_at hl 3 rfl) ?_
  refine lv_iload_n hx hb dX7_weightFrom_12 rfl (lv_at hl 1 rfl) ?_
  refine lv_iload hx hb dX7_weightFrom_13 (lv_at hl 0 rfl) ?_
  refine q_goIp (q_runV (As := [.int v21, .int v22]) (rest := []) E hC0 hS0 (m_X9_isCell l X Γ H0 hC0 h1 g1 v21 (a1 := (a2 % 6)) ev21i v22 (a2 := (a2 / 6)) ev22i) cw_X9_isCell cl_RX7_64 g1 ⟨rfl, rfl⟩ rfl hl.1 rfl (Nat.zero_le _) (by decide) dX7_weightFrom_15) hS0 (fun v23 locs23 hr23 hS23 => ?_)
  rcases hr23 with ⟨rfl, f23a0, f23a1, f23a2, f23a3⟩ | ⟨rfl, -⟩
  · refine q_if_ne hx hb (a := 1) (by decide) (tgt := 24) dX7_weightFrom_18 rfl (fun c24 => ?_) (fun c24 => absurd c24 (by omega))
    refine lv_iload_n hx hb dX7_weightFrom_24 rfl (lv_at hl 1 rfl) ?_
    refine lv_aload_n hx hb dX7_weightFrom_25 rfl (lv_at hl 3 rfl) ?_
    refine q_getI E hC0 g1 fa_RX7_46 dX7_weightFrom_26 (fun v25 ev25 _ _ => ?_)
    refine lv_iconst (v := 1) hx hb dX7_weightFrom_29 rfl ?_
    refine lv_isub hx hb dX7_weightFrom_30 (lv_topi (fun v26 ev26 => ?_))
    have c27 := i_rng v26; rw [show v26.toInt = v26.toInt from rfl] at c27
    refine q_icmp_ne hx hb (a := (a2 % 6)) (b := v26.toInt) ev21i rfl (tgt := 50) dX7_weightFrom_31 rfl (fun c28 => ?_) (fun c28 => ?_)
    · refine lv_ldc (v := 268435456) hx hb E.2.2.2.1 (E.2.2.2.2.1 _ w_1079) dX7_weightFrom_50 ?_
      refine lv_istore hx hb dX7_weightFrom_52 hl (by decide) rfl (fun ls hl => ?_)
      replace hl : lv_has ls 7 [(5, .int 268435456), (4, .int v22), (3, .int v21), (0, .ref h0), (1, .ref h1), (2, .int p2)] := hl
      refine lv_iconst (v := 0) hx hb dX7_weightFrom_54 rfl ?_
      refine lv_istore hx hb dX7_weightFrom_55 hl (by decide) rfl (fun ls hl => ?_)
      replace hl : lv_has ls 7 [(6, .int 0), (5, .int 268435456), (4, .int v22), (3, .int v21), (0, .ref h0), (1, .ref h1), (2, .int p2)] := hl
      have L57 : ∀ (n31 : Nat) (locs31 : List Loc) (v29 : Int32) (z29 : Int) (v30 : Int32) (z30 : Int) (ls : Array Slot), (4 - z29).toNat < n31 → v29.toInt = z29 → v30.toInt = z30 → z29 ≤ 4 → 0 ≤ z29 → va_S (AΓ Γ) H0 H0 locs31 → lv_has ls 7 [(6, .int v29), (5, .int v30), (4, .int v22), (3, .int v21), (0, .ref h0), (1, .ref h1), (2, .int p2)] → W p l e (rmL 2) s m args below meth c H0 locs31 0 0 Qz (F0 m 57 ls []) := by
        intro n31
        induction n31 with
        | zero => intro locs31 v29 z29 v30 z30 ls hm31 ev29 ev30 iv31_0 iv31_1 hS31 hl; exact absurd hm31 (Nat.not_lt_zero _)
        | succ n31 ih31 =>
          intro locs31 v29 z29 v30 z30 ls hm31 ev29 ev30 iv31_0 iv31_1 hS31 hl
          refine lv_iload hx hb dX7_weightFrom_57 (lv_at hl 0 rfl) ?_
          refine lv_iconst (v := 4) hx hb dX7_weightFrom_59 rfl ?_
          refine q_icmp_ge hx hb (a := z29) (b := 4) ev29 (by decide) (tgt := 123) dX7_weightFrom_60 rfl (fun c32 => ?_) (fun c32 => ?_)
          · refine lv_iload hx hb dX7_weightFrom_123 (lv_at hl 1 rfl) ?_
            refine lv_iconst (v := 1) hx hb dX7_weightFrom_125 rfl ?_
            refine lv_iadd hx hb dX7_weightFrom_126 (lv_topi (fun v33 ev33 => ?_))
            exact ret v33 H0 locs31 _ _ dX7_weightFrom_127 ⟨rfl, trivial⟩ hC0 hS31
          · refine lv_aload_n hx hb dX7_weightFrom_63 rfl (lv_at hl 5 rfl) ?_
            refine lv_iload_n hx hb dX7_weightFrom_64 rfl (lv_at hl 3 rfl) ?_
            refine q_stRIGHT E hS31 w_1089 dX7_weightFrom_65 (fun q34 tq34 => ?_)
            refine lv_iload hx hb dX7_weightFrom_68 (lv_at hl 0 rfl) ?_
            refine q_ldRIGHT E hS31 tq34 (a := z29) ev29 (by omega) (by omega) dX7_weightFrom_70 (fun v35 lv35 uv35 => ?_)
            refine lv_iadd hx hb dX7_weightFrom_71 (lv_topi (fun v36 ev36 => ?_))
            have ev36i : v36.toInt = ((a2 % 6) + v35.toInt) := i_add ev36 ev21i rfl (by omega) (by omega)
            refine lv_iload hx hb dX7_weightFrom_72 (lv_at hl 2 rfl) ?_
            refine q_stDOWN E hS31 w_1091 dX7_weightFrom_74 (fun q37 tq37 => ?_)
            refine lv_iload hx hb dX7_weightFrom_77 (lv_at hl 0 rfl) ?_
            refine q_ldDOWN E hS31 tq37 (a := z29) ev29 (by omega) (by omega) dX7_weightFrom_79 (fun v38 lv38 uv38 => ?_)
            refine lv_iadd hx hb dX7_weightFrom_80 (lv_topi (fun v39 ev39 => ?_))
            have ev39i : v39.toInt = ((a2 / 6) + v38.toInt) := i_add ev39 ev22i rfl (by omega) (by omega)
            refine q_goIp (q_runV (As := [.int v36, .int v39]) (rest := []) E hC0 hS31 (m_X9_isCell l X Γ H0 hC0 h1 g1 v36 (a1 := ((a2 % 6) + v35.toInt)) ev36i v39 (a2 := ((a2 / 6) + v38.toInt)) ev39i) cw_X9_isCell cl_RX7_64 g1 ⟨rfl, rfl⟩ rfl hl.1 rfl (Nat.zero_le _) (by decide) dX7_weightFrom_81) hS31 (fun v40 locs40 hr40 hS40 => ?_)
            rcases hr40 with ⟨rfl, f40a0, f40a1, f40a2, f40a3⟩ | ⟨rfl, -⟩
            · refine q_if_eq hx hb (a := 1) (by decide) (tgt := 117) dX7_weightFrom_84 rfl (fun c41 => absurd c41 (by omega)) (fun c41 => ?_)
              refine lv_iload hx hb dX7_weightFrom_87 (lv_at hl 1 rfl) ?_
              refine lv_aload_n hx hb dX7_weightFrom_89 rfl (lv_at hl 4 rfl) ?_
              refine lv_iload_n hx hb dX7_weightFrom_90 rfl (lv_at hl 6 rfl) ?_
              refine lv_iload_n hx hb dX7_weightFrom_91 rfl (lv_at hl 6 rfl) ?_
              refine q_stRIGHT E hS40 w_1089 dX7_weightFrom_92 (fun q42 tq42 => ?_)
              refine lv_iload hx hb dX7_weightFrom_95 (lv_at hl 0 rfl) ?_
              refine q_ldRIGHT E hS40 tq42 (a := z29) ev29 (by omega) (by omega) dX7_weightFrom_97 (fun v43 lv43 uv43 => ?_)
              refine lv_iadd hx hb dX7_weightFrom_98 (lv_topi (fun v44 ev44 => ?_))
              have ev44i : v44.toInt = (a2 + v43.toInt) := i_add ev44 e2 rfl (by omega) (by omega)
              refine q_stDOWN E hS40 w_1091 dX7_weightFrom_99 (fun q45 tq45 => ?_)
              refine lv_iload hx hb dX7_weightFrom_102 (lv_at hl 0 rfl) ?_
              refine q_ldDOWN E hS40 tq45 (a := z29) ev29 (by omega) (by omega) dX7_weightFrom_104 (fun v46 lv46 uv46 => ?_)
              refine lv_bipush (v := 6) hx hb dX7_weightFrom_105 rfl ?_
              refine lv_imul hx hb dX7_weightFrom_107 (lv_topi (fun v47 ev47 => ?_))
              have ev47i : v47.toInt = (v46.toInt * 6) := i_mul ev47 rfl (by decide) (by omega) (by omega)
              refine lv_iadd hx hb dX7_weightFrom_108 (lv_topi (fun v48 ev48 => ?_))
              have ev48i : v48.toInt = ((a2 + v43.toInt) + (v46.toInt * 6)) := i_add ev48 ev44i ev47i (by omega) (by omega)
              refine q_goIp (q_runV (As := [.int p2, .int v48]) (rest := [.int v30]) E hC0 hS40 (m_X7_weightBy l X Γ H0 hC0 h0 g0 p2 (a1 := a2) e2 v48 (a2 := ((a2 + v43.toInt) + (v46.toInt * 6))) ev48i) cw_X7_weightBy cl_RX7_74 g0 ⟨rfl, rfl⟩ rfl hl.1 rfl (show _ ≤ _ from by simp [Value.category]) (by decide) dX7_weightFrom_109) hS40 (fun v49 locs49 hr49 hS49 => ?_)
              refine q_mmin E hl.1 w_1097 mathw_min (a := z30) (b := v49.toInt) ev30 rfl (by decide) (Nat.zero_le _) dX7_weightFrom_112 (fun v50 mv50a mv50b mv50c => ?_)
              refine lv_istore hx hb dX7_weightFrom_115 hl (by decide) rfl (fun ls hl => ?_)
              replace hl : lv_has ls 7 [(5, .int v50), (6, .int v29), (4, .int v22), (3, .int v21), (0, .ref h0), (1, .ref h1), (2, .int p2)] := hl
              obtain ⟨v51, ev51⟩ : ∃ z, z = v29 + Int32.ofInt 1 := ⟨_, rfl⟩
              have ev51i : v51.toInt = (z29 + 1) := i_add ev51 ev29 (by decide) (by omega) (by omega)
              refine lv_iinc hx hb dX7_weightFrom_117 hl (k := 1) rfl ev51.symm (by decide) rfl (fun ls hl => ?_)
              replace hl : lv_has ls 7 [(6, .int v51), (5, .int v50), (4, .int v22), (3, .int v21), (0, .ref h0), (1, .ref h1), (2, .int p2)] := hl
              refine lv_goto (tgt := 57) hx hb dX7_weightFrom_120 rfl ?_
              exact ih31 locs49 v51 ((z29 + 1)) v50 (v50.toInt) ls (by omega) ev51i rfl (by omega) (by omega) hS49 hl
            · refine q_if_eq hx hb (a := 0) (by decide) (tgt := 117) dX7_weightFrom_84 rfl (fun c52 => ?_) (fun c52 => absurd c52 (by omega))
              obtain ⟨v53, ev53⟩ : ∃ z, z = v29 + Int32.ofInt 1 := ⟨_, rfl⟩
              have ev53i : v53.toInt = (z29 + 1) := i_add ev53 ev29 (by decide) (by omega) (by omega)
              refine lv_iinc hx hb dX7_weightFrom_117 hl (k := 0) rfl ev53.symm (by decide) rfl (fun ls hl => ?_)
              replace hl : lv_has ls 7 [(6, .int v53), (5, .int v30), (4, .int v22), (3, .int v21), (0, .ref h0), (1, .ref h1), (2, .int p2)] := hl
              refine lv_goto (tgt := 57) hx hb dX7_weightFrom_120 rfl ?_
              exact ih31 locs40 v53 ((z29 + 1)) v30 (z30) ls (by omega) ev53i ev30 (by omega) (by omega) hS40 hl
      exact L57 _ locs23 0 0 268435456 268435456 ls (Nat.lt_succ_self _) (by decide) (by decide) (by omega) (by omega) hS23 hl
    · refine lv_aload_n hx hb dX7_weightFrom_34 rfl (lv_at hl 2 rfl) ?_
      refine q_getR E hC0 g0 fa_RX7_15 dX7_weightFrom_35 (fun q54 eq54 gq54 => ?_)
      refine lv_iload_n hx hb dX7_weightFrom_38 rfl (lv_at hl 4 rfl) ?_
      refine q_iald E hC0 gq54 rfl rfl (fun _ h => h) (i_in (a := a2) e2 (by omega) (by omega)) dX7_weightFrom_39 (fun v55 ev55 _ _ => ?_)
      refine lv_iconst (v := 0) hx hb dX7_weightFrom_40 rfl ?_
      refine q_goIp (q_runS (As := [.int v55, .int 0]) (rest := []) E hS23 (m_X7_costOfStep l X Γ H0 hC0 v55 (a0 := v55.toInt) rfl 0 (a1 := 0) (by decide)) cw_X7_costOfStep cl_RX7_57 rfl hl.1 rfl (Nat.zero_le _) (by decide) dX7_weightFrom_41) hS23 (fun v56 locs56 hr56 hS56 => ?_)
      refine lv_bipush (v := 64) hx hb dX7_weightFrom_44 rfl ?_
      refine lv_imul hx hb dX7_weightFrom_46 (lv_topi (fun v57 ev57 => ?_))
      refine lv_goto (tgt := 52) hx hb dX7_weightFrom_47 rfl ?_
      refine lv_istore hx hb dX7_weightFrom_52 hl (by decide) rfl (fun ls hl => ?_)
      replace hl : lv_has ls 7 [(5, .int v57), (4, .int v22), (3, .int v21), (0, .ref h0), (1, .ref h1), (2, .int p2)] := hl
      refine lv_iconst (v := 0) hx hb dX7_weightFrom_54 rfl ?_
      refine lv_istore hx hb dX7_weightFrom_55 hl (by decide) rfl (fun ls hl => ?_)
      replace hl : lv_has ls 7 [(6, .int 0), (5, .int v57), (4, .int v22), (3, .int v21), (0, .ref h0), (1, .ref h1), (2, .int p2)] := hl
      have L57 : ∀ (n60 : Nat) (locs60 : List Loc) (v58 : Int32) (z58 : Int) (v59 : Int32) (z59 : Int) (ls : Array Slot), (4 - z58).toNat < n60 → v58.toInt = z58 → v59.toInt = z59 → z58 ≤ 4 → 0 ≤ z58 → va_S (AΓ Γ) H0 H0 locs60 → lv_has ls 7 [(6, .int v58), (5, .int v59), (4, .int v22), (3, .int v21), (0, .ref h0), (1, .ref h1), (2, .int p2)] → W p l e (rmL 2) s m args below meth c H0 locs60 0 0 Qz (F0 m 57 ls []) := by
        intro n60
        induction n60 with
        | zero => intro locs60 v58 z58 v59 z59 ls hm60 ev58 ev59 iv60_0 iv60_1 hS60 hl; exact absurd hm60 (Nat.not_lt_zero _)
        | succ n60 ih60 =>
          intro locs60 v58 z58 v59 z59 ls hm60 ev58 ev59 iv60_0 iv60_1 hS60 hl
          refine lv_iload hx hb dX7_weightFrom_57 (lv_at hl 0 rfl) ?_
          refine lv_iconst (v := 4) hx hb dX7_weightFrom_59 rfl ?_
          refine q_icmp_ge hx hb (a := z58) (b := 4) ev58 (by decide) (tgt := 123) dX7_weightFrom_60 rfl (fun c61 => ?_) (fun c61 => ?_)
          · refine lv_iload hx hb dX7_weightFrom_123 (lv_at hl 1 rfl) ?_
            refine lv_iconst (v := 1) hx hb dX7_weightFrom_125 rfl ?_
            refine lv_iadd hx hb dX7_weightFrom_126 (lv_topi (fun v62 ev62 => ?_))
            exact ret v62 H0 locs60 _ _ dX7_weightFrom_127 ⟨rfl, trivial⟩ hC0 hS60
          · refine lv_aload_n hx hb dX7_weightFrom_63 rfl (lv_at hl 5 rfl) ?_
            refine lv_iload_n hx hb dX7_weightFrom_64 rfl (lv_at hl 3 rfl) ?_
            refine q_stRIGHT E hS60 w_1089 dX7_weightFrom_65 (fun q63 tq63 => ?_)
            refine lv_iload hx hb dX7_weightFrom_68 (lv_at hl 0 rfl) ?_
            refine q_ldRIGHT E hS60 tq63 (a := z58) ev58 (by omega) (by omega) dX7_weightFrom_70 (fun v64 lv64 uv64 => ?_)
            refine lv_iadd hx hb dX7_weightFrom_71 (lv_topi (fun v65 ev65 => ?_))
            have ev65i : v65.toInt = ((a2 % 6) + v64.toInt) := i_add ev65 ev21i rfl (by omega) (by omega)
            refine lv_iload hx hb dX7_weightFrom_72 (lv_at hl 2 rfl) ?_
            refine q_stDOWN E hS60 w_1091 dX7_weightFrom_74 (fun q66 tq66 => ?_)
            refine lv_iload hx hb dX7_weightFrom_77 (lv_at hl 0 rfl) ?_
            refine q_ldDOWN E hS60 tq66 (a := z58) ev58 (by omega) (by omega) dX7_weightFrom_79 (fun v67 lv67 uv67 => ?_)
            refine lv_iadd hx hb dX7_weightFrom_80 (lv_topi (fun v68 ev68 => ?_))
            have ev68i : v68.toInt = ((a2 / 6) + v67.toInt) := i_add ev68 ev22i rfl (by omega) (by omega)
            refine q_goIp (q_runV (As := [.int v65, .int v68]) (rest := []) E hC0 hS60 (m_X9_isCell l X Γ H0 hC0 h1 g1 v65 (a1 := ((a2 % 6) + v64.toInt)) ev65i v68 (a2 := ((a2 / 6) + v67.toInt)) ev68i) cw_X9_isCell cl_RX7_64 g1 ⟨rfl, rfl⟩ rfl hl.1 rfl (Nat.zero_le _) (by decide) dX7_weightFrom_81) hS60 (fun v69 locs69 hr69 hS69 => ?_)
            rcases hr69 with ⟨rfl, f69a0, f69a1, f69a2, f69a3⟩ | ⟨rfl, -⟩
            · refine q_if_eq hx hb (a := 1) (by decide) (tgt := 117) dX7_weightFrom_84 rfl (fun c70 => absurd c70 (by omega)) (fun c70 => ?_)
              refine lv_iload hx hb dX7_weightFrom_87 (lv_at hl 1 rfl) ?_
              refine lv_aload_n hx hb dX7_weightFrom_89 rfl (lv_at hl 4 rfl) ?_
              refine lv_iload_n hx hb dX7_weightFrom_90 rfl (lv_at hl 6 rfl) ?_
              refine lv_iload_n hx hb dX7_weightFrom_91 rfl (lv_at hl 6 rfl) ?_
              refine q_stRIGHT E hS69 w_1089 dX7_weightFrom_92 (fun q71 tq71 => ?_)
              refine lv_iload hx hb dX7_weightFrom_95 (lv_at hl 0 rfl) ?_
              refine q_ldRIGHT E hS69 tq71 (a := z58) ev58 (by omega) (by omega) dX7_weightFrom_97 (fun v72 lv72 uv72 => ?_)
              refine lv_iadd hx hb dX7_weightFrom_98 (lv_topi (fun v73 ev73 => ?_))
              have ev73i : v73.toInt = (a2 + v72.toInt) := i_add ev73 e2 rfl (by omega) (by omega)
              refine q_stDOWN E hS69 w_1091 dX7_weightFrom_99 (fun q74 tq74 => ?_)
              refine lv_iload hx hb dX7_weightFrom_102 (lv_at hl 0 rfl) ?_
              refine q_ldDOWN E hS69 tq74 (a := z58) ev58 (by omega) (by omega) dX7_weightFrom_104 (fun v75 lv75 uv75 => ?_)
              refine lv_bipush (v := 6) hx hb dX7_weightFrom_105 rfl ?_
              refine lv_imul hx hb dX7_weightFrom_107 (lv_topi (fun v76 ev76 => ?_))
              have ev76i : v76.toInt = (v75.toInt * 6) := i_mul ev76 rfl (by decide) (by omega) (by omega)
              refine lv_iadd hx hb dX7_weightFrom_108 (lv_topi (fun v77 ev77 => ?_))
              have ev77i : v77.toInt = ((a2 + v72.toInt) + (v75.toInt * 6)) := i_add ev77 ev73i ev76i (by omega) (by omega)
              refine q_goIp (q_runV (As := [.int p2, .int v77]) (rest := [.int v59]) E hC0 hS69 (m_X7_weightBy l X Γ H0 hC0 h0 g0 p2 (a1 := a2) e2 v77 (a2 := ((a2 + v72.toInt) + (v75.toInt * 6))) ev77i) cw_X7_weightBy cl_RX7_74 g0 ⟨rfl, rfl⟩ rfl hl.1 rfl (show _ ≤ _ from by simp [Value.category]) (by decide) dX7_weightFrom_109) hS69 (fun v78 locs78 hr78 hS78 => ?_)
              refine q_mmin E hl.1 w_1097 mathw_min (a := z59) (b := v78.toInt) ev59 rfl (by decide) (Nat.zero_le _) dX7_weightFrom_112 (fun v79 mv79a mv79b mv79c => ?_)
              refine lv_istore hx hb dX7_weightFrom_115 hl (by decide) rfl (fun ls hl => ?_)
              replace hl : lv_has ls 7 [(5, .int v79), (6, .int v58), (4, .int v22), (3, .int v21), (0, .ref h0), (1, .ref h1), (2, .int p2)] := hl
              obtain ⟨v80, ev80⟩ : ∃ z, z = v58 + Int32.ofInt 1 := ⟨_, rfl⟩
              have ev80i : v80.toInt = (z58 + 1) := i_add ev80 ev58 (by decide) (by omega) (by omega)
              refine lv_iinc hx hb dX7_weightFrom_117 hl (k := 1) rfl ev80.symm (by decide) rfl (fun ls hl => ?_)
              replace hl : lv_has ls 7 [(6, .int v80), (5, .int v79), (4, .int v22), (3, .int v21), (0, .ref h0), (1, .ref h1), (2, .int p2)] := hl
              refine lv_goto (tgt := 57) hx hb dX7_weightFrom_120 rfl ?_
              exact ih60 locs78 v80 ((z58 + 1)) v79 (v79.toInt) ls (by omega) ev80i rfl (by omega) (by omega) hS78 hl
            · refine q_if_eq hx hb (a := 0) (by decide) (tgt := 117) dX7_weightFrom_84 rfl (fun c81 => ?_) (fun c81 => absurd c81 (by omega))
              obtain ⟨v82, ev82⟩ : ∃ z, z = v58 + Int32.ofInt 1 := ⟨_, rfl⟩
              have ev82i : v82.toInt = (z58 + 1) := i_add ev82 ev58 (by decide) (by omega) (by omega)
              refine lv_iinc hx hb dX7_weightFrom_117 hl (k := 0) rfl ev82.symm (by decide) rfl (fun ls hl => ?_)
              replace hl : lv_has ls 7 [(6, .int v82), (5, .int v59), (4, .int v22), (3, .int v21), (0, .ref h0), (1, .ref h1), (2, .int p2)] := hl
              refine lv_goto (tgt := 57) hx hb dX7_weightFrom_120 rfl ?_
              exact ih60 locs69 v82 ((z58 + 1)) v59 (z59) ls (by omega) ev82i ev59 (by omega) (by omega) hS69 hl
      exact L57 _ locs56 0 0 v57 v57.toInt ls (Nat.lt_succ_self _) (by decide) rfl (by omega) (by omega) hS56 hl
  · refine q_if_ne hx hb (a := 0) (by decide) (tgt := 24) dX7_weightFrom_18 rfl (fun c83 => absurd c83 (by omega)) (fun c83 => ?_)
    refine lv_ldc (v := 268435456) hx hb E.2.2.2.1 (E.2.2.2.2.1 _ w_1079) dX7_weightFrom_21 ?_
    exact ret 268435456 H0 locs23 _ _ dX7_weightFrom_23 ⟨rfl, trivial⟩ hC0 hS23
set_option maxRecDepth 100000 in
set_option maxHeartbeats 4000000 in
theorem m_X7_begin (l : Launch) (X : xW) (Γ : Nat → Option Nat) (H0 : Heap) (hC0 : Conf X Γ H0) (h0 : Nat) (g0 : Γ h0 = some 7) : Ctr l X Γ yX7_begin cX7_begin 4 none 1 [.ref h0] H0 (QV X Γ (fun H1 => Kp X Γ [0, 2, 3, 4, 5, 18, 21, 23, 25, 27] H0 H1)) := by
  refine q_enterV (own := "SnowForts$Walk") (by decide) rfl (Nat.le_of_ble_eq_true rfl) ?_
  intro p e s m args below meth c ls Qz E hl ret hS0
  have hx := E.1; have hb := E.2.1
  have hKp0 : Kp X Γ [0, 2, 3, 4, 5, 18, 21, 23, 25, 27] H0 H0 := Kp.rf
  have hl : lv_has ls 4 [(0, .ref h0)] := hl
  refine lv_ldc (v := 268435456) hx hb E.2.2.2.1 (E.2.2.2.2.1 _ w_1079) dX7_begin_0 ?_
  refine lv_istore_n hx hb dX7_begin_2 rfl hl (by decide) rfl (fun ls hl => ?_)
  replace hl : lv_has ls 4 [(1, .int 268435456), (0, .ref h0)] := hl
  refine lv_iconst (v := 0) hx hb dX7_begin_3 rfl ?_
  refine lv_istore_n hx hb dX7_begin_4 rfl hl (by decide) rfl (fun ls hl => ?_)
  replace hl : lv_has ls 4 [(2, .int 0), (1, .int 268435456), (0, .ref h0)] := hl
  have L5 : ∀ (n23 : Nat) (H23 : Heap) (locs23 : List Loc) (v21 : Int32) (z21 : Int) (v22 : Int32) (z22 : Int) (ls : Array Slot), (36 - z21).toNat < n23 → v21.toInt = z21 → v22.toInt = z22 → z21 ≤ 41 → 0 ≤ z21 → Conf X Γ H23 → va_S (AΓ Γ) H0 H23 locs23 → Kp X Γ [0, 2, 3, 4, 5, 18, 21, 23, 25, 27] H0 H23 → lv_has ls 4 [(2, .int v21), (1, .int v22), (0, .ref h0)] → W p l e (rmL 1) s m args below meth c H23 locs23 0 0 Qz (F0 m 5 ls []) := by
    intro n23
    induction n23 with
    | zero => intro H23 locs23 v21 z21 v22 z22 ls hm23 ev21 ev22 iv23_0 iv23_1 hC23 hS23 hKp23 hl; exact absurd hm23 (Nat.not_lt_zero _)
    | succ n23 ih23 =>
      intro H23 locs23 v21 z21 v22 z22 ls hm23 ev21 ev22 iv23_0 iv23_1 hC23 hS23 hKp23 hl
      refine lv_iload_n hx hb dX7_begin_5 rfl (lv_at hl 0 rfl) ?_
      refine lv_bipush (v := 36) hx hb dX7_begin_6 rfl ?_
      refine q_icmp_ge hx hb (a := z21) (b := 36) ev21 (by decide) (tgt := 50) dX7_begin_8 rfl (fun c24 => ?_) (fun c24 => ?_)
      · refine lv_aload_n hx hb dX7_begin_50 rfl (lv_at hl 2 rfl) ?_
        refine lv_iload_n hx hb dX7_begin_51 rfl (lv_at hl 1 rfl) ?_
        refine lv_bipush (v := 64) hx hb dX7_begin_52 rfl ?_
        refine lv_idiv hx hb dX7_begin_54 (by decide) (lv_topi (fun v25 ev25 => ?_))
        refine q_put E hC23 hS23 g0 fp_RX7_25 tv_F rfl rfl dX7_begin_55 (fun H26 locs26 hC26 hS26 U26 => ?_)
        have hKp26 := Kp.upO E g0 fp_RX7_25 rfl U26 hKp23
        have e27 := up_I U26
        exact ret H26 locs26 _ _ dX7_begin_58 hKp26 hC26 hS26
      · refine lv_iconst (v := 0) hx hb dX7_begin_11 rfl ?_
        refine lv_aload_n hx hb dX7_begin_12 rfl (lv_at hl 2 rfl) ?_
        refine q_getR E hC23 g0 fa_RX7_15 dX7_begin_13 (fun q28 eq28 gq28 => ?_)
        refine lv_iload_n hx hb dX7_begin_16 rfl (lv_at hl 0 rfl) ?_
        refine q_iald E hC23 gq28 rfl rfl (fun _ h => h) (i_in (a := z21) ev21 (by omega) (by omega)) dX7_begin_17 (fun v29 ev29 _ _ => ?_)
        refine q_goIp (q_runS (As := [.int 0, .int v29]) (rest := []) E hS23 (m_X7_costOfStep l X Γ H23 hC23 0 (a0 := 0) (by decide) v29 (a1 := v29.toInt) rfl) cw_X7_costOfStep cl_RX7_57 rfl hl.1 rfl (Nat.zero_le _) (by decide) dX7_begin_18) hS23 (fun v30 locs30 hr30 hS30 => ?_)
        refine lv_bipush (v := 64) hx hb dX7_begin_21 rfl ?_
        refine lv_imul hx hb dX7_begin_23 (lv_topi (fun v31 ev31 => ?_))
        refine lv_aload_n hx hb dX7_begin_24 rfl (lv_at hl 2 rfl) ?_
        refine q_getR E hC23 g0 fa_RX7_18 dX7_begin_25 (fun q32 eq32 gq32 => ?_)
        refine lv_iload_n hx hb dX7_begin_28 rfl (lv_at hl 0 rfl) ?_
        refine q_iald E hC23 gq32 rfl rfl (fun _ h => h) (i_in (a := z21) ev21 (by omega) (by omega)) dX7_begin_29 (fun v33 ev33 _ _ => ?_)
        refine lv_iadd hx hb dX7_begin_30 (lv_topi (fun v34 ev34 => ?_))
        refine lv_istore_n hx hb dX7_begin_31 rfl hl (by decide) rfl (fun ls hl => ?_)
        replace hl : lv_has ls 4 [(3, .int v34), (2, .int v21), (1, .int v22), (0, .ref h0)] := hl
        refine lv_iload_n hx hb dX7_begin_32 rfl (lv_at hl 0 rfl) ?_
        refine lv_iload_n hx hb dX7_begin_33 rfl (lv_at hl 2 rfl) ?_
        have c35 := i_rng v34; rw [show v34.toInt = v34.toInt from rfl] at c35
        have c36 := i_rng v22; rw [show v22.toInt = z22 from ev22] at c36
        refine q_icmp_ge hx hb (a := v34.toInt) (b := z22) rfl ev22 (tgt := 44) dX7_begin_34 rfl (fun c37 => ?_) (fun c37 => ?_)
        · obtain ⟨v38, ev38⟩ : ∃ z, z = v21 + Int32.ofInt 6 := ⟨_, rfl⟩
          have ev38i : v38.toInt = (z21 + 6) := i_add ev38 ev21 (by decide) (by omega) (by omega)
          refine lv_iinc hx hb dX7_begin_44 hl (k := 1) rfl ev38.symm (by decide) rfl (fun ls hl => ?_)
          replace hl : lv_has ls 4 [(2, .int v38), (3, .int v34), (1, .int v22), (0, .ref h0)] := hl
          refine lv_goto (tgt := 5) hx hb dX7_begin_47 rfl ?_
          exact ih23 H23 locs30 v38 ((z21 + 6)) v22 (z22) ls (by omega) ev38i ev22 (by omega) (by omega) hC23 hS30 hKp23 (lv_sub hl [0, 2, 3] rfl)
        · refine lv_iload_n hx hb dX7_begin_37 rfl (lv_at hl 0 rfl) ?_
          refine lv_istore_n hx hb dX7_begin_38 rfl hl (by decide) rfl (fun ls hl => ?_)
          replace hl : lv_has ls 4 [(1, .int v34), (3, .int v34), (2, .int v21), (0, .ref h0)] := hl
          refine lv_aload_n hx hb dX7_begin_39 rfl (lv_at hl 3 rfl) ?_
          refine lv_iload_n hx hb dX7_begin_40 rfl (lv_at hl 2 rfl) ?_
          refine q_put E hC23 hS30 g0 fp_RX7_61 tv_F rfl rfl dX7_begin_41 (fun H39 locs39 hC39 hS39 U39 => ?_)
          have hKp39 := Kp.upO E g0 fp_RX7_61 rfl U39 hKp23
          have e40 := up_I U39
          obtain ⟨v41, ev41⟩ : ∃ z, z = v21 + Int32.ofInt 6 := ⟨_, rfl⟩
          have ev41i : v41.toInt = (z21 + 6) := i_add ev41 ev21 (by decide) (by omega) (by omega)
          refine lv_iinc hx hb dX7_begin_44 hl (k := 2) rfl ev41.symm (by decide) rfl (fun ls hl => ?_)
          replace hl : lv_has ls 4 [(2, .int v41), (1, .int v34), (3, .int v34), (0, .ref h0)] := hl
          refine lv_goto (tgt := 5) hx hb dX7_begin_47 rfl ?_
          exact ih23 H39 locs39 v41 ((z21 + 6)) v34 (v34.toInt) ls (by omega) ev41i rfl (by omega) (by omega) hC39 hS39 hKp39 (lv_sub hl [0, 1, 3] rfl)
  exact L5 _ H0 [] 0 0 268435456 268435456 ls (Nat.lt_succ_self _) (by decide) (by decide) (by omega) (by omega) hC0 hS0 hKp0 hl
set_option maxRecDepth 100000 in
set_option maxHeartbeats 4000000 in
theorem m_X7_costOver (l : Launch) (X : xW) (Γ : Nat → Option Nat) (H0 : Heap) (hC0 : Conf X Γ H0) (h0 : Nat) (g0 : Γ h0 = some 7) (h1 : Nat) (g1 : Γ h1 = some 5) : Ctr l X Γ yX7_costOver cX7_costOver 6 (some .int) 3 [.ref h0, .ref h1] H0 (QI X Γ (fun v H1 => Kp X Γ [0, 2, 3, 4, 5, 18, 21, 23, 25, 27] H0 H1 ∧ (True))) := by
  refine q_enterI (own := "SnowForts$Walk") (by decide) rfl (Nat.le_of_ble_eq_true rfl) ?_
  intro p e s m args below meth c ls Qz E hl ret hS0
  have hx := E.1; have hb := E.2.1
  have hKp0 : Kp X Γ [0, 2, 3, 4, 5, 18, 21, 23, 25, 27] H0 H0 := Kp.rf
  have hl : lv_has ls 6 [(0, .ref h0), (1, .ref h1)] := hl
  refine lv_aload_n hx hb dX7_costOver_0 rfl (lv_at hl 0 rfl) ?_
  refine lv_aload_n hx hb dX7_costOver_1 rfl (lv_at hl 1 rfl) ?_
  refine q_goI (q_runV (As := [.ref h1]) (rest := []) E hC0 hS0 (m_X7_comesTo l X Γ H0 hC0 h0 g0 h1 g1) cw_X7_comesTo cl_RX7_21 g0 ⟨rfl, rfl⟩ rfl hl.1 rfl (Nat.zero_le _) (by decide) dX7_costOver_2) hS0 (fun v21 H21 locs21 hr21 hC21 hS21 => ?_)
  obtain ⟨hp21, hr21⟩ := hr21
  have hKp21 := hKp0.tr (hp21.mono rfl)
  rcases hr21 with rfl | rfl
  · refine q_if_ne hx hb (a := 0) (by decide) (tgt := 13) dX7_costOver_5 rfl (fun c22 => absurd c22 (by omega)) (fun c22 => ?_)
    refine lv_aload_n hx hb dX7_costOver_8 rfl (lv_at hl 0 rfl) ?_
    refine q_getI E hC21 g0 fa_RX7_25 dX7_costOver_9 (fun v23 ev23 _ _ => ?_)
    exact ret v23 H21 locs21 _ _ dX7_costOver_12 ⟨hKp21, trivial⟩ hC21 hS21
  · refine q_if_ne hx hb (a := 1) (by decide) (tgt := 13) dX7_costOver_5 rfl (fun c24 => ?_) (fun c24 => absurd c24 (by omega))
    refine lv_aload_n hx hb dX7_costOver_13 rfl (lv_at hl 0 rfl) ?_
    refine q_getR E hC21 g0 fa_RX7_18 dX7_costOver_14 (fun q25 eq25 gq25 => ?_)
    refine lv_ldc (v := 268435456) hx hb E.2.2.2.1 (E.2.2.2.2.1 _ w_1079) dX7_costOver_17 ?_
    refine q_goV (q_runS (As := [.ref q25, .int 268435456]) (rest := []) E hS21 (m_fillI l X Γ H21 hC21 q25 gq25 (by decide) rfl rfl (fun _ => rfl) (by decide) 268435456) cw_J7_fill_53178 cl_RX7_30 rfl hl.1 rfl (Nat.zero_le _) (by decide) dX7_costOver_19) hS21 (fun H26 locs26 U26 hC26 hS26 => ?_)
    obtain ⟨U26, F26⟩ := U26
    have hKp26 := Kp.upC gq25 rfl (by decide) rfl U26 hKp21
    refine lv_iconst (v := 1) hx hb dX7_costOver_22 rfl ?_
    refine lv_istore_n hx hb dX7_costOver_23 rfl hl (by decide) rfl (fun ls hl => ?_)
    replace hl : lv_has ls 6 [(2, .int 1), (0, .ref h0), (1, .ref h1)] := hl
    refine lv_iconst (v := 0) hx hb dX7_costOver_24 rfl ?_
    refine lv_istore_n hx hb dX7_costOver_25 rfl hl (by decide) rfl (fun ls hl => ?_)
    replace hl : lv_has ls 6 [(3, .int 0), (2, .int 1), (0, .ref h0), (1, .ref h1)] := hl
    have L26 : ∀ (n29 : Nat) (H29 : Heap) (locs29 : List Loc) (v27 : Int32) (z27 : Int) (v28 : Int32) (z28 : Int) (ls : Array Slot), (37 - z27).toNat < n29 → v27.toInt = z27 → v28.toInt = z28 → z27 ≤ 37 → 0 ≤ z27 → Conf X Γ H29 → va_S (AΓ Γ) H0 H29 locs29 → Kp X Γ [0, 2, 3, 4, 5, 18, 21, 23, 25, 27] H0 H29 → lv_has ls 6 [(3, .int v27), (2, .int v28), (0, .ref h0), (1, .ref h1)] → W p l e (rmL 3) s m args below meth c H29 locs29 0 0 Qz (F0 m 26 ls []) := by
      intro n29
      induction n29 with
      | zero => intro H29 locs29 v27 z27 v28 z28 ls hm29 ev27 ev28 iv29_0 iv29_1 hC29 hS29 hKp29 hl; exact absurd hm29 (Nat.not_lt_zero _)
      | succ n29 ih29 =>
        intro H29 locs29 v27 z27 v28 z28 ls hm29 ev27 ev28 iv29_0 iv29_1 hC29 hS29 hKp29 hl
        refine lv_iload_n hx hb dX7_costOver_26 rfl (lv_at hl 0 rfl) ?_
        refine lv_bipush (v := 36) hx hb dX7_costOver_27 rfl ?_
        refine q_icmp_gt hx hb (a := z27) (b := 36) ev27 (by decide) (tgt := 91) dX7_costOver_29 rfl (fun c30 => ?_) (fun c30 => ?_)
        · refine lv_aload_n hx hb dX7_costOver_91 rfl (lv_at hl 2 rfl) ?_
          refine q_goV (q_runV (As := []) (rest := []) E hC29 hS29 (m_X7_begin l X Γ H29 hC29 h0 g0) cw_X7_begin cl_RX7_40 g0 ⟨rfl, rfl⟩ rfl hl.1 rfl (Nat.zero_le _) (by decide) dX7_costOver_92) hS29 (fun H31 locs31 hr31 hC31 hS31 => ?_)
          have hKp31 := hKp29.tr (hr31.mono rfl)
          refine lv_aload_n hx hb dX7_costOver_95 rfl (lv_at hl 2 rfl) ?_
          refine q_getI E hC31 g0 fa_RX7_25 dX7_costOver_96 (fun v32 ev32 _ _ => ?_)
          exact ret v32 H31 locs31 _ _ dX7_costOver_99 ⟨hKp31, trivial⟩ hC31 hS31
        · refine lv_iload_n hx hb dX7_costOver_32 rfl (lv_at hl 1 rfl) ?_
          refine q_if_eq hx hb (a := z28) ev28 (tgt := 91) dX7_costOver_33 rfl (fun c33 => ?_) (fun c33 => ?_)
          · refine lv_aload_n hx hb dX7_costOver_91 rfl (lv_at hl 2 rfl) ?_
            refine q_goV (q_runV (As := []) (rest := []) E hC29 hS29 (m_X7_begin l X Γ H29 hC29 h0 g0) cw_X7_begin cl_RX7_40 g0 ⟨rfl, rfl⟩ rfl hl.1 rfl (Nat.zero_le _) (by decide) dX7_costOver_92) hS29 (fun H34 locs34 hr34 hC34 hS34 => ?_)
            have hKp34 := hKp29.tr (hr34.mono rfl)
            refine lv_aload_n hx hb dX7_costOver_95 rfl (lv_at hl 2 rfl) ?_
            refine q_getI E hC34 g0 fa_RX7_25 dX7_costOver_96 (fun v35 ev35 _ _ => ?_)
            exact ret v35 H34 locs34 _ _ dX7_costOver_99 ⟨hKp34, trivial⟩ hC34 hS34
          · refine lv_iconst (v := 0) hx hb dX7_costOver_36 rfl ?_
            refine lv_istore_n hx hb dX7_costOver_37 rfl hl (by decide) rfl (fun ls hl => ?_)
            replace hl : lv_has ls 6 [(2, .int 0), (3, .int v27), (0, .ref h0), (1, .ref h1)] := hl
            refine lv_bipush (v := 35) hx hb dX7_costOver_38 rfl ?_
            refine lv_istore hx hb dX7_costOver_40 hl (by decide) rfl (fun ls hl => ?_)
            replace hl : lv_has ls 6 [(4, .int 35), (2, .int 0), (3, .int v27), (0, .ref h0), (1, .ref h1)] := hl
            have L42 : ∀ (n38 : Nat) (H38 : Heap) (locs38 : List Loc) (v36 : Int32) (z36 : Int) (v37 : Int32) (z37 : Int) (ls : Array Slot), (z36 + 1).toNat < n38 → v36.toInt = z36 → v37.toInt = z37 → -1 ≤ z36 → z36 ≤ 35 → Conf X Γ H38 → va_S (AΓ Γ) H0 H38 locs38 → Kp X Γ [0, 2, 3, 4, 5, 18, 21, 23, 25, 27] H0 H38 → lv_has ls 6 [(4, .int v36), (2, .int v37), (3, .int v27), (0, .ref h0), (1, .ref h1)] → W p l e (rmL 3) s m args below meth c H38 locs38 0 0 Qz (F0 m 42 ls []) := by
              intro n38
              induction n38 with
              | zero => intro H38 locs38 v36 z36 v37 z37 ls hm38 ev36 ev37 iv38_0 iv38_1 hC38 hS38 hKp38 hl; exact absurd hm38 (Nat.not_lt_zero _)
              | succ n38 ih38 =>
                intro H38 locs38 v36 z36 v37 z37 ls hm38 ev36 ev37 iv38_0 iv38_1 hC38 hS38 hKp38 hl
                refine lv_iload hx hb dX7_costOver_42 (lv_at hl 0 rfl) ?_
                refine q_if_lt hx hb (a := z36) ev36 (tgt := 85) dX7_costOver_44 rfl (fun c39 => ?_) (fun c39 => ?_)
                · obtain ⟨v40, ev40⟩ : ∃ z, z = v27 + Int32.ofInt 1 := ⟨_, rfl⟩
                  have ev40i : v40.toInt = (z27 + 1) := i_add ev40 ev27 (by decide) (by omega) (by omega)
                  refine lv_iinc hx hb dX7_costOver_85 hl (k := 2) rfl ev40.symm (by decide) rfl (fun ls hl => ?_)
                  replace hl : lv_has ls 6 [(3, .int v40), (4, .int v36), (2, .int v37), (0, .ref h0), (1, .ref h1)] := hl
                  refine lv_goto (tgt := 26) hx hb dX7_costOver_88 rfl ?_
                  exact ih29 H38 locs38 v40 ((z27 + 1)) v37 (z37) ls (by omega) ev40i ev37 (by omega) (by omega) hC38 hS38 hKp38 (lv_sub hl [0, 2, 3, 4] rfl)
                · refine lv_aload_n hx hb dX7_costOver_47 rfl (lv_at hl 3 rfl) ?_
                  refine lv_aload_n hx hb dX7_costOver_48 rfl (lv_at hl 4 rfl) ?_
                  refine lv_iload hx hb dX7_costOver_49 (lv_at hl 0 rfl) ?_
                  refine q_goIp (q_runV (As := [.ref h1, .int v36]) (rest := []) E hC38 hS38 (m_X7_weightFrom l X Γ H38 hC38 h0 g0 h1 g1 v36 (a2 := z36) ev36 (by omega) (by omega)) cw_X7_weightFrom cl_RX7_36 g0 ⟨rfl, rfl⟩ rfl hl.1 rfl (Nat.zero_le _) (by decide) dX7_costOver_51) hS38 (fun v41 locs41 hr41 hS41 => ?_)
                  refine lv_istore hx hb dX7_costOver_54 hl (by decide) rfl (fun ls hl => ?_)
                  replace hl : lv_has ls 6 [(5, .int v41), (4, .int v36), (2, .int v37), (3, .int v27), (0, .ref h0), (1, .ref h1)] := hl
                  refine lv_iload hx hb dX7_costOver_56 (lv_at hl 0 rfl) ?_
                  refine lv_aload_n hx hb dX7_costOver_58 rfl (lv_at hl 4 rfl) ?_
                  refine q_getR E hC38 g0 fa_RX7_18 dX7_costOver_59 (fun q42 eq42 gq42 => ?_)
                  refine lv_iload hx hb dX7_costOver_62 (lv_at hl 1 rfl) ?_
                  refine q_iald E hC38 gq42 rfl rfl (fun _ h => h) (i_in (a := z36) ev36 (by omega) (by omega)) dX7_costOver_64 (fun v43 ev43 _ _ => ?_)
                  have c44 := i_rng v41; rw [show v41.toInt = v41.toInt from rfl] at c44
                  have c45 := i_rng v43; rw [show v43.toInt = v43.toInt from rfl] at c45
                  refine q_icmp_ge hx hb (a := v41.toInt) (b := v43.toInt) rfl rfl (tgt := 79) dX7_costOver_65 rfl (fun c46 => ?_) (fun c46 => ?_)
                  · obtain ⟨v47, ev47⟩ : ∃ z, z = v36 + Int32.ofInt (-1) := ⟨_, rfl⟩
                    have ev47i : v47.toInt = (z36 + (-1)) := i_add ev47 ev36 (by decide) (by omega) (by omega)
                    refine lv_iinc hx hb dX7_costOver_79 hl (k := 1) rfl ev47.symm (by decide) rfl (fun ls hl => ?_)
                    replace hl : lv_has ls 6 [(4, .int v47), (5, .int v41), (2, .int v37), (3, .int v27), (0, .ref h0), (1, .ref h1)] := hl
                    refine lv_goto (tgt := 42) hx hb dX7_costOver_82 rfl ?_
                    exact ih38 H38 locs41 v47 ((z36 + (-1))) v37 (z37) ls (by omega) ev47i ev37 (by omega) (by omega) hC38 hS41 hKp38 (lv_sub hl [0, 2, 3, 4, 5] rfl)
                  · refine lv_aload_n hx hb dX7_costOver_68 rfl (lv_at hl 4 rfl) ?_
                    refine q_getR E hC38 g0 fa_RX7_18 dX7_costOver_69 (fun q48 eq48 gq48 => ?_)
                    refine lv_iload hx hb dX7_costOver_72 (lv_at hl 1 rfl) ?_
                    refine lv_iload hx hb dX7_costOver_74 (lv_at hl 0 rfl) ?_
                    refine q_iast E hC38 hS41 gq48 (by decide) rfl rfl (i_in (a := z36) ev36 (by omega) (by omega)) tv_F dX7_costOver_76 (fun H49 locs49 hC49 hS49 U49 => ?_)
                    have hKp49 := Kp.upA gq48 rfl (by decide) rfl U49 hKp38
                    refine lv_iconst (v := 1) hx hb dX7_costOver_77 rfl ?_
                    refine lv_istore_n hx hb dX7_costOver_78 rfl hl (by decide) rfl (fun ls hl => ?_)
                    replace hl : lv_has ls 6 [(2, .int 1), (5, .int v41), (4, .int v36), (3, .int v27), (0, .ref h0), (1, .ref h1)] := hl
                    obtain ⟨v50, ev50⟩ : ∃ z, z = v36 + Int32.ofInt (-1) := ⟨_, rfl⟩
                    have ev50i : v50.toInt = (z36 + (-1)) := i_add ev50 ev36 (by decide) (by omega) (by omega)
                    refine lv_iinc hx hb dX7_costOver_79 hl (k := 2) rfl ev50.symm (by decide) rfl (fun ls hl => ?_)
                    replace hl : lv_has ls 6 [(4, .int v50), (2, .int 1), (5, .int v41), (3, .int v27), (0, .ref h0), (1, .ref h1)] := hl
                    refine lv_goto (tgt := 42) hx hb dX7_costOver_82 rfl ?_
                    exact ih38 H49 locs49 v50 ((z36 + (-1))) 1 (1) ls (by omega) ev50i (by decide) (by omega) (by omega) hC49 hS49 hKp49 (lv_sub hl [0, 1, 3, 4, 5] rfl)
            exact L42 _ H29 locs29 35 35 0 0 ls (Nat.lt_succ_self _) (by decide) (by decide) (by omega) (by omega) hC29 hS29 hKp29 hl
    exact L26 _ H26 locs26 0 0 1 1 ls (Nat.lt_succ_self _) (by decide) (by decide) (by omega) (by omega) hC26 hS26 hKp26 hl
set_option maxRecDepth 100000 in
set_option maxHeartbeats 4000000 in
theorem m_X7_cellBehind (l : Launch) (X : xW) (Γ : Nat → Option Nat) (H0 : Heap) (hC0 : Conf X Γ H0) (h0 : Nat) (g0 : Γ h0 = some 7) (h1 : Nat) (g1 : Γ h1 = some 5) (p2 : Int32) {a2 : Int} (e2 : p2.toInt = a2) (r0 : 0 ≤ a2) (r1 : a2 ≤ 35) : Ctr l X Γ yX7_cellBehind cX7_cellBehind 6 (some .int) 2 [.ref h0, .ref h1, .int p2] H0 (QI X Γ (fun v H1 => H1 = H0 ∧ (True))) := by
  refine q_enterI (own := "SnowForts$Walk") (by decide) rfl (Nat.le_of_ble_eq_true rfl) ?_
  intro p e s m args below meth c ls Qz E hl ret hS0
  have hx := E.1; have hb := E.2.1
  have hl : lv_has ls 6 [(0, .ref h0), (1, .ref h1), (2, .int p2)] := hl
  refine lv_aload_n hx hb dX7_cellBehind_0 rfl (lv_at hl 0 rfl) ?_
  refine q_getR E hC0 g0 fa_RX7_18 dX7_cellBehind_1 (fun q21 eq21 gq21 => ?_)
  refine lv_iload_n hx hb dX7_cellBehind_4 rfl (lv_at hl 2 rfl) ?_
  refine q_iald E hC0 gq21 rfl rfl (fun _ h => h) (i_in (a := a2) e2 (by omega) (by omega)) dX7_cellBehind_5 (fun v22 ev22 _ _ => ?_)
  refine lv_bipush (v := 64) hx hb dX7_cellBehind_6 rfl ?_
  refine lv_irem hx hb dX7_cellBehind_8 (by decide) (lv_topi (fun v23 ev23 => ?_))
  have ev23b := i_remB ev23 rfl (show (64 : Int32).toInt = 64 from by decide) (by decide)
  refine lv_iconst (v := 1) hx hb dX7_cellBehind_9 rfl ?_
  refine q_icmp_ne hx hb (a := v23.toInt) (b := 1) rfl (by decide) (tgt := 15) dX7_cellBehind_10 rfl (fun c24 => ?_) (fun c24 => ?_)
  · refine lv_iconst (v := 0) hx hb dX7_cellBehind_15 rfl ?_
    refine lv_istore_n hx hb dX7_cellBehind_16 rfl hl (by decide) rfl (fun ls hl => ?_)
    replace hl : lv_has ls 6 [(3, .int 0), (0, .ref h0), (1, .ref h1), (2, .int p2)] := hl
    have L17 : ∀ (n26 : Nat) (locs26 : List Loc) (v25 : Int32) (z25 : Int) (ls : Array Slot), (4 - z25).toNat < n26 → v25.toInt = z25 → z25 ≤ 4 → 0 ≤ z25 → va_S (AΓ Γ) H0 H0 locs26 → lv_has ls 6 [(3, .int v25), (0, .ref h0), (1, .ref h1), (2, .int p2)] → W p l e (rmL 2) s m args below meth c H0 locs26 0 0 Qz (F0 m 17 ls []) := by
      intro n26
      induction n26 with
      | zero => intro locs26 v25 z25 ls hm26 ev25 iv26_0 iv26_1 hS26 hl; exact absurd hm26 (Nat.not_lt_zero _)
      | succ n26 ih26 =>
        intro locs26 v25 z25 ls hm26 ev25 iv26_0 iv26_1 hS26 hl
        refine lv_iload_n hx hb dX7_cellBehind_17 rfl (lv_at hl 0 rfl) ?_
        refine lv_iconst (v := 4) hx hb dX7_cellBehind_18 rfl ?_
        refine q_icmp_ge hx hb (a := z25) (b := 4) ev25 (by decide) (tgt := 98) dX7_cellBehind_19 rfl (fun c27 => ?_) (fun c27 => ?_)
        · refine lv_iconst (v := (-1)) hx hb dX7_cellBehind_98 rfl ?_
          exact ret (-1) H0 locs26 _ _ dX7_cellBehind_99 ⟨rfl, trivial⟩ hC0 hS26
        · refine lv_iload_n hx hb dX7_cellBehind_22 rfl (lv_at hl 3 rfl) ?_
          refine q_stRIGHT E hS26 w_1089 dX7_cellBehind_23 (fun q28 tq28 => ?_)
          refine lv_iload_n hx hb dX7_cellBehind_26 rfl (lv_at hl 0 rfl) ?_
          refine q_ldRIGHT E hS26 tq28 (a := z25) ev25 (by omega) (by omega) dX7_cellBehind_27 (fun v29 lv29 uv29 => ?_)
          refine lv_iadd hx hb dX7_cellBehind_28 (lv_topi (fun v30 ev30 => ?_))
          have ev30i : v30.toInt = (a2 + v29.toInt) := i_add ev30 e2 rfl (by omega) (by omega)
          refine q_stDOWN E hS26 w_1091 dX7_cellBehind_29 (fun q31 tq31 => ?_)
          refine lv_iload_n hx hb dX7_cellBehind_32 rfl (lv_at hl 0 rfl) ?_
          refine q_ldDOWN E hS26 tq31 (a := z25) ev25 (by omega) (by omega) dX7_cellBehind_33 (fun v32 lv32 uv32 => ?_)
          refine lv_bipush (v := 6) hx hb dX7_cellBehind_34 rfl ?_
          refine lv_imul hx hb dX7_cellBehind_36 (lv_topi (fun v33 ev33 => ?_))
          have ev33i : v33.toInt = (v32.toInt * 6) := i_mul ev33 rfl (by decide) (by omega) (by omega)
          refine lv_iadd hx hb dX7_cellBehind_37 (lv_topi (fun v34 ev34 => ?_))
          have ev34i : v34.toInt = ((a2 + v29.toInt) + (v32.toInt * 6)) := i_add ev34 ev30i ev33i (by omega) (by omega)
          refine lv_istore hx hb dX7_cellBehind_38 hl (by decide) rfl (fun ls hl => ?_)
          replace hl : lv_has ls 6 [(4, .int v34), (3, .int v25), (0, .ref h0), (1, .ref h1), (2, .int p2)] := hl
          refine lv_aload_n hx hb dX7_cellBehind_40 rfl (lv_at hl 3 rfl) ?_
          refine lv_iload_n hx hb dX7_cellBehind_41 rfl (lv_at hl 4 rfl) ?_
          refine lv_bipush (v := 6) hx hb dX7_cellBehind_42 rfl ?_
          refine lv_irem hx hb dX7_cellBehind_44 (by decide) (lv_topi (fun v35 ev35 => ?_))
          have ev35i : v35.toInt = (a2 % 6) := i_rem ev35 e2 (by decide) (by omega) (by decide)
          refine q_stRIGHT E hS26 w_1089 dX7_cellBehind_45 (fun q36 tq36 => ?_)
          refine lv_iload_n hx hb dX7_cellBehind_48 rfl (lv_at hl 1 rfl) ?_
          refine q_ldRIGHT E hS26 tq36 (a := z25) ev25 (by omega) (by omega) dX7_cellBehind_49 (fun v37 lv37 uv37 => ?_)
          refine lv_iadd hx hb dX7_cellBehind_50 (lv_topi (fun v38 ev38 => ?_))
          have ev38i : v38.toInt = ((a2 % 6) + v37.toInt) := i_add ev38 ev35i rfl (by omega) (by omega)
          refine lv_iload_n hx hb dX7_cellBehind_51 rfl (lv_at hl 4 rfl) ?_
          refine lv_bipush (v := 6) hx hb dX7_cellBehind_52 rfl ?_
          refine lv_idiv hx hb dX7_cellBehind_54 (by decide) (lv_topi (fun v39 ev39 => ?_))
          have ev39i : v39.toInt = (a2 / 6) := i_div ev39 e2 (by decide) (by omega) (by decide)
          refine q_stDOWN E hS26 w_1091 dX7_cellBehind_55 (fun q40 tq40 => ?_)
          refine lv_iload_n hx hb dX7_cellBehind_58 rfl (lv_at hl 1 rfl) ?_
          refine q_ldDOWN E hS26 tq40 (a := z25) ev25 (by omega) (by omega) dX7_cellBehind_59 (fun v41 lv41 uv41 => ?_)
          refine lv_iadd hx hb dX7_cellBehind_60 (lv_topi (fun v42 ev42 => ?_))
          have ev42i : v42.toInt = ((a2 / 6) + v41.toInt) := i_add ev42 ev39i rfl (by omega) (by omega)
          refine q_goIp (q_runV (As := [.int v38, .int v42]) (rest := []) E hC0 hS26 (m_X9_isCell l X Γ H0 hC0 h1 g1 v38 (a1 := ((a2 % 6) + v37.toInt)) ev38i v42 (a2 := ((a2 / 6) + v41.toInt)) ev42i) cw_X9_isCell cl_RX7_64 g1 ⟨rfl, rfl⟩ rfl hl.1 rfl (Nat.zero_le _) (by decide) dX7_cellBehind_61) hS26 (fun v43 locs43 hr43 hS43 => ?_)
          rcases hr43 with ⟨rfl, f43a0, f43a1, f43a2, f43a3⟩ | ⟨rfl, -⟩
          · refine lv_istore hx hb dX7_cellBehind_64 hl (by decide) rfl (fun ls hl => ?_)
            replace hl : lv_has ls 6 [(5, .int 1), (4, .int v34), (3, .int v25), (0, .ref h0), (1, .ref h1), (2, .int p2)] := hl
            refine lv_iload hx hb dX7_cellBehind_66 (lv_at hl 0 rfl) ?_
            refine q_if_eq hx hb (a := 1) (by decide) (tgt := 92) dX7_cellBehind_68 rfl (fun c44 => absurd c44 (by omega)) (fun c44 => ?_)
            refine lv_aload_n hx hb dX7_cellBehind_71 rfl (lv_at hl 3 rfl) ?_
            refine lv_iload_n hx hb dX7_cellBehind_72 rfl (lv_at hl 5 rfl) ?_
            refine lv_iload hx hb dX7_cellBehind_73 (lv_at hl 1 rfl) ?_
            refine q_goIp (q_runV (As := [.int p2, .int v34]) (rest := []) E hC0 hS43 (m_X7_weightBy l X Γ H0 hC0 h0 g0 p2 (a1 := a2) e2 v34 (a2 := ((a2 + v29.toInt) + (v32.toInt * 6))) ev34i) cw_X7_weightBy cl_RX7_74 g0 ⟨rfl, rfl⟩ rfl hl.1 rfl (Nat.zero_le _) (by decide) dX7_cellBehind_75) hS43 (fun v45 locs45 hr45 hS45 => ?_)
            refine lv_iconst (v := 1) hx hb dX7_cellBehind_78 rfl ?_
            refine lv_iadd hx hb dX7_cellBehind_79 (lv_topi (fun v46 ev46 => ?_))
            refine lv_aload_n hx hb dX7_cellBehind_80 rfl (lv_at hl 3 rfl) ?_
            refine q_getR E hC0 g0 fa_RX7_18 dX7_cellBehind_81 (fun q47 eq47 gq47 => ?_)
            refine lv_iload_n hx hb dX7_cellBehind_84 rfl (lv_at hl 5 rfl) ?_
            refine q_iald E hC0 gq47 rfl rfl (fun _ h => h) (i_in (a := a2) e2 (by omega) (by omega)) dX7_cellBehind_85 (fun v48 ev48 _ _ => ?_)
            have c49 := i_rng v46; rw [show v46.toInt = v46.toInt from rfl] at c49
            have c50 := i_rng v48; rw [show v48.toInt = v48.toInt from rfl] at c50
            refine q_icmp_ne hx hb (a := v46.toInt) (b := v48.toInt) rfl rfl (tgt := 92) dX7_cellBehind_86 rfl (fun c51 => ?_) (fun c51 => ?_)
            · obtain ⟨v52, ev52⟩ : ∃ z, z = v25 + Int32.ofInt 1 := ⟨_, rfl⟩
              have ev52i : v52.toInt = (z25 + 1) := i_add ev52 ev25 (by decide) (by omega) (by omega)
              refine lv_iinc hx hb dX7_cellBehind_92 hl (k := 2) rfl ev52.symm (by decide) rfl (fun ls hl => ?_)
              replace hl : lv_has ls 6 [(3, .int v52), (5, .int 1), (4, .int v34), (0, .ref h0), (1, .ref h1), (2, .int p2)] := hl
              refine lv_goto (tgt := 17) hx hb dX7_cellBehind_95 rfl ?_
              exact ih26 locs45 v52 ((z25 + 1)) ls (by omega) ev52i (by omega) (by omega) hS45 (lv_sub hl [0, 3, 4, 5] rfl)
            · refine lv_iload hx hb dX7_cellBehind_89 (lv_at hl 1 rfl) ?_
              exact ret v34 H0 locs45 _ _ dX7_cellBehind_91 ⟨rfl, trivial⟩ hC0 hS45
          · refine lv_istore hx hb dX7_cellBehind_64 hl (by decide) rfl (fun ls hl => ?_)
            replace hl : lv_has ls 6 [(5, .int 0), (4, .int v34), (3, .int v25), (0, .ref h0), (1, .ref h1), (2, .int p2)] := hl
            refine lv_iload hx hb dX7_cellBehind_66 (lv_at hl 0 rfl) ?_
            refine q_if_eq hx hb (a := 0) (by decide) (tgt := 92) dX7_cellBehind_68 rfl (fun c53 => ?_) (fun c53 => absurd c53 (by omega))
            obtain ⟨v54, ev54⟩ : ∃ z, z = v25 + Int32.ofInt 1 := ⟨_, rfl⟩
            have ev54i : v54.toInt = (z25 + 1) := i_add ev54 ev25 (by decide) (by omega) (by omega)
            refine lv_iinc hx hb dX7_cellBehind_92 hl (k := 2) rfl ev54.symm (by decide) rfl (fun ls hl => ?_)
            replace hl : lv_has ls 6 [(3, .int v54), (5, .int 0), (4, .int v34), (0, .ref h0), (1, .ref h1), (2, .int p2)] := hl
            refine lv_goto (tgt := 17) hx hb dX7_cellBehind_95 rfl ?_
            exact ih26 locs43 v54 ((z25 + 1)) ls (by omega) ev54i (by omega) (by omega) hS43 (lv_sub hl [0, 3, 4, 5] rfl)
    exact L17 _ [] 0 0 ls (Nat.lt_succ_self _) (by decide) (by omega) (by omega) hS0 hl
  · refine lv_iconst (v := (-1)) hx hb dX7_cellBehind_13 rfl ?_
    exact ret (-1) H0 [] _ _ dX7_cellBehind_14 ⟨rfl, trivial⟩ hC0 hS0
set_option maxRecDepth 100000 in
set_option maxHeartbeats 4000000 in
theorem m_X7_trace (l : Launch) (X : xW) (Γ : Nat → Option Nat) (H0 : Heap) (hC0 : Conf X Γ H0) (h0 : Nat) (g0 : Γ h0 = some 7) (h1 : Nat) (g1 : Γ h1 = some 5) : Ctr l X Γ yX7_trace cX7_trace 4 none 3 [.ref h0, .ref h1] H0 (QV X Γ (fun H1 => Kp X Γ [0, 2, 3, 4, 5, 18, 21, 23, 25, 27] H0 H1)) := by
  refine q_enterV (own := "SnowForts$Walk") (by decide) rfl (Nat.le_of_ble_eq_true rfl) ?_
  intro p e s m args below meth c ls Qz E hl ret hS0
  have hx := E.1; have hb := E.2.1
  have hKp0 : Kp X Γ [0, 2, 3, 4, 5, 18, 21, 23, 25, 27] H0 H0 := Kp.rf
  have hl : lv_has ls 4 [(0, .ref h0), (1, .ref h1)] := hl
  refine lv_aload_n hx hb dX7_trace_0 rfl (lv_at hl 0 rfl) ?_
  refine lv_iconst (v := 0) hx hb dX7_trace_1 rfl ?_
  refine q_put E hC0 hS0 g0 fp_RX7_82 tv_F rfl rfl dX7_trace_2 (fun H21 locs21 hC21 hS21 U21 => ?_)
  have hKp21 := Kp.upO E g0 fp_RX7_82 rfl U21 hKp0
  have e22 := up_I U21
  refine lv_aload_n hx hb dX7_trace_5 rfl (lv_at hl 0 rfl) ?_
  refine q_getI E hC21 g0 fa_RX7_61 dX7_trace_6 (fun v23 ev23 _ _ => ?_)
  refine lv_istore_n hx hb dX7_trace_9 rfl hl (by decide) rfl (fun ls hl => ?_)
  replace hl : lv_has ls 4 [(2, .int v23), (0, .ref h0), (1, .ref h1)] := hl
  refine lv_iconst (v := 0) hx hb dX7_trace_10 rfl ?_
  refine lv_istore_n hx hb dX7_trace_11 rfl hl (by decide) rfl (fun ls hl => ?_)
  replace hl : lv_has ls 4 [(3, .int 0), (2, .int v23), (0, .ref h0), (1, .ref h1)] := hl
  have L12 : ∀ (n26 : Nat) (H26 : Heap) (locs26 : List Loc) (v24 : Int32) (z24 : Int) (v25 : Int32) (z25 : Int) (ls : Array Slot), (36 - z24).toNat < n26 → v24.toInt = z24 → v25.toInt = z25 → z24 ≤ 36 → 0 ≤ z24 → Conf X Γ H26 → va_S (AΓ Γ) H0 H26 locs26 → Kp X Γ [0, 2, 3, 4, 5, 18, 21, 23, 25, 27] H0 H26 → lv_has ls 4 [(3, .int v24), (2, .int v25), (0, .ref h0), (1, .ref h1)] → W p l e (rmL 3) s m args below meth c H26 locs26 0 0 Qz (F0 m 12 ls []) := by
    intro n26
    induction n26 with
    | zero => intro H26 locs26 v24 z24 v25 z25 ls hm26 ev24 ev25 iv26_0 iv26_1 hC26 hS26 hKp26 hl; exact absurd hm26 (Nat.not_lt_zero _)
    | succ n26 ih26 =>
      intro H26 locs26 v24 z24 v25 z25 ls hm26 ev24 ev25 iv26_0 iv26_1 hC26 hS26 hKp26 hl
      refine lv_iload_n hx hb dX7_trace_12 rfl (lv_at hl 0 rfl) ?_
      refine lv_bipush (v := 36) hx hb dX7_trace_13 rfl ?_
      refine q_icmp_ge hx hb (a := z24) (b := 36) ev24 (by decide) (tgt := 59) dX7_trace_15 rfl (fun c27 => ?_) (fun c27 => ?_)
      · exact ret H26 locs26 _ _ dX7_trace_59 hKp26 hC26 hS26
      · refine lv_iload_n hx hb dX7_trace_18 rfl (lv_at hl 1 rfl) ?_
        refine lv_i2l (v := v25.toInt64) hx hb dX7_trace_19 rfl (lv_topl (fun v28 ev28 => ?_))
        have ev28i : v28.toInt = z25 := l_ofi ev28.symm ev25
        refine lv_iconst (v := 0) hx hb dX7_trace_20 rfl ?_
        refine lv_bipush (v := 35) hx hb dX7_trace_21 rfl ?_
        refine q_goIp (q_runSN (As := [.long v28, .int 0, .int 35]) (rest := []) E hS26 (m_X11_isWithin l X Γ H26 hC26 v28 (a0 := z25) ev28i 0 (a1 := 0) (by decide) 35 (a2 := 35) (by decide)) cw_X11_isWithin cl_RX7_85 rfl hl.1 rfl (Nat.zero_le _) (by decide) dX7_trace_23) hS26 (fun v29 locs29 hr29 hS29 => ?_)
        rcases hr29 with ⟨rfl, f29a0, f29a1⟩ | ⟨rfl, f29b⟩
        · refine q_if_eq hx hb (a := 1) (by decide) (tgt := 59) dX7_trace_26 rfl (fun c30 => absurd c30 (by omega)) (fun c30 => ?_)
          refine lv_aload_n hx hb dX7_trace_29 rfl (lv_at hl 2 rfl) ?_
          refine q_getR E hC26 g0 fa_RX7_9 dX7_trace_30 (fun q31 eq31 gq31 => ?_)
          refine lv_iload_n hx hb dX7_trace_33 rfl (lv_at hl 0 rfl) ?_
          refine lv_iload_n hx hb dX7_trace_34 rfl (lv_at hl 1 rfl) ?_
          refine q_iast E hC26 hS29 gq31 (by decide) rfl rfl (i_in (a := z24) ev24 (by omega) (by omega)) tv_F dX7_trace_35 (fun H32 locs32 hC32 hS32 U32 => ?_)
          have hKp32 := Kp.upA gq31 rfl (by decide) rfl U32 hKp26
          refine lv_aload_n hx hb dX7_trace_36 rfl (lv_at hl 2 rfl) ?_
          refine lv_dup hx hb dX7_trace_37 rfl ?_
          refine q_getI E hC32 g0 fa_RX7_82 dX7_trace_38 (fun v33 ev33 _ _ => ?_)
          refine lv_iconst (v := 1) hx hb dX7_trace_41 rfl ?_
          refine lv_iadd hx hb dX7_trace_42 (lv_topi (fun v34 ev34 => ?_))
          refine q_put E hC32 hS32 g0 fp_RX7_82 tv_F rfl rfl dX7_trace_43 (fun H35 locs35 hC35 hS35 U35 => ?_)
          have hKp35 := Kp.upO E g0 fp_RX7_82 rfl U35 hKp32
          have e36 := up_I U35
          refine lv_aload_n hx hb dX7_trace_46 rfl (lv_at hl 2 rfl) ?_
          refine lv_aload_n hx hb dX7_trace_47 rfl (lv_at hl 3 rfl) ?_
          refine lv_iload_n hx hb dX7_trace_48 rfl (lv_at hl 1 rfl) ?_
          refine q_goIp (q_runV (As := [.ref h1, .int v25]) (rest := []) E hC35 hS35 (m_X7_cellBehind l X Γ H35 hC35 h0 g0 h1 g1 v25 (a2 := z25) ev25 (by omega) (by omega)) cw_X7_cellBehind cl_RX7_89 g0 ⟨rfl, rfl⟩ rfl hl.1 rfl (Nat.zero_le _) (by decide) dX7_trace_49) hS35 (fun v37 locs37 hr37 hS37 => ?_)
          refine lv_istore_n hx hb dX7_trace_52 rfl hl (by decide) rfl (fun ls hl => ?_)
          replace hl : lv_has ls 4 [(2, .int v37), (3, .int v24), (0, .ref h0), (1, .ref h1)] := hl
          obtain ⟨v38, ev38⟩ : ∃ z, z = v24 + Int32.ofInt 1 := ⟨_, rfl⟩
          have ev38i : v38.toInt = (z24 + 1) := i_add ev38 ev24 (by decide) (by omega) (by omega)
          refine lv_iinc hx hb dX7_trace_53 hl (k := 1) rfl ev38.symm (by decide) rfl (fun ls hl => ?_)
          replace hl : lv_has ls 4 [(3, .int v38), (2, .int v37), (0, .ref h0), (1, .ref h1)] := hl
          refine lv_goto (tgt := 12) hx hb dX7_trace_56 rfl ?_
          exact ih26 H35 locs37 v38 ((z24 + 1)) v37 (v37.toInt) ls (by omega) ev38i rfl (by omega) (by omega) hC35 hS37 hKp35 hl
        · refine q_if_eq hx hb (a := 0) (by decide) (tgt := 59) dX7_trace_26 rfl (fun c39 => ?_) (fun c39 => absurd c39 (by omega))
          exact ret H26 locs29 _ _ dX7_trace_59 hKp26 hC26 hS29
  exact L12 _ H21 locs21 0 0 v23 v23.toInt ls (Nat.lt_succ_self _) (by decide) rfl (by omega) (by omega) hC21 hS21 hKp21 hl
set_option maxRecDepth 100000 in
set_option maxHeartbeats 4000000 in
theorem m_X11_way (l : Launch) (X : xW) (Γ : Nat → Option Nat) (H0 : Heap) (hC0 : Conf X Γ H0) (h0 : Nat) (g0 : Γ h0 = some 0) : Ctr l X Γ yX11_way cX11_way 2 (some .int) 4 [.ref h0] H0 (QI X Γ (fun v H1 => Kp X Γ [0, 2, 3, 4, 5, 18, 21, 23, 25, 27] H0 H1 ∧ (True))) := by
  refine q_enterI (own := "SnowForts") (by decide) rfl (Nat.le_of_ble_eq_true rfl) ?_
  intro p e s m args below meth c ls Qz E hl ret hS0
  have hx := E.1; have hb := E.2.1
  have hKp0 : Kp X Γ [0, 2, 3, 4, 5, 18, 21, 23, 25, 27] H0 H0 := Kp.rf
  have hl : lv_has ls 2 [(0, .ref h0)] := hl
  refine lv_aload_n hx hb dX11_way_0 rfl (lv_at hl 0 rfl) ?_
  refine q_getR E hC0 g0 fa_RX11_70 dX11_way_1 (fun q21 eq21 gq21 => ?_)
  refine lv_aload_n hx hb dX11_way_4 rfl (lv_at hl 0 rfl) ?_
  refine q_getR E hC0 g0 fa_RX11_42 dX11_way_5 (fun q22 eq22 gq22 => ?_)
  refine q_goI (q_runV (As := [.ref q22]) (rest := []) E hC0 hS0 (m_X7_costOver l X Γ H0 hC0 q21 gq21 q22 gq22) cw_X7_costOver cl_RX11_284 gq21 ⟨rfl, rfl⟩ rfl hl.1 rfl (Nat.zero_le _) (by decide) dX11_way_8) hS0 (fun v23 H23 locs23 hr23 hC23 hS23 => ?_)
  obtain ⟨hp23, hr23⟩ := hr23
  have hKp23 := hKp0.tr (hp23.mono rfl)
  refine lv_istore_n hx hb dX11_way_11 rfl hl (by decide) rfl (fun ls hl => ?_)
  replace hl : lv_has ls 2 [(1, .int v23), (0, .ref h0)] := hl
  refine lv_aload_n hx hb dX11_way_12 rfl (lv_at hl 1 rfl) ?_
  refine q_getR E hC23 g0 fa_RX11_70 dX11_way_13 (fun q24 eq24 gq24 => ?_)
  refine lv_aload_n hx hb dX11_way_16 rfl (lv_at hl 1 rfl) ?_
  refine q_getR E hC23 g0 fa_RX11_42 dX11_way_17 (fun q25 eq25 gq25 => ?_)
  refine q_goV (q_runV (As := [.ref q25]) (rest := []) E hC23 hS23 (m_X7_trace l X Γ H23 hC23 q24 gq24 q25 gq25) cw_X7_trace cl_RX11_288 gq24 ⟨rfl, rfl⟩ rfl hl.1 rfl (Nat.zero_le _) (by decide) dX11_way_20) hS23 (fun H26 locs26 hr26 hC26 hS26 => ?_)
  have hKp26 := hKp23.tr (hr26.mono rfl)
  refine lv_aload_n hx hb dX11_way_23 rfl (lv_at hl 1 rfl) ?_
  refine lv_iload_n hx hb dX11_way_24 rfl (lv_at hl 0 rfl) ?_
  refine q_goI (q_runV (As := [.int v23]) (rest := []) E hC26 hS26 (m_X11_answer l X Γ H26 hC26 h0 g0 v23 (a1 := v23.toInt) rfl) cw_X11_answer cl_RX11_191 g0 ⟨rfl, rfl⟩ rfl hl.1 rfl (Nat.zero_le _) (by decide) dX11_way_25) hS26 (fun v27 H27 locs27 hr27 hC27 hS27 => ?_)
  obtain ⟨hp27, hr27⟩ := hr27
  have hKp27 := hKp26.tr (hp27.mono rfl)
  have f27_0 := hr27
  exact ret v27 H27 locs27 _ _ dX11_way_28 ⟨hKp27, trivial⟩ hC27 hS27
set_option maxRecDepth 100000 in
set_option maxHeartbeats 4000000 in
theorem m_X11_wayAt (l : Launch) (X : xW) (Γ : Nat → Option Nat) (H0 : Heap) (hC0 : Conf X Γ H0) (h0 : Nat) (g0 : Γ h0 = some 0) (p1 : Int32) {a1 : Int} (e1 : p1.toInt = a1) (p2 : Int32) {a2 : Int} (e2 : p2.toInt = a2) : Ctr l X Γ yX11_wayAt cX11_wayAt 4 (some .int) 1 [.ref h0, .int p1, .int p2] H0 (QI X Γ (fun v H1 => Kp X Γ [0, 2, 3, 4, 5, 18, 21, 23, 25, 27] H0 H1 ∧ (True))) := by
  refine q_enterI (own := "SnowForts") (by decide) rfl (Nat.le_of_ble_eq_true rfl) ?_
  intro p e s m args below meth c ls Qz E hl ret hS0
  have hx := E.1; have hb := E.2.1
  have hKp0 : Kp X Γ [0, 2, 3, 4, 5, 18, 21, 23, 25, 27] H0 H0 := Kp.rf
  have hl : lv_has ls 4 [(0, .ref h0), (1, .int p1), (2, .int p2)] := hl
  refine lv_iload_n hx hb dX11_wayAt_0 rfl (lv_at hl 2 rfl) ?_
  refine lv_i2l (v := p2.toInt64) hx hb dX11_wayAt_1 rfl (lv_topl (fun v21 ev21 => ?_))
  have ev21i : v21.toInt = a2 := l_ofi ev21.symm e2
  refine lv_iconst (v := 0) hx hb dX11_wayAt_2 rfl ?_
  refine lv_iconst (v := 1) hx hb dX11_wayAt_3 rfl ?_
  refine q_goIp (q_runS (As := [.long v21, .int 0, .int 1]) (rest := []) E hS0 (m_X11_isWithin l X Γ H0 hC0 v21 (a0 := a2) ev21i 0 (a1 := 0) (by decide) 1 (a2 := 1) (by decide)) cw_X11_isWithin cl_RX11_113 rfl hl.1 rfl (Nat.zero_le _) (by decide) dX11_wayAt_4) hS0 (fun v22 locs22 hr22 hS22 => ?_)
  rcases hr22 with ⟨rfl, f22a0, f22a1⟩ | ⟨rfl, f22b⟩
  · refine q_if_ne hx hb (a := 1) (by decide) (tgt := 16) dX11_wayAt_7 rfl (fun c23 => ?_) (fun c23 => absurd c23 (by omega))
    refine lv_iload_n hx hb dX11_wayAt_16 rfl (lv_at hl 1 rfl) ?_
    refine lv_i2l (v := p1.toInt64) hx hb dX11_wayAt_17 rfl (lv_topl (fun v24 ev24 => ?_))
    have ev24i : v24.toInt = a1 := l_ofi ev24.symm e1
    refine lv_iconst (v := 0) hx hb dX11_wayAt_18 rfl ?_
    refine lv_aload_n hx hb dX11_wayAt_19 rfl (lv_at hl 0 rfl) ?_
    refine q_getR E hC0 g0 fa_RX11_70 dX11_wayAt_20 (fun q25 eq25 gq25 => ?_)
    refine q_getI E hC0 gq25 fa_RX11_292 dX11_wayAt_23 (fun v26 ev26 _ _ => ?_)
    refine lv_iconst (v := 1) hx hb dX11_wayAt_26 rfl ?_
    refine lv_isub hx hb dX11_wayAt_27 (lv_topi (fun v27 ev27 => ?_))
    refine q_goIp (q_runS (As := [.long v24, .int 0, .int v27]) (rest := []) E hS22 (m_X11_isWithin l X Γ H0 hC0 v24 (a0 := a1) ev24i 0 (a1 := 0) (by decide) v27 (a2 := v27.toInt) rfl) cw_X11_isWithin cl_RX11_113 rfl hl.1 rfl (Nat.zero_le _) (by decide) dX11_wayAt_28) hS22 (fun v28 locs28 hr28 hS28 => ?_)
    rcases hr28 with ⟨rfl, f28a0, f28a1⟩ | ⟨rfl, f28b⟩
    · refine q_if_eq hx hb (a := 1) (by decide) (tgt := 40) dX11_wayAt_31 rfl (fun c29 => absurd c29 (by omega)) (fun c29 => ?_)
      refine lv_iload_n hx hb dX11_wayAt_34 rfl (lv_at hl 1 rfl) ?_
      refine lv_bipush (v := 36) hx hb dX11_wayAt_35 rfl ?_
      refine q_icmp_lt hx hb (a := a1) (b := 36) e1 (by decide) (tgt := 47) dX11_wayAt_37 rfl (fun c30 => ?_) (fun c30 => ?_)
      · refine lv_aload_n hx hb dX11_wayAt_47 rfl (lv_at hl 0 rfl) ?_
        refine q_getR E hC0 g0 fa_RX11_70 dX11_wayAt_48 (fun q31 eq31 gq31 => ?_)
        refine q_getR E hC0 gq31 fa_RX11_295 dX11_wayAt_51 (fun q32 eq32 gq32 => ?_)
        refine lv_iload_n hx hb dX11_wayAt_54 rfl (lv_at hl 1 rfl) ?_
        refine q_iald E hC0 gq32 rfl rfl (fun _ h => h) (i_in (a := a1) e1 (by omega) (by omega)) dX11_wayAt_55 (fun v33 ev33 _ _ => ?_)
        refine lv_istore_n hx hb dX11_wayAt_56 rfl hl (by decide) rfl (fun ls hl => ?_)
        replace hl : lv_has ls 4 [(3, .int v33), (0, .ref h0), (1, .int p1), (2, .int p2)] := hl
        refine lv_aload_n hx hb dX11_wayAt_57 rfl (lv_at hl 1 rfl) ?_
        refine lv_iload_n hx hb dX11_wayAt_58 rfl (lv_at hl 3 rfl) ?_
        refine q_if_ne hx hb (a := a2) e2 (tgt := 69) dX11_wayAt_59 rfl (fun c34 => ?_) (fun c34 => ?_)
        · refine lv_iload_n hx hb dX11_wayAt_69 rfl (lv_at hl 0 rfl) ?_
          refine lv_bipush (v := 6) hx hb dX11_wayAt_70 rfl ?_
          refine lv_idiv hx hb dX11_wayAt_72 (by decide) (lv_topi (fun v35 ev35 => ?_))
          refine q_goI (q_runV (As := [.int v35]) (rest := []) E hC0 hS28 (m_X11_answer l X Γ H0 hC0 h0 g0 v35 (a1 := v35.toInt) rfl) cw_X11_answer cl_RX11_191 g0 ⟨rfl, rfl⟩ rfl hl.1 rfl (Nat.zero_le _) (by decide) dX11_wayAt_73) hS28 (fun v36 H36 locs36 hr36 hC36 hS36 => ?_)
          obtain ⟨hp36, hr36⟩ := hr36
          have hKp36 := hKp0.tr (hp36.mono rfl)
          have f36_0 := hr36
          exact ret v36 H36 locs36 _ _ dX11_wayAt_76 ⟨hKp36, trivial⟩ hC36 hS36
        · refine lv_iload_n hx hb dX11_wayAt_62 rfl (lv_at hl 0 rfl) ?_
          refine lv_bipush (v := 6) hx hb dX11_wayAt_63 rfl ?_
          refine lv_irem hx hb dX11_wayAt_65 (by decide) (lv_topi (fun v37 ev37 => ?_))
          have ev37b := i_remB ev37 rfl (show (6 : Int32).toInt = 6 from by decide) (by decide)
          refine lv_goto (tgt := 73) hx hb dX11_wayAt_66 rfl ?_
          refine q_goI (q_runV (As := [.int v37]) (rest := []) E hC0 hS28 (m_X11_answer l X Γ H0 hC0 h0 g0 v37 (a1 := v37.toInt) rfl) cw_X11_answer cl_RX11_191 g0 ⟨rfl, rfl⟩ rfl hl.1 rfl (Nat.zero_le _) (by decide) dX11_wayAt_73) hS28 (fun v38 H38 locs38 hr38 hC38 hS38 => ?_)
          obtain ⟨hp38, hr38⟩ := hr38
          have hKp38 := hKp0.tr (hp38.mono rfl)
          have f38_0 := hr38
          exact ret v38 H38 locs38 _ _ dX11_wayAt_76 ⟨hKp38, trivial⟩ hC38 hS38
      · refine lv_aload_n hx hb dX11_wayAt_40 rfl (lv_at hl 0 rfl) ?_
        refine lv_bipush (v := 8) hx hb dX11_wayAt_41 rfl ?_
        refine q_goI (q_runV (As := [.int 8]) (rest := []) E hC0 hS28 (m_X11_refuse l X Γ H0 hC0 h0 g0 8 (a1 := 8) (by decide)) cw_X11_refuse cl_RX11_146 g0 ⟨rfl, rfl⟩ rfl hl.1 rfl (Nat.zero_le _) (by decide) dX11_wayAt_43) hS28 (fun v39 H39 locs39 hr39 hC39 hS39 => ?_)
        obtain ⟨hp39, hr39⟩ := hr39
        have hKp39 := hKp0.tr (hp39.mono rfl)
        have f39_0 := hr39
        exact ret v39 H39 locs39 _ _ dX11_wayAt_46 ⟨hKp39, trivial⟩ hC39 hS39
    · refine q_if_eq hx hb (a := 0) (by decide) (tgt := 40) dX11_wayAt_31 rfl (fun c40 => ?_) (fun c40 => absurd c40 (by omega))
      refine lv_aload_n hx hb dX11_wayAt_40 rfl (lv_at hl 0 rfl) ?_
      refine lv_bipush (v := 8) hx hb dX11_wayAt_41 rfl ?_
      refine q_goI (q_runV (As := [.int 8]) (rest := []) E hC0 hS28 (m_X11_refuse l X Γ H0 hC0 h0 g0 8 (a1 := 8) (by decide)) cw_X11_refuse cl_RX11_146 g0 ⟨rfl, rfl⟩ rfl hl.1 rfl (Nat.zero_le _) (by decide) dX11_wayAt_43) hS28 (fun v41 H41 locs41 hr41 hC41 hS41 => ?_)
      obtain ⟨hp41, hr41⟩ := hr41
      have hKp41 := hKp0.tr (hp41.mono rfl)
      have f41_0 := hr41
      exact ret v41 H41 locs41 _ _ dX11_wayAt_46 ⟨hKp41, trivial⟩ hC41 hS41
  · refine q_if_ne hx hb (a := 0) (by decide) (tgt := 16) dX11_wayAt_7 rfl (fun c42 => absurd c42 (by omega)) (fun c42 => ?_)
    refine lv_aload_n hx hb dX11_wayAt_10 rfl (lv_at hl 0 rfl) ?_
    refine lv_iconst (v := 5) hx hb dX11_wayAt_11 rfl ?_
    refine q_goI (q_runV (As := [.int 5]) (rest := []) E hC0 hS22 (m_X11_refuse l X Γ H0 hC0 h0 g0 5 (a1 := 5) (by decide)) cw_X11_refuse cl_RX11_146 g0 ⟨rfl, rfl⟩ rfl hl.1 rfl (Nat.zero_le _) (by decide) dX11_wayAt_12) hS22 (fun v43 H43 locs43 hr43 hC43 hS43 => ?_)
    obtain ⟨hp43, hr43⟩ := hr43
    have hKp43 := hKp0.tr (hp43.mono rfl)
    have f43_0 := hr43
    exact ret v43 H43 locs43 _ _ dX11_wayAt_15 ⟨hKp43, trivial⟩ hC43 hS43
set_option maxRecDepth 100000 in
set_option maxHeartbeats 4000000 in
theorem m_X11_isPeace (l : Launch) (X : xW) (Γ : Nat → Option Nat) (H0 : Heap) (hC0 : Conf X Γ H0) (h0 : Nat) (g0 : Γ h0 = some 0) : Ctr l X Γ yX11_isPeace cX11_isPeace 1 (some .boolean) 4 [.ref h0] H0 (QI X Γ (fun v H1 => Kp X Γ [0, 2, 3, 4, 5, 18, 21, 23, 25, 27] H0 H1 ∧ (v = 0 ∨ v = 1))) := by
  refine q_enterZ (own := "SnowForts") (by decide) rfl (Nat.le_of_ble_eq_true rfl) ?_
  intro p e s m args below meth c ls Qz E hl ret hS0
  have hx := E.1; have hb := E.2.1
  have hKp0 : Kp X Γ [0, 2, 3, 4, 5, 18, 21, 23, 25, 27] H0 H0 := Kp.rf
  have hl : lv_has ls 1 [(0, .ref h0)] := hl
  refine lv_aload_n hx hb dX11_isPeace_0 rfl (lv_at hl 0 rfl) ?_
  refine q_getR E hC0 g0 fa_RX11_70 dX11_isPeace_1 (fun q21 eq21 gq21 => ?_)
  refine lv_aload_n hx hb dX11_isPeace_4 rfl (lv_at hl 0 rfl) ?_
  refine q_getR E hC0 g0 fa_RX11_42 dX11_isPeace_5 (fun q22 eq22 gq22 => ?_)
  refine q_goI (q_runV (As := [.ref q22]) (rest := []) E hC0 hS0 (m_X7_costOver l X Γ H0 hC0 q21 gq21 q22 gq22) cw_X7_costOver cl_RX11_284 gq21 ⟨rfl, rfl⟩ rfl hl.1 rfl (Nat.zero_le _) (by decide) dX11_isPeace_8) hS0 (fun v23 H23 locs23 hr23 hC23 hS23 => ?_)
  obtain ⟨hp23, hr23⟩ := hr23
  have hKp23 := hKp0.tr (hp23.mono rfl)
  refine lv_iconst (v := 4) hx hb dX11_isPeace_11 rfl ?_
  refine q_icmp_gt hx hb (a := v23.toInt) (b := 4) rfl (by decide) (tgt := 19) dX11_isPeace_12 rfl (fun c24 => ?_) (fun c24 => ?_)
  · refine lv_iconst (v := 0) hx hb dX11_isPeace_19 rfl ?_
    exact ret 0 H23 locs23 _ _ dX11_isPeace_20 (Or.inl rfl) ⟨hKp23, Or.inl rfl⟩ hC23 hS23
  · refine lv_iconst (v := 1) hx hb dX11_isPeace_15 rfl ?_
    refine lv_goto (tgt := 20) hx hb dX11_isPeace_16 rfl ?_
    exact ret 1 H23 locs23 _ _ dX11_isPeace_20 (Or.inr rfl) ⟨hKp23, Or.inr rfl⟩ hC23 hS23
set_option maxRecDepth 100000 in
set_option maxHeartbeats 4000000 in
theorem m_X11_peace (l : Launch) (X : xW) (Γ : Nat → Option Nat) (H0 : Heap) (hC0 : Conf X Γ H0) (h0 : Nat) (g0 : Γ h0 = some 0) : Ctr l X Γ yX11_peace cX11_peace 1 (some .int) 5 [.ref h0] H0 (QI X Γ (fun v H1 => Kp X Γ [0, 2, 3, 4, 5, 18, 21, 23, 25, 27] H0 H1 ∧ (True))) := by
  refine q_enterI (own := "SnowForts") (by decide) rfl (Nat.le_of_ble_eq_true rfl) ?_
  intro p e s m args below meth c ls Qz E hl ret hS0
  have hx := E.1; have hb := E.2.1
  have hKp0 : Kp X Γ [0, 2, 3, 4, 5, 18, 21, 23, 25, 27] H0 H0 := Kp.rf
  have hl : lv_has ls 1 [(0, .ref h0)] := hl
  refine lv_aload_n hx hb dX11_peace_0 rfl (lv_at hl 0 rfl) ?_
  refine lv_aload_n hx hb dX11_peace_1 rfl (lv_at hl 0 rfl) ?_
  refine q_goI (q_runV (As := []) (rest := [.ref h0]) E hC0 hS0 (m_X11_isPeace l X Γ H0 hC0 h0 g0) cw_X11_isPeace cl_RX11_298 g0 ⟨rfl, rfl⟩ rfl hl.1 rfl (show _ ≤ _ from by simp [Value.category]) (by decide) dX11_peace_2) hS0 (fun v21 H21 locs21 hr21 hC21 hS21 => ?_)
  obtain ⟨hp21, hr21⟩ := hr21
  have hKp21 := hKp0.tr (hp21.mono rfl)
  rcases hr21 with rfl | rfl
  · refine q_if_eq hx hb (a := 0) (by decide) (tgt := 12) dX11_peace_5 rfl (fun c22 => ?_) (fun c22 => absurd c22 (by omega))
    refine lv_iconst (v := 0) hx hb dX11_peace_12 rfl ?_
    refine q_goI (q_runV (As := [.int 0]) (rest := []) E hC21 hS21 (m_X11_answer l X Γ H21 hC21 h0 g0 0 (a1 := 0) (by decide)) cw_X11_answer cl_RX11_191 g0 ⟨rfl, rfl⟩ rfl hl.1 rfl (Nat.zero_le _) (by decide) dX11_peace_13) hS21 (fun v23 H23 locs23 hr23 hC23 hS23 => ?_)
    obtain ⟨hp23, hr23⟩ := hr23
    have hKp23 := hKp21.tr (hp23.mono rfl)
    have f23_0 := hr23
    exact ret v23 H23 locs23 _ _ dX11_peace_16 ⟨hKp23, trivial⟩ hC23 hS23
  · refine q_if_eq hx hb (a := 1) (by decide) (tgt := 12) dX11_peace_5 rfl (fun c24 => absurd c24 (by omega)) (fun c24 => ?_)
    refine lv_iconst (v := 1) hx hb dX11_peace_8 rfl ?_
    refine lv_goto (tgt := 13) hx hb dX11_peace_9 rfl ?_
    refine q_goI (q_runV (As := [.int 1]) (rest := []) E hC21 hS21 (m_X11_answer l X Γ H21 hC21 h0 g0 1 (a1 := 1) (by decide)) cw_X11_answer cl_RX11_191 g0 ⟨rfl, rfl⟩ rfl hl.1 rfl (Nat.zero_le _) (by decide) dX11_peace_13) hS21 (fun v25 H25 locs25 hr25 hC25 hS25 => ?_)
    obtain ⟨hp25, hr25⟩ := hr25
    have hKp25 := hKp21.tr (hp25.mono rfl)
    have f25_0 := hr25
    exact ret v25 H25 locs25 _ _ dX11_peace_16 ⟨hKp25, trivial⟩ hC25 hS25
set_option maxRecDepth 100000 in
set_option maxHeartbeats 4000000 in
theorem m_X9_looksAt (l : Launch) (X : xW) (Γ : Nat → Option Nat) (H0 : Heap) (hC0 : Conf X Γ H0) (h0 : Nat) (g0 : Γ h0 = some 5) (p1 : Int32) {a1 : Int} (e1 : p1.toInt = a1) : Ctr l X Γ yX9_looksAt cX9_looksAt 2 (some .boolean) 2 [.ref h0, .int p1] H0 (QI X Γ (fun v H1 => Kp X Γ [0, 2, 3, 4, 5, 18, 21, 23, 25, 27] H0 H1 ∧ (v = 0 ∨ v = 1))) := by
  refine q_enterZ (own := "SnowForts$Yard") (by decide) rfl (Nat.le_of_ble_eq_true rfl) ?_
  intro p e s m args below meth c ls Qz E hl ret hS0
  have hx := E.1; have hb := E.2.1
  have hKp0 : Kp X Γ [0, 2, 3, 4, 5, 18, 21, 23, 25, 27] H0 H0 := Kp.rf
  have hl : lv_has ls 2 [(0, .ref h0), (1, .int p1)] := hl
  refine lv_aload_n hx hb dX9_looksAt_0 rfl (lv_at hl 0 rfl) ?_
  refine lv_iload_n hx hb dX9_looksAt_1 rfl (lv_at hl 1 rfl) ?_
  refine q_goIp (q_runV (As := [.int p1]) (rest := []) E hC0 hS0 (m_X9_holds l X Γ H0 hC0 h0 g0 p1 (a1 := a1) e1) cw_X9_holds cl_RX9_99 g0 ⟨rfl, rfl⟩ rfl hl.1 rfl (Nat.zero_le _) (by decide) dX9_looksAt_2) hS0 (fun v21 locs21 hr21 hS21 => ?_)
  rcases hr21 with ⟨rfl, f21a0, f21a1⟩ | ⟨rfl, -⟩
  · refine q_if_ne hx hb (a := 1) (by decide) (tgt := 10) dX9_looksAt_5 rfl (fun c22 => ?_) (fun c22 => absurd c22 (by omega))
    refine lv_aload_n hx hb dX9_looksAt_10 rfl (lv_at hl 0 rfl) ?_
    refine q_getR E hC0 g0 fa_RX9_49 dX9_looksAt_11 (fun q23 eq23 gq23 => ?_)
    refine lv_iload_n hx hb dX9_looksAt_14 rfl (lv_at hl 1 rfl) ?_
    refine lv_iconst (v := 1) hx hb dX9_looksAt_15 rfl ?_
    refine q_iast E hC0 hS21 gq23 (by decide) rfl rfl (i_in (a := a1) e1 (by omega) (by omega)) tv_F dX9_looksAt_16 (fun H24 locs24 hC24 hS24 U24 => ?_)
    have hKp24 := Kp.upA gq23 rfl (by decide) rfl U24 hKp0
    refine lv_aload_n hx hb dX9_looksAt_17 rfl (lv_at hl 0 rfl) ?_
    refine q_getR E hC24 g0 fa_RX9_46 dX9_looksAt_18 (fun q25 eq25 gq25 => ?_)
    refine lv_iload_n hx hb dX9_looksAt_21 rfl (lv_at hl 1 rfl) ?_
    refine q_iald E hC24 gq25 rfl rfl (fun _ h => h) (i_in (a := a1) e1 (by omega) (by omega)) dX9_looksAt_22 (fun v26 ev26 _ _ => ?_)
    refine lv_iconst (v := 1) hx hb dX9_looksAt_23 rfl ?_
    refine q_icmp_ne hx hb (a := v26.toInt) (b := 1) rfl (by decide) (tgt := 31) dX9_looksAt_24 rfl (fun c27 => ?_) (fun c27 => ?_)
    · refine lv_iconst (v := 0) hx hb dX9_looksAt_31 rfl ?_
      exact ret 0 H24 locs24 _ _ dX9_looksAt_32 (Or.inl rfl) ⟨hKp24, Or.inl rfl⟩ hC24 hS24
    · refine lv_iconst (v := 1) hx hb dX9_looksAt_27 rfl ?_
      refine lv_goto (tgt := 32) hx hb dX9_looksAt_28 rfl ?_
      exact ret 1 H24 locs24 _ _ dX9_looksAt_32 (Or.inr rfl) ⟨hKp24, Or.inr rfl⟩ hC24 hS24
  · refine q_if_ne hx hb (a := 0) (by decide) (tgt := 10) dX9_looksAt_5 rfl (fun c28 => absurd c28 (by omega)) (fun c28 => ?_)
    refine lv_iconst (v := 0) hx hb dX9_looksAt_8 rfl ?_
    exact ret 0 H0 locs21 _ _ dX9_looksAt_9 (Or.inl rfl) ⟨hKp0, Or.inl rfl⟩ hC0 hS21
set_option maxRecDepth 100000 in
set_option maxHeartbeats 4000000 in
theorem m_X11_look (l : Launch) (X : xW) (Γ : Nat → Option Nat) (H0 : Heap) (hC0 : Conf X Γ H0) (h0 : Nat) (g0 : Γ h0 = some 0) (p1 : Int32) {a1 : Int} (e1 : p1.toInt = a1) (p2 : Int32) {a2 : Int} (e2 : p2.toInt = a2) : Ctr l X Γ yX11_look cX11_look 3 (some .int) 3 [.ref h0, .int p1, .int p2] H0 (QI X Γ (fun v H1 => Kp X Γ [0, 2, 3, 4, 5, 18, 21, 23, 25, 27] H0 H1 ∧ (True))) := by
  refine q_enterI (own := "SnowForts") (by decide) rfl (Nat.le_of_ble_eq_true rfl) ?_
  intro p e s m args below meth c ls Qz E hl ret hS0
  have hx := E.1; have hb := E.2.1
  have hKp0 : Kp X Γ [0, 2, 3, 4, 5, 18, 21, 23, 25, 27] H0 H0 := Kp.rf
  have hl : lv_has ls 3 [(0, .ref h0), (1, .int p1), (2, .int p2)] := hl
  refine lv_aload_n hx hb dX11_look_0 rfl (lv_at hl 0 rfl) ?_
  refine q_getR E hC0 g0 fa_RX11_42 dX11_look_1 (fun q21 eq21 gq21 => ?_)
  refine lv_iload_n hx hb dX11_look_4 rfl (lv_at hl 1 rfl) ?_
  refine lv_iload_n hx hb dX11_look_5 rfl (lv_at hl 2 rfl) ?_
  refine q_goIp (q_runV (As := [.int p1, .int p2]) (rest := []) E hC0 hS0 (m_X9_isCell l X Γ H0 hC0 q21 gq21 p1 (a1 := a1) e1 p2 (a2 := a2) e2) cw_X9_isCell cl_RX11_209 gq21 ⟨rfl, rfl⟩ rfl hl.1 rfl (Nat.zero_le _) (by decide) dX11_look_6) hS0 (fun v22 locs22 hr22 hS22 => ?_)
  rcases hr22 with ⟨rfl, f22a0, f22a1, f22a2, f22a3⟩ | ⟨rfl, -⟩
  · refine q_if_ne hx hb (a := 1) (by decide) (tgt := 18) dX11_look_9 rfl (fun c23 => ?_) (fun c23 => absurd c23 (by omega))
    refine lv_aload_n hx hb dX11_look_18 rfl (lv_at hl 0 rfl) ?_
    refine lv_aload_n hx hb dX11_look_19 rfl (lv_at hl 0 rfl) ?_
    refine q_getR E hC0 g0 fa_RX11_42 dX11_look_20 (fun q24 eq24 gq24 => ?_)
    refine lv_iload_n hx hb dX11_look_23 rfl (lv_at hl 2 rfl) ?_
    refine lv_bipush (v := 6) hx hb dX11_look_24 rfl ?_
    refine lv_imul hx hb dX11_look_26 (lv_topi (fun v25 ev25 => ?_))
    have ev25i : v25.toInt = (a2 * 6) := i_mul ev25 e2 (by decide) (by omega) (by omega)
    refine lv_iload_n hx hb dX11_look_27 rfl (lv_at hl 1 rfl) ?_
    refine lv_iadd hx hb dX11_look_28 (lv_topi (fun v26 ev26 => ?_))
    have ev26i : v26.toInt = ((a2 * 6) + a1) := i_add ev26 ev25i e1 (by omega) (by omega)
    refine q_goI (q_runV (As := [.int v26]) (rest := [.ref h0]) E hC0 hS22 (m_X9_looksAt l X Γ H0 hC0 q24 gq24 v26 (a1 := ((a2 * 6) + a1)) ev26i) cw_X9_looksAt cl_RX11_301 gq24 ⟨rfl, rfl⟩ rfl hl.1 rfl (show _ ≤ _ from by simp [Value.category]) (by decide) dX11_look_29) hS22 (fun v27 H27 locs27 hr27 hC27 hS27 => ?_)
    obtain ⟨hp27, hr27⟩ := hr27
    have hKp27 := hKp0.tr (hp27.mono rfl)
    rcases hr27 with rfl | rfl
    · refine q_if_eq hx hb (a := 0) (by decide) (tgt := 39) dX11_look_32 rfl (fun c28 => ?_) (fun c28 => absurd c28 (by omega))
      refine lv_iconst (v := 0) hx hb dX11_look_39 rfl ?_
      refine q_goI (q_runV (As := [.int 0]) (rest := []) E hC27 hS27 (m_X11_answer l X Γ H27 hC27 h0 g0 0 (a1 := 0) (by decide)) cw_X11_answer cl_RX11_191 g0 ⟨rfl, rfl⟩ rfl hl.1 rfl (Nat.zero_le _) (by decide) dX11_look_40) hS27 (fun v29 H29 locs29 hr29 hC29 hS29 => ?_)
      obtain ⟨hp29, hr29⟩ := hr29
      have hKp29 := hKp27.tr (hp29.mono rfl)
      have f29_0 := hr29
      exact ret v29 H29 locs29 _ _ dX11_look_43 ⟨hKp29, trivial⟩ hC29 hS29
    · refine q_if_eq hx hb (a := 1) (by decide) (tgt := 39) dX11_look_32 rfl (fun c30 => absurd c30 (by omega)) (fun c30 => ?_)
      refine lv_iconst (v := 1) hx hb dX11_look_35 rfl ?_
      refine lv_goto (tgt := 40) hx hb dX11_look_36 rfl ?_
      refine q_goI (q_runV (As := [.int 1]) (rest := []) E hC27 hS27 (m_X11_answer l X Γ H27 hC27 h0 g0 1 (a1 := 1) (by decide)) cw_X11_answer cl_RX11_191 g0 ⟨rfl, rfl⟩ rfl hl.1 rfl (Nat.zero_le _) (by decide) dX11_look_40) hS27 (fun v31 H31 locs31 hr31 hC31 hS31 => ?_)
      obtain ⟨hp31, hr31⟩ := hr31
      have hKp31 := hKp27.tr (hp31.mono rfl)
      have f31_0 := hr31
      exact ret v31 H31 locs31 _ _ dX11_look_43 ⟨hKp31, trivial⟩ hC31 hS31
  · refine q_if_ne hx hb (a := 0) (by decide) (tgt := 18) dX11_look_9 rfl (fun c32 => absurd c32 (by omega)) (fun c32 => ?_)
    refine lv_aload_n hx hb dX11_look_12 rfl (lv_at hl 0 rfl) ?_
    refine lv_iconst (v := 2) hx hb dX11_look_13 rfl ?_
    refine q_goI (q_runV (As := [.int 2]) (rest := []) E hC0 hS22 (m_X11_refuse l X Γ H0 hC0 h0 g0 2 (a1 := 2) (by decide)) cw_X11_refuse cl_RX11_146 g0 ⟨rfl, rfl⟩ rfl hl.1 rfl (Nat.zero_le _) (by decide) dX11_look_14) hS22 (fun v33 H33 locs33 hr33 hC33 hS33 => ?_)
    obtain ⟨hp33, hr33⟩ := hr33
    have hKp33 := hKp0.tr (hp33.mono rfl)
    have f33_0 := hr33
    exact ret v33 H33 locs33 _ _ dX11_look_17 ⟨hKp33, trivial⟩ hC33 hS33
set_option maxRecDepth 100000 in
set_option maxHeartbeats 4000000 in
theorem m_X9_hidingCells (l : Launch) (X : xW) (Γ : Nat → Option Nat) (H0 : Heap) (hC0 : Conf X Γ H0) (h0 : Nat) (g0 : Γ h0 = some 5) (p1 : Int32) {a1 : Int} (e1 : p1.toInt = a1) : Ctr l X Γ yX9_hidingCells cX9_hidingCells 4 (some .int) 1 [.ref h0, .int p1] H0 (QI X Γ (fun v H1 => H1 = H0 ∧ (True))) := by
  refine q_enterI (own := "SnowForts$Yard") (by decide) rfl (Nat.le_of_ble_eq_true rfl) ?_
  intro p e s m args below meth c ls Qz E hl ret hS0
  have hx := E.1; have hb := E.2.1
  have hl : lv_has ls 4 [(0, .ref h0), (1, .int p1)] := hl
  refine lv_iconst (v := 0) hx hb dX9_hidingCells_0 rfl ?_
  refine lv_istore_n hx hb dX9_hidingCells_1 rfl hl (by decide) rfl (fun ls hl => ?_)
  replace hl : lv_has ls 4 [(2, .int 0), (0, .ref h0), (1, .int p1)] := hl
  refine lv_iconst (v := 0) hx hb dX9_hidingCells_2 rfl ?_
  refine lv_istore_n hx hb dX9_hidingCells_3 rfl hl (by decide) rfl (fun ls hl => ?_)
  replace hl : lv_has ls 4 [(3, .int 0), (2, .int 0), (0, .ref h0), (1, .int p1)] := hl
  have L4 : ∀ (n23 : Nat) (locs23 : List Loc) (v21 : Int32) (z21 : Int) (v22 : Int32) (z22 : Int) (ls : Array Slot), (36 - z21).toNat < n23 → v21.toInt = z21 → v22.toInt = z22 → z21 ≤ 36 → 0 ≤ z21 → va_S (AΓ Γ) H0 H0 locs23 → lv_has ls 4 [(3, .int v21), (2, .int v22), (0, .ref h0), (1, .int p1)] → W p l e (rmL 1) s m args below meth c H0 locs23 0 0 Qz (F0 m 4 ls []) := by
    intro n23
    induction n23 with
    | zero => intro locs23 v21 z21 v22 z22 ls hm23 ev21 ev22 iv23_0 iv23_1 hS23 hl; exact absurd hm23 (Nat.not_lt_zero _)
    | succ n23 ih23 =>
      intro locs23 v21 z21 v22 z22 ls hm23 ev21 ev22 iv23_0 iv23_1 hS23 hl
      refine lv_iload_n hx hb dX9_hidingCells_4 rfl (lv_at hl 0 rfl) ?_
      refine lv_bipush (v := 36) hx hb dX9_hidingCells_5 rfl ?_
      refine q_icmp_ge hx hb (a := z21) (b := 36) ev21 (by decide) (tgt := 46) dX9_hidingCells_7 rfl (fun c24 => ?_) (fun c24 => ?_)
      · refine lv_iload_n hx hb dX9_hidingCells_46 rfl (lv_at hl 1 rfl) ?_
        exact ret v22 H0 locs23 _ _ dX9_hidingCells_47 ⟨rfl, trivial⟩ hC0 hS23
      · refine lv_aload_n hx hb dX9_hidingCells_10 rfl (lv_at hl 2 rfl) ?_
        refine lv_iload_n hx hb dX9_hidingCells_11 rfl (lv_at hl 3 rfl) ?_
        refine lv_iload_n hx hb dX9_hidingCells_12 rfl (lv_at hl 0 rfl) ?_
        refine q_goIp (q_runV (As := [.int p1, .int v21]) (rest := []) E hC0 hS23 (m_X9_isIn l X Γ H0 hC0 h0 g0 p1 (a1 := a1) e1 v21 (a2 := z21) ev21) cw_X9_isIn cl_RX9_111 g0 ⟨rfl, rfl⟩ rfl hl.1 rfl (Nat.zero_le _) (by decide) dX9_hidingCells_13) hS23 (fun v25 locs25 hr25 hS25 => ?_)
        rcases hr25 with rfl | rfl
        · refine q_if_eq hx hb (a := 0) (by decide) (tgt := 40) dX9_hidingCells_16 rfl (fun c26 => ?_) (fun c26 => absurd c26 (by omega))
          obtain ⟨v27, ev27⟩ : ∃ z, z = v21 + Int32.ofInt 1 := ⟨_, rfl⟩
          have ev27i : v27.toInt = (z21 + 1) := i_add ev27 ev21 (by decide) (by omega) (by omega)
          refine lv_iinc hx hb dX9_hidingCells_40 hl (k := 0) rfl ev27.symm (by decide) rfl (fun ls hl => ?_)
          replace hl : lv_has ls 4 [(3, .int v27), (2, .int v22), (0, .ref h0), (1, .int p1)] := hl
          refine lv_goto (tgt := 4) hx hb dX9_hidingCells_43 rfl ?_
          exact ih23 locs25 v27 ((z21 + 1)) v22 (z22) ls (by omega) ev27i ev22 (by omega) (by omega) hS25 hl
        · refine q_if_eq hx hb (a := 1) (by decide) (tgt := 40) dX9_hidingCells_16 rfl (fun c28 => absurd c28 (by omega)) (fun c28 => ?_)
          refine lv_aload_n hx hb dX9_hidingCells_19 rfl (lv_at hl 2 rfl) ?_
          refine q_getR E hC0 g0 fa_RX9_37 dX9_hidingCells_20 (fun q29 eq29 gq29 => ?_)
          refine lv_iload_n hx hb dX9_hidingCells_23 rfl (lv_at hl 0 rfl) ?_
          refine q_iald E hC0 gq29 rfl rfl (fun _ h => h) (i_in (a := z21) ev21 (by omega) (by omega)) dX9_hidingCells_24 (fun v30 ev30 _ _ => ?_)
          refine q_if_le hx hb (a := v30.toInt) rfl (tgt := 40) dX9_hidingCells_25 rfl (fun c31 => ?_) (fun c31 => ?_)
          · obtain ⟨v32, ev32⟩ : ∃ z, z = v21 + Int32.ofInt 1 := ⟨_, rfl⟩
            have ev32i : v32.toInt = (z21 + 1) := i_add ev32 ev21 (by decide) (by omega) (by omega)
            refine lv_iinc hx hb dX9_hidingCells_40 hl (k := 0) rfl ev32.symm (by decide) rfl (fun ls hl => ?_)
            replace hl : lv_has ls 4 [(3, .int v32), (2, .int v22), (0, .ref h0), (1, .int p1)] := hl
            refine lv_goto (tgt := 4) hx hb dX9_hidingCells_43 rfl ?_
            exact ih23 locs25 v32 ((z21 + 1)) v22 (z22) ls (by omega) ev32i ev22 (by omega) (by omega) hS25 hl
          · refine lv_aload_n hx hb dX9_hidingCells_28 rfl (lv_at hl 2 rfl) ?_
            refine q_getR E hC0 g0 fa_RX9_49 dX9_hidingCells_29 (fun q33 eq33 gq33 => ?_)
            refine lv_iload_n hx hb dX9_hidingCells_32 rfl (lv_at hl 0 rfl) ?_
            refine q_iald E hC0 gq33 rfl rfl (fun _ h => h) (i_in (a := z21) ev21 (by omega) (by omega)) dX9_hidingCells_33 (fun v34 ev34 _ _ => ?_)
            refine q_if_ne hx hb (a := v34.toInt) rfl (tgt := 40) dX9_hidingCells_34 rfl (fun c35 => ?_) (fun c35 => ?_)
            · obtain ⟨v36, ev36⟩ : ∃ z, z = v21 + Int32.ofInt 1 := ⟨_, rfl⟩
              have ev36i : v36.toInt = (z21 + 1) := i_add ev36 ev21 (by decide) (by omega) (by omega)
              refine lv_iinc hx hb dX9_hidingCells_40 hl (k := 0) rfl ev36.symm (by decide) rfl (fun ls hl => ?_)
              replace hl : lv_has ls 4 [(3, .int v36), (2, .int v22), (0, .ref h0), (1, .int p1)] := hl
              refine lv_goto (tgt := 4) hx hb dX9_hidingCells_43 rfl ?_
              exact ih23 locs25 v36 ((z21 + 1)) v22 (z22) ls (by omega) ev36i ev22 (by omega) (by omega) hS25 hl
            · obtain ⟨v37, ev37⟩ : ∃ z, z = v22 + Int32.ofInt 1 := ⟨_, rfl⟩
              refine lv_iinc hx hb dX9_hidingCells_37 hl (k := 1) rfl ev37.symm (by decide) rfl (fun ls hl => ?_)
              replace hl : lv_has ls 4 [(2, .int v37), (3, .int v21), (0, .ref h0), (1, .int p1)] := hl
              obtain ⟨v38, ev38⟩ : ∃ z, z = v21 + Int32.ofInt 1 := ⟨_, rfl⟩
              have ev38i : v38.toInt = (z21 + 1) := i_add ev38 ev21 (by decide) (by omega) (by omega)
              refine lv_iinc hx hb dX9_hidingCells_40 hl (k := 1) rfl ev38.symm (by decide) rfl (fun ls hl => ?_)
              replace hl : lv_has ls 4 [(3, .int v38), (2, .int v37), (0, .ref h0), (1, .int p1)] := hl
              refine lv_goto (tgt := 4) hx hb dX9_hidingCells_43 rfl ?_
              exact ih23 locs25 v38 ((z21 + 1)) v37 (v37.toInt) ls (by omega) ev38i rfl (by omega) (by omega) hS25 hl
  exact L4 _ [] 0 0 0 0 ls (Nat.lt_succ_self _) (by decide) (by decide) (by omega) (by omega) hS0 hl
set_option maxRecDepth 100000 in
set_option maxHeartbeats 4000000 in
theorem m_X11_hiding (l : Launch) (X : xW) (Γ : Nat → Option Nat) (H0 : Heap) (hC0 : Conf X Γ H0) (h0 : Nat) (g0 : Γ h0 = some 0) (p1 : Int32) {a1 : Int} (e1 : p1.toInt = a1) : Ctr l X Γ yX11_hiding cX11_hiding 2 (some .int) 2 [.ref h0, .int p1] H0 (QI X Γ (fun v H1 => Kp X Γ [0, 2, 3, 4, 5, 18, 21, 23, 25, 27] H0 H1 ∧ (True))) := by
  refine q_enterI (own := "SnowForts") (by decide) rfl (Nat.le_of_ble_eq_true rfl) ?_
  intro p e s m args below meth c ls Qz E hl ret hS0
  have hx := E.1; have hb := E.2.1
  have hKp0 : Kp X Γ [0, 2, 3, 4, 5, 18, 21, 23, 25, 27] H0 H0 := Kp.rf
  have hl : lv_has ls 2 [(0, .ref h0), (1, .int p1)] := hl
  refine lv_iload_n hx hb dX11_hiding_0 rfl (lv_at hl 1 rfl) ?_
  refine q_goIp (q_runS (As := [.int p1]) (rest := []) E hS0 (m_X11_isHalf l X Γ H0 hC0 p1 (a0 := a1) e1) cw_X11_isHalf cl_RX11_263 rfl hl.1 rfl (Nat.zero_le _) (by decide) dX11_hiding_1) hS0 (fun v21 locs21 hr21 hS21 => ?_)
  rcases hr21 with ⟨rfl, f21a0, f21a1⟩ | ⟨rfl, -⟩
  · refine q_if_eq hx hb (a := 1) (by decide) (tgt := 22) dX11_hiding_4 rfl (fun c22 => absurd c22 (by omega)) (fun c22 => ?_)
    refine lv_aload_n hx hb dX11_hiding_7 rfl (lv_at hl 0 rfl) ?_
    refine lv_aload_n hx hb dX11_hiding_8 rfl (lv_at hl 0 rfl) ?_
    refine q_getR E hC0 g0 fa_RX11_42 dX11_hiding_9 (fun q23 eq23 gq23 => ?_)
    refine lv_iload_n hx hb dX11_hiding_12 rfl (lv_at hl 1 rfl) ?_
    refine q_goIp (q_runV (As := [.int p1]) (rest := [.ref h0]) E hC0 hS21 (m_X9_hidingCells l X Γ H0 hC0 q23 gq23 p1 (a1 := a1) e1) cw_X9_hidingCells cl_RX11_304 gq23 ⟨rfl, rfl⟩ rfl hl.1 rfl (show _ ≤ _ from by simp [Value.category]) (by decide) dX11_hiding_13) hS21 (fun v24 locs24 hr24 hS24 => ?_)
    refine q_goI (q_runV (As := [.int v24]) (rest := []) E hC0 hS24 (m_X11_answer l X Γ H0 hC0 h0 g0 v24 (a1 := v24.toInt) rfl) cw_X11_answer cl_RX11_191 g0 ⟨rfl, rfl⟩ rfl hl.1 rfl (Nat.zero_le _) (by decide) dX11_hiding_16) hS24 (fun v25 H25 locs25 hr25 hC25 hS25 => ?_)
    obtain ⟨hp25, hr25⟩ := hr25
    have hKp25 := hKp0.tr (hp25.mono rfl)
    have f25_0 := hr25
    refine lv_goto (tgt := 27) hx hb dX11_hiding_19 rfl ?_
    exact ret v25 H25 locs25 _ _ dX11_hiding_27 ⟨hKp25, trivial⟩ hC25 hS25
  · refine q_if_eq hx hb (a := 0) (by decide) (tgt := 22) dX11_hiding_4 rfl (fun c26 => ?_) (fun c26 => absurd c26 (by omega))
    refine lv_aload_n hx hb dX11_hiding_22 rfl (lv_at hl 0 rfl) ?_
    refine lv_iconst (v := 5) hx hb dX11_hiding_23 rfl ?_
    refine q_goI (q_runV (As := [.int 5]) (rest := []) E hC0 hS21 (m_X11_refuse l X Γ H0 hC0 h0 g0 5 (a1 := 5) (by decide)) cw_X11_refuse cl_RX11_146 g0 ⟨rfl, rfl⟩ rfl hl.1 rfl (Nat.zero_le _) (by decide) dX11_hiding_24) hS21 (fun v27 H27 locs27 hr27 hC27 hS27 => ?_)
    obtain ⟨hp27, hr27⟩ := hr27
    have hKp27 := hKp0.tr (hp27.mono rfl)
    have f27_0 := hr27
    exact ret v27 H27 locs27 _ _ dX11_hiding_27 ⟨hKp27, trivial⟩ hC27 hS27
set_option maxRecDepth 100000 in
set_option maxHeartbeats 4000000 in
theorem m_X11_sure (l : Launch) (X : xW) (Γ : Nat → Option Nat) (H0 : Heap) (hC0 : Conf X Γ H0) (h0 : Nat) (g0 : Γ h0 = some 0) (p1 : Int32) {a1 : Int} (e1 : p1.toInt = a1) (p2 : Int32) {a2 : Int} (e2 : p2.toInt = a2) : Ctr l X Γ yX11_sure cX11_sure 4 (some .int) 2 [.ref h0, .int p1, .int p2] H0 (QI X Γ (fun v H1 => Kp X Γ [0, 2, 3, 4, 5, 18, 21, 23, 25, 27] H0 H1 ∧ (True))) := by
  refine q_enterI (own := "SnowForts") (by decide) rfl (Nat.le_of_ble_eq_true rfl) ?_
  intro p e s m args below meth c ls Qz E hl ret hS0
  have hx := E.1; have hb := E.2.1
  have hKp0 : Kp X Γ [0, 2, 3, 4, 5, 18, 21, 23, 25, 27] H0 H0 := Kp.rf
  have hl : lv_has ls 4 [(0, .ref h0), (1, .int p1), (2, .int p2)] := hl
  refine lv_iload_n hx hb dX11_sure_0 rfl (lv_at hl 1 rfl) ?_
  refine q_goIp (q_runS (As := [.int p1]) (rest := []) E hS0 (m_X11_isHalf l X Γ H0 hC0 p1 (a0 := a1) e1) cw_X11_isHalf cl_RX11_263 rfl hl.1 rfl (Nat.zero_le _) (by decide) dX11_sure_1) hS0 (fun v21 locs21 hr21 hS21 => ?_)
  rcases hr21 with ⟨rfl, f21a0, f21a1⟩ | ⟨rfl, -⟩
  · refine q_if_eq hx hb (a := 1) (by decide) (tgt := 18) dX11_sure_4 rfl (fun c22 => absurd c22 (by omega)) (fun c22 => ?_)
    refine lv_iload_n hx hb dX11_sure_7 rfl (lv_at hl 2 rfl) ?_
    refine lv_i2l (v := p2.toInt64) hx hb dX11_sure_8 rfl (lv_topl (fun v23 ev23 => ?_))
    have ev23i : v23.toInt = a2 := l_ofi ev23.symm e2
    refine lv_iconst (v := 1) hx hb dX11_sure_9 rfl ?_
    refine lv_bipush (v := 18) hx hb dX11_sure_10 rfl ?_
    refine q_goIp (q_runS (As := [.long v23, .int 1, .int 18]) (rest := []) E hS21 (m_X11_isWithin l X Γ H0 hC0 v23 (a0 := a2) ev23i 1 (a1 := 1) (by decide) 18 (a2 := 18) (by decide)) cw_X11_isWithin cl_RX11_113 rfl hl.1 rfl (Nat.zero_le _) (by decide) dX11_sure_12) hS21 (fun v24 locs24 hr24 hS24 => ?_)
    rcases hr24 with ⟨rfl, f24a0, f24a1⟩ | ⟨rfl, f24b⟩
    · refine q_if_ne hx hb (a := 1) (by decide) (tgt := 24) dX11_sure_15 rfl (fun c25 => ?_) (fun c25 => absurd c25 (by omega))
      refine lv_aload_n hx hb dX11_sure_24 rfl (lv_at hl 0 rfl) ?_
      refine q_getR E hC0 g0 fa_RX11_42 dX11_sure_25 (fun q26 eq26 gq26 => ?_)
      refine lv_iload_n hx hb dX11_sure_28 rfl (lv_at hl 1 rfl) ?_
      refine q_goIp (q_runV (As := [.int p1]) (rest := []) E hC0 hS24 (m_X9_hidingCells l X Γ H0 hC0 q26 gq26 p1 (a1 := a1) e1) cw_X9_hidingCells cl_RX11_304 gq26 ⟨rfl, rfl⟩ rfl hl.1 rfl (Nat.zero_le _) (by decide) dX11_sure_29) hS24 (fun v27 locs27 hr27 hS27 => ?_)
      refine lv_istore_n hx hb dX11_sure_32 rfl hl (by decide) rfl (fun ls hl => ?_)
      replace hl : lv_has ls 4 [(3, .int v27), (0, .ref h0), (1, .int p1), (2, .int p2)] := hl
      refine lv_iload_n hx hb dX11_sure_33 rfl (lv_at hl 3 rfl) ?_
      refine lv_iload_n hx hb dX11_sure_34 rfl (lv_at hl 0 rfl) ?_
      have c28 := i_rng v27; rw [show v27.toInt = v27.toInt from rfl] at c28
      refine q_icmp_le hx hb (a := a2) (b := v27.toInt) e2 rfl (tgt := 47) dX11_sure_35 rfl (fun c29 => ?_) (fun c29 => ?_)
      · refine lv_aload_n hx hb dX11_sure_47 rfl (lv_at hl 1 rfl) ?_
        refine lv_iload_n hx hb dX11_sure_48 rfl (lv_at hl 0 rfl) ?_
        refine lv_iload_n hx hb dX11_sure_49 rfl (lv_at hl 3 rfl) ?_
        refine lv_isub hx hb dX11_sure_50 (lv_topi (fun v30 ev30 => ?_))
        have ev30i : v30.toInt = (v27.toInt - a2) := i_sub ev30 rfl e2 (by omega) (by omega)
        refine lv_iconst (v := 1) hx hb dX11_sure_51 rfl ?_
        refine lv_iadd hx hb dX11_sure_52 (lv_topi (fun v31 ev31 => ?_))
        have ev31i : v31.toInt = ((v27.toInt - a2) + 1) := i_add ev31 ev30i (by decide) (by omega) (by omega)
        refine q_goI (q_runV (As := [.int v31]) (rest := []) E hC0 hS27 (m_X11_answer l X Γ H0 hC0 h0 g0 v31 (a1 := ((v27.toInt - a2) + 1)) ev31i) cw_X11_answer cl_RX11_191 g0 ⟨rfl, rfl⟩ rfl hl.1 rfl (Nat.zero_le _) (by decide) dX11_sure_53) hS27 (fun v32 H32 locs32 hr32 hC32 hS32 => ?_)
        obtain ⟨hp32, hr32⟩ := hr32
        have hKp32 := hKp0.tr (hp32.mono rfl)
        have f32_0 := hr32
        exact ret v32 H32 locs32 _ _ dX11_sure_56 ⟨hKp32, trivial⟩ hC32 hS32
      · refine lv_aload_n hx hb dX11_sure_38 rfl (lv_at hl 1 rfl) ?_
        refine lv_bipush (v := 9) hx hb dX11_sure_39 rfl ?_
        refine q_goI (q_runV (As := [.int 9]) (rest := []) E hC0 hS27 (m_X11_refuse l X Γ H0 hC0 h0 g0 9 (a1 := 9) (by decide)) cw_X11_refuse cl_RX11_146 g0 ⟨rfl, rfl⟩ rfl hl.1 rfl (Nat.zero_le _) (by decide) dX11_sure_41) hS27 (fun v33 H33 locs33 hr33 hC33 hS33 => ?_)
        obtain ⟨hp33, hr33⟩ := hr33
        have hKp33 := hKp0.tr (hp33.mono rfl)
        have f33_0 := hr33
        refine lv_goto (tgt := 56) hx hb dX11_sure_44 rfl ?_
        exact ret v33 H33 locs33 _ _ dX11_sure_56 ⟨hKp33, trivial⟩ hC33 hS33
    · refine q_if_ne hx hb (a := 0) (by decide) (tgt := 24) dX11_sure_15 rfl (fun c34 => absurd c34 (by omega)) (fun c34 => ?_)
      refine lv_aload_n hx hb dX11_sure_18 rfl (lv_at hl 0 rfl) ?_
      refine lv_iconst (v := 5) hx hb dX11_sure_19 rfl ?_
      refine q_goI (q_runV (As := [.int 5]) (rest := []) E hC0 hS24 (m_X11_refuse l X Γ H0 hC0 h0 g0 5 (a1 := 5) (by decide)) cw_X11_refuse cl_RX11_146 g0 ⟨rfl, rfl⟩ rfl hl.1 rfl (Nat.zero_le _) (by decide) dX11_sure_20) hS24 (fun v35 H35 locs35 hr35 hC35 hS35 => ?_)
      obtain ⟨hp35, hr35⟩ := hr35
      have hKp35 := hKp0.tr (hp35.mono rfl)
      have f35_0 := hr35
      exact ret v35 H35 locs35 _ _ dX11_sure_23 ⟨hKp35, trivial⟩ hC35 hS35
  · refine q_if_eq hx hb (a := 0) (by decide) (tgt := 18) dX11_sure_4 rfl (fun c36 => ?_) (fun c36 => absurd c36 (by omega))
    refine lv_aload_n hx hb dX11_sure_18 rfl (lv_at hl 0 rfl) ?_
    refine lv_iconst (v := 5) hx hb dX11_sure_19 rfl ?_
    refine q_goI (q_runV (As := [.int 5]) (rest := []) E hC0 hS21 (m_X11_refuse l X Γ H0 hC0 h0 g0 5 (a1 := 5) (by decide)) cw_X11_refuse cl_RX11_146 g0 ⟨rfl, rfl⟩ rfl hl.1 rfl (Nat.zero_le _) (by decide) dX11_sure_20) hS21 (fun v37 H37 locs37 hr37 hC37 hS37 => ?_)
    obtain ⟨hp37, hr37⟩ := hr37
    have hKp37 := hKp0.tr (hp37.mono rfl)
    have f37_0 := hr37
    exact ret v37 H37 locs37 _ _ dX11_sure_23 ⟨hKp37, trivial⟩ hC37 hS37
set_option maxRecDepth 100000 in
set_option maxHeartbeats 4000000 in
theorem m_X6_holdsWithin (l : Launch) (X : xW) (Γ : Nat → Option Nat) (H0 : Heap) (hC0 : Conf X Γ H0) (h0 : Nat) (g0 : Γ h0 = some 1) (p1 : Int32) {a1 : Int} (e1 : p1.toInt = a1) (p2 : Int32) {a2 : Int} (e2 : p2.toInt = a2) : Ctr l X Γ yX6_holdsWithin cX6_holdsWithin 4 (some .boolean) 1 [.ref h0, .int p1, .int p2] H0 (QI X Γ (fun v H1 => H1 = H0 ∧ ((v = 1 ∧ (HW X H0 h0 a1 a2)) ∨ (v = 0 ∧ (NW X H0 h0 a1 a2))))) := by
  refine q_enterZ (own := "SnowForts$Tray") (by decide) rfl (Nat.le_of_ble_eq_true rfl) ?_
  intro p e s m args below meth c ls Qz E hl ret hS0
  have hx := E.1; have hb := E.2.1
  have hl : lv_has ls 4 [(0, .ref h0), (1, .int p1), (2, .int p2)] := hl
  refine lv_iconst (v := 0) hx hb dX6_holdsWithin_0 rfl ?_
  refine lv_istore_n hx hb dX6_holdsWithin_1 rfl hl (by decide) rfl (fun ls hl => ?_)
  replace hl : lv_has ls 4 [(3, .int 0), (0, .ref h0), (1, .int p1), (2, .int p2)] := hl
  have L2 : ∀ (n22 : Nat) (locs22 : List Loc) (v21 : Int32) (z21 : Int) (ls : Array Slot), (a1 - z21).toNat < n22 → v21.toInt = z21 → 0 ≤ z21 → HW X H0 h0 z21 a2 → va_S (AΓ Γ) H0 H0 locs22 → lv_has ls 4 [(3, .int v21), (0, .ref h0), (1, .int p1), (2, .int p2)] → W p l e (rmL 1) s m args below meth c H0 locs22 0 0 Qz (F0 m 2 ls []) := by
    intro n22
    induction n22 with
    | zero => intro locs22 v21 z21 ls hm22 ev21 iv22_0 iv22_1 hS22 hl; exact absurd hm22 (Nat.not_lt_zero _)
    | succ n22 ih22 =>
      intro locs22 v21 z21 ls hm22 ev21 iv22_0 iv22_1 hS22 hl
      have hw := iv22_1
      refine lv_iload_n hx hb dX6_holdsWithin_2 rfl (lv_at hl 0 rfl) ?_
      refine lv_iload_n hx hb dX6_holdsWithin_3 rfl (lv_at hl 2 rfl) ?_
      have c23 := i_rng p1; rw [show p1.toInt = a1 from e1] at c23
      refine q_icmp_ge hx hb (a := z21) (b := a1) ev21 e1 (tgt := 37) dX6_holdsWithin_4 rfl (fun c24 => ?_) (fun c24 => ?_)
      · refine lv_iconst (v := 1) hx hb dX6_holdsWithin_37 rfl ?_
        have hwf : HW X H0 h0 a1 a2 := HW.le hw (by omega)
        exact ret 1 H0 locs22 _ _ dX6_holdsWithin_38 (Or.inr rfl) ⟨rfl, Or.inl ⟨rfl, hwf⟩⟩ hC0 hS22
      · refine lv_aload_n hx hb dX6_holdsWithin_7 rfl (lv_at hl 1 rfl) ?_
        refine lv_iload_n hx hb dX6_holdsWithin_8 rfl (lv_at hl 0 rfl) ?_
        refine q_goIp (q_runV (As := [.int v21]) (rest := []) E hC0 hS22 (m_X6_hasPlace l X Γ H0 hC0 h0 g0 v21 (a1 := z21) ev21) cw_X6_hasPlace cl_RX6_28 g0 ⟨rfl, rfl⟩ rfl hl.1 rfl (Nat.zero_le _) (by decide) dX6_holdsWithin_9) hS22 (fun v25 locs25 hr25 hS25 => ?_)
        rcases hr25 with ⟨rfl, f25a0, f25a1, f25a2⟩ | ⟨rfl, f25b⟩
        · refine q_if_eq hx hb (a := 1) (by decide) (tgt := 29) dX6_holdsWithin_12 rfl (fun c26 => absurd c26 (by omega)) (fun c26 => ?_)
          refine lv_aload_n hx hb dX6_holdsWithin_15 rfl (lv_at hl 1 rfl) ?_
          refine q_getR E hC0 g0 fa_RX6_9 dX6_holdsWithin_16 (fun q27 eq27 gq27 => ?_)
          have eqn := eq27
          refine lv_iload_n hx hb dX6_holdsWithin_19 rfl (lv_at hl 0 rfl) ?_
          refine q_lald2 E hC0 gq27 rfl rfl (fun _ => rfl) (a := z21) ev21 (by omega) (by omega) dX6_holdsWithin_20 (fun v28 ev28 => ?_)
          have hvv : nuN X H0 h0 (z21 : Int).toNat = v28.toInt := by unfold nuN; rw [nuA_eq eqn, ev28]
          refine lv_iconst (v := 0) hx hb dX6_holdsWithin_21 rfl ?_
          refine lv_iload_n hx hb dX6_holdsWithin_22 rfl (lv_at hl 3 rfl) ?_
          refine q_goIp (q_runSN (As := [.long v28, .int 0, .int p2]) (rest := []) E hS25 (m_X11_isWithin l X Γ H0 hC0 v28 (a0 := v28.toInt) rfl 0 (a1 := 0) (by decide) p2 (a2 := a2) e2) cw_X11_isWithin cl_RX6_38 rfl hl.1 rfl (Nat.zero_le _) (by decide) dX6_holdsWithin_23) hS25 (fun v29 locs29 hr29 hS29 => ?_)
          rcases hr29 with ⟨rfl, f29a0, f29a1⟩ | ⟨rfl, f29b⟩
          · refine q_if_ne hx hb (a := 1) (by decide) (tgt := 31) dX6_holdsWithin_26 rfl (fun c30 => ?_) (fun c30 => absurd c30 (by omega))
            have hwn : HW X H0 h0 (z21 + 1) a2 := HW.step hw (by omega) (by omega) (by omega) (by omega)
            obtain ⟨v31, ev31⟩ : ∃ z, z = v21 + Int32.ofInt 1 := ⟨_, rfl⟩
            have ev31i : v31.toInt = (z21 + 1) := i_add ev31 ev21 (by decide) (by omega) (by omega)
            refine lv_iinc hx hb dX6_holdsWithin_31 hl (k := 0) rfl ev31.symm (by decide) rfl (fun ls hl => ?_)
            replace hl : lv_has ls 4 [(3, .int v31), (0, .ref h0), (1, .int p1), (2, .int p2)] := hl
            refine lv_goto (tgt := 2) hx hb dX6_holdsWithin_34 rfl ?_
            exact ih22 locs29 v31 ((z21 + 1)) ls (by omega) ev31i (by omega) (hwn) hS29 hl
          · refine q_if_ne hx hb (a := 0) (by decide) (tgt := 31) dX6_holdsWithin_26 rfl (fun c32 => absurd c32 (by omega)) (fun c32 => ?_)
            refine lv_iconst (v := 0) hx hb dX6_holdsWithin_29 rfl ?_
            have hnw : NW X H0 h0 a1 a2 := ⟨(z21 : Int).toNat, by omega, by omega⟩
            exact ret 0 H0 locs29 _ _ dX6_holdsWithin_30 (Or.inl rfl) ⟨rfl, Or.inr ⟨rfl, hnw⟩⟩ hC0 hS29
        · refine q_if_eq hx hb (a := 0) (by decide) (tgt := 29) dX6_holdsWithin_12 rfl (fun c33 => ?_) (fun c33 => absurd c33 (by omega))
          refine lv_iconst (v := 0) hx hb dX6_holdsWithin_29 rfl ?_
          have hnw : NW X H0 h0 a1 a2 := ⟨(z21 : Int).toNat, by omega, by omega⟩
          exact ret 0 H0 locs25 _ _ dX6_holdsWithin_30 (Or.inl rfl) ⟨rfl, Or.inr ⟨rfl, hnw⟩⟩ hC0 hS25
  exact L2 _ [] 0 0 ls (Nat.lt_succ_self _) (by decide) (by omega) (HW.nil) hS0 hl
