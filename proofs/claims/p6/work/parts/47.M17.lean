set_option maxRecDepth 100000 in
set_option maxHeartbeats 4000000 in
theorem m_X12_turns (l : Launch) (X : xW) (Γ : Nat → Option Nat) (H0 : Heap) (hC0 : Conf X Γ H0) (h0 : Nat) (g0 : Γ h0 = some 11) (p1 : Int32) {a1 : Int} (e1 : p1.toInt = a1) (p2 : Int32) {a2 : Int} (e2 : p2.toInt = a2) (p3 : Int32) {a3 : Int} (e3 : p3.toInt = a3) (p4 : Int32) {a4 : Int} (e4 : p4.toInt = a4) (ca : Nat) (gca : Γ ca = some 64) (uc : ∀ a, Γ a = some 64 → a = ca) : Ctr l X Γ yX12_turns cX12_turns 9 (some .int) 2 [.ref h0, .int p1, .int p2, .int p3, .int p4] H0 (QI X Γ (fun v H1 => Kp X Γ [1, 6, 7, 8, 9, 10, 11, 12, 14, 15, 16, 17, 19, 22, 24] H0 H1 ∧ (True))) := by
  refine q_enterI (own := "SnowFortsModel") (by decide) rfl (Nat.le_of_ble_eq_true rfl) ?_
  intro p e s m args below meth c ls Qz E hl ret hS0
  have hx := E.1; have hb := E.2.1
  have hKp0 : Kp X Γ [1, 6, 7, 8, 9, 10, 11, 12, 14, 15, 16, 17, 19, 22, 24] H0 H0 := Kp.rf
  have hl : lv_has ls 9 [(0, .ref h0), (1, .int p1), (2, .int p2), (3, .int p3), (4, .int p4)] := hl
  refine lv_aload_n hx hb dX12_turns_0 rfl (lv_at hl 0 rfl) ?_
  refine lv_iconst (v := 0) hx hb dX12_turns_1 rfl ?_
  refine q_put E hC0 hS0 g0 fp_RX12_69 tv_F rfl rfl dX12_turns_2 (fun H21 locs21 hC21 hS21 U21 => ?_)
  have hKp21 := Kp.upO E g0 fp_RX12_69 rfl U21 hKp0
  have e22 := up_I U21
  refine lv_aload_n hx hb dX12_turns_5 rfl (lv_at hl 0 rfl) ?_
  refine lv_iconst (v := 0) hx hb dX12_turns_6 rfl ?_
  refine q_put E hC21 hS21 g0 fp_RX12_72 tv_F rfl rfl dX12_turns_7 (fun H23 locs23 hC23 hS23 U23 => ?_)
  have hKp23 := Kp.upO E g0 fp_RX12_72 rfl U23 hKp21
  have e24 := up_I U23
  refine lv_aload_n hx hb dX12_turns_10 rfl (lv_at hl 0 rfl) ?_
  refine lv_iload_n hx hb dX12_turns_11 rfl (lv_at hl 1 rfl) ?_
  refine lv_iload_n hx hb dX12_turns_12 rfl (lv_at hl 2 rfl) ?_
  refine lv_iload_n hx hb dX12_turns_13 rfl (lv_at hl 3 rfl) ?_
  refine lv_iload hx hb dX12_turns_14 (lv_at hl 4 rfl) ?_
  refine q_goIp (q_runV (As := [.int p1, .int p2, .int p3, .int p4]) (rest := []) E hC23 hS23 (m_X12_isGame l X Γ H23 hC23 h0 g0 p1 (a1 := a1) e1 p2 (a2 := a2) e2 p3 (a3 := a3) e3 p4 (a4 := a4) e4 ca gca uc) cw_X12_isGame cl_RX12_414 g0 ⟨rfl, rfl⟩ rfl hl.1 rfl (Nat.zero_le _) (by decide) dX12_turns_16) hS23 (fun v25 locs25 hr25 hS25 => ?_)
  rcases hr25 with ⟨rfl, f25a0, f25a1, f25a2, f25a3, f25a4, f25a5, f25a6, f25a7⟩ | ⟨rfl, -⟩
  · refine q_if_ne hx hb (a := 1) (by decide) (tgt := 28) dX12_turns_19 rfl (fun c26 => ?_) (fun c26 => absurd c26 (by omega))
    refine lv_iload_n hx hb dX12_turns_28 rfl (lv_at hl 1 rfl) ?_
    refine lv_istore hx hb dX12_turns_29 hl (by decide) rfl (fun ls hl => ?_)
    have hl : lv_has ls 9 [(5, .int p1), (0, .ref h0), (1, .int p1), (2, .int p2), (3, .int p3), (4, .int p4)] := hl
    refine lv_iload_n hx hb dX12_turns_31 rfl (lv_at hl 3 rfl) ?_
    refine lv_istore hx hb dX12_turns_32 hl (by decide) rfl (fun ls hl => ?_)
    have hl : lv_has ls 9 [(6, .int p2), (5, .int p1), (0, .ref h0), (1, .int p1), (2, .int p2), (3, .int p3), (4, .int p4)] := hl
    refine lv_iconst (v := 0) hx hb dX12_turns_34 rfl ?_
    refine lv_istore hx hb dX12_turns_35 hl (by decide) rfl (fun ls hl => ?_)
    have hl : lv_has ls 9 [(7, .int 0), (6, .int p2), (5, .int p1), (0, .ref h0), (1, .int p1), (2, .int p2), (3, .int p3), (4, .int p4)] := hl
    have L37 : ∀ (n30 : Nat) (locs30 : List Loc) (v27 : Int32) (z27 : Int) (v28 : Int32) (z28 : Int) (v29 : Int32) (z29 : Int) (ls : Array Slot), (24 - z29 - z28).toNat < n30 → v27.toInt = z27 → v28.toInt = z28 → v29.toInt = z29 → 0 ≤ z29 → z29 ≤ 12 → 0 ≤ z28 → z28 ≤ 12 → va_S (AΓ Γ) H0 H23 locs30 → lv_has ls 9 [(7, .int v27), (6, .int v28), (5, .int v29), (0, .ref h0), (1, .int p1), (2, .int p2), (3, .int p3), (4, .int p4)] → W p l e (rmL 2) s m args below meth c H23 locs30 0 0 Qz (F0 m 37 ls []) := by
      intro n30
      induction n30 with
      | zero => intro locs30 v27 z27 v28 z28 v29 z29 ls hm30 ev27 ev28 ev29 iv30_0 iv30_1 iv30_2 iv30_3 hS30 hl; exact absurd hm30 (Nat.not_lt_zero _)
      | succ n30 ih30 =>
        intro locs30 v27 z27 v28 z28 v29 z29 ls hm30 ev27 ev28 ev29 iv30_0 iv30_1 iv30_2 iv30_3 hS30 hl
        refine lv_iload hx hb dX12_turns_37 (lv_at hl 2 rfl) ?_
        refine lv_iload hx hb dX12_turns_39 (lv_at hl 1 rfl) ?_
        refine lv_iload_n hx hb dX12_turns_41 rfl (lv_at hl 6 rfl) ?_
        refine lv_iload hx hb dX12_turns_42 (lv_at hl 7 rfl) ?_
        refine q_goIp (q_runS (As := [.int v29, .int v28, .int p3, .int p4]) (rest := []) E hS30 (m_X12_mostRaise l X Γ H23 hC23 v29 (a0 := z29) ev29 v28 (a1 := z28) ev28 p3 (a2 := a3) e3 p4 (a3 := a4) e4 (by omega) (by omega) (by omega) (by omega) (by omega) (by omega) (by omega) (by omega)) cw_X12_mostRaise cl_RX12_418 rfl hl.1 rfl (Nat.zero_le _) (by decide) dX12_turns_44) hS30 (fun v31 locs31 hr31 hS31 => ?_)
        obtain ⟨f31_0, f31_1, f31_2, f31_3⟩ := hr31
        refine q_if_le hx hb (a := v31.toInt) rfl (tgt := 79) dX12_turns_47 rfl (fun c32 => ?_) (fun c32 => ?_)
        · refine lv_iload hx hb dX12_turns_79 (lv_at hl 0 rfl) ?_
          exact ret v27 H23 locs31 _ _ dX12_turns_81 ⟨hKp23, trivial⟩ hC23 hS31
        · refine lv_iload hx hb dX12_turns_50 (lv_at hl 2 rfl) ?_
          refine lv_iload hx hb dX12_turns_52 (lv_at hl 2 rfl) ?_
          refine lv_iload hx hb dX12_turns_54 (lv_at hl 1 rfl) ?_
          refine lv_iload_n hx hb dX12_turns_56 rfl (lv_at hl 6 rfl) ?_
          refine lv_iload hx hb dX12_turns_57 (lv_at hl 7 rfl) ?_
          refine q_goIp (q_runS (As := [.int v29, .int v28, .int p3, .int p4]) (rest := [.int v29]) E hS31 (m_X12_mostRaise l X Γ H23 hC23 v29 (a0 := z29) ev29 v28 (a1 := z28) ev28 p3 (a2 := a3) e3 p4 (a3 := a4) e4 (by omega) (by omega) (by omega) (by omega) (by omega) (by omega) (by omega) (by omega)) cw_X12_mostRaise cl_RX12_418 rfl hl.1 rfl (show _ ≤ _ from by simp [Value.category]) (by decide) dX12_turns_59) hS31 (fun v33 locs33 hr33 hS33 => ?_)
          obtain ⟨f33_0, f33_1, f33_2, f33_3⟩ := hr33
          refine lv_iadd hx hb dX12_turns_62 (lv_topi (fun v34 ev34 => ?_))
          have ev34i : v34.toInt = (z29 + v33.toInt) := i_add ev34 ev29 rfl (by omega) (by omega)
          refine lv_istore hx hb dX12_turns_63 hl (by decide) rfl (fun ls hl => ?_)
          have hl : lv_has ls 9 [(8, .int v34), (7, .int v27), (6, .int v28), (5, .int v29), (0, .ref h0), (1, .int p1), (2, .int p2), (3, .int p3), (4, .int p4)] := hl
          refine lv_iload hx hb dX12_turns_65 (lv_at hl 2 rfl) ?_
          refine lv_istore hx hb dX12_turns_67 hl (by decide) rfl (fun ls hl => ?_)
          have hl : lv_has ls 9 [(5, .int v28), (8, .int v34), (7, .int v27), (6, .int v28), (0, .ref h0), (1, .int p1), (2, .int p2), (3, .int p3), (4, .int p4)] := hl
          refine lv_iload hx hb dX12_turns_69 (lv_at hl 1 rfl) ?_
          refine lv_istore hx hb dX12_turns_71 hl (by decide) rfl (fun ls hl => ?_)
          have hl : lv_has ls 9 [(6, .int v34), (5, .int v28), (8, .int v34), (7, .int v27), (0, .ref h0), (1, .int p1), (2, .int p2), (3, .int p3), (4, .int p4)] := hl
          obtain ⟨v35, ev35⟩ : ∃ z, z = v27 + Int32.ofInt 1 := ⟨_, rfl⟩
          refine lv_iinc hx hb dX12_turns_73 hl (k := 3) rfl ev35.symm (by decide) rfl (fun ls hl => ?_)
          have hl : lv_has ls 9 [(7, .int v35), (6, .int v34), (5, .int v28), (8, .int v34), (0, .ref h0), (1, .int p1), (2, .int p2), (3, .int p3), (4, .int p4)] := hl
          refine lv_goto (tgt := 37) hx hb dX12_turns_76 rfl ?_
          exact ih30 locs33 v35 (v35.toInt) v34 ((z29 + v33.toInt)) v28 (z28) ls (by omega) rfl ev34i ev28 (by omega) (by omega) (by omega) (by omega) hS33 (lv_sub hl [0, 1, 2, 4, 5, 6, 7, 8] rfl)
    exact L37 _ locs25 0 0 p2 a2 p1 a1 ls (Nat.lt_succ_self _) (by decide) e2 e1 (by omega) (by omega) (by omega) (by omega) hS25 hl
  · refine q_if_ne hx hb (a := 0) (by decide) (tgt := 28) dX12_turns_19 rfl (fun c36 => absurd c36 (by omega)) (fun c36 => ?_)
    refine lv_aload_n hx hb dX12_turns_22 rfl (lv_at hl 0 rfl) ?_
    refine lv_iconst (v := 5) hx hb dX12_turns_23 rfl ?_
    refine q_goI (q_runV (As := [.int 5]) (rest := []) E hC23 hS25 (m_X12_refuse l X Γ H23 hC23 h0 g0 5 (a1 := 5) (by decide) ca gca uc) cw_X12_refuse cl_RX12_298 g0 ⟨rfl, rfl⟩ rfl hl.1 rfl (Nat.zero_le _) (by decide) dX12_turns_24) hS25 (fun v37 H37 locs37 hr37 hC37 hS37 => ?_)
    obtain ⟨hp37, hr37⟩ := hr37
    have hKp37 := hKp23.tr (hp37.mono rfl)
    have f37_0 := hr37
    exact ret v37 H37 locs37 _ _ dX12_turns_27 ⟨hKp37, trivial⟩ hC37 hS37
set_option maxRecDepth 100000 in
set_option maxHeartbeats 4000000 in
theorem m_X12_reckons (l : Launch) (X : xW) (Γ : Nat → Option Nat) (H0 : Heap) (hC0 : Conf X Γ H0) (h0 : Nat) (g0 : Γ h0 = some 11) (p1 : Int32) {a1 : Int} (e1 : p1.toInt = a1) (p2 : Int32) {a2 : Int} (e2 : p2.toInt = a2) (p3 : Int32) {a3 : Int} (e3 : p3.toInt = a3) (ca : Nat) (gca : Γ ca = some 64) (uc : ∀ a, Γ a = some 64 → a = ca) : Ctr l X Γ yX12_reckons cX12_reckons 9 (some .int) 2 [.ref h0, .int p1, .int p2, .int p3] H0 (QI X Γ (fun v H1 => Kp X Γ [1, 6, 7, 8, 9, 10, 11, 12, 14, 15, 16, 17, 19, 22, 24] H0 H1 ∧ ((0 ≤ v.toInt) ∧ (0 < v.toInt ∨ (1 ≤ a2 ∧ a2 ≤ 8))))) := by
  refine q_enterI (own := "SnowFortsModel") (by decide) rfl (Nat.le_of_ble_eq_true rfl) ?_
  intro p e s m args below meth c ls Qz E hl ret hS0
  have hx := E.1; have hb := E.2.1
  have hKp0 : Kp X Γ [1, 6, 7, 8, 9, 10, 11, 12, 14, 15, 16, 17, 19, 22, 24] H0 H0 := Kp.rf
  have hl : lv_has ls 9 [(0, .ref h0), (1, .int p1), (2, .int p2), (3, .int p3)] := hl
  refine lv_aload_n hx hb dX12_reckons_0 rfl (lv_at hl 0 rfl) ?_
  refine lv_iload_n hx hb dX12_reckons_1 rfl (lv_at hl 3 rfl) ?_
  refine q_goIp (q_runV (As := [.int p3]) (rest := []) E hC0 hS0 (m_X12_isTray l X Γ H0 hC0 h0 g0 p3 (a1 := a3) e3 ca gca uc) cw_X12_isTray cl_RX12_394 g0 ⟨rfl, rfl⟩ rfl hl.1 rfl (Nat.zero_le _) (by decide) dX12_reckons_2) hS0 (fun v21 locs21 hr21 hS21 => ?_)
  rcases hr21 with ⟨rfl, f21a0, f21a1⟩ | ⟨rfl, f21b⟩
  · refine q_if_ne hx hb (a := 1) (by decide) (tgt := 10) dX12_reckons_5 rfl (fun c22 => ?_) (fun c22 => absurd c22 (by omega))
    refine lv_aload_n hx hb dX12_reckons_10 rfl (lv_at hl 0 rfl) ?_
    refine q_getR E hC0 g0 fa_RX12_17 dX12_reckons_11 (fun q23 eq23 gq23 => ?_)
    refine lv_iload_n hx hb dX12_reckons_14 rfl (lv_at hl 3 rfl) ?_
    refine q_iald E hC0 gq23 rfl rfl (fun _ h => h) (i_in (a := a3) e3 (by omega) (by omega)) dX12_reckons_15 (fun v24 ev24 lv24 uv24 => ?_)
    refine q_if_ge hx hb (a := v24.toInt) rfl (tgt := 21) dX12_reckons_16 rfl (fun c25 => ?_) (fun c25 => ?_)
    · refine lv_aload_n hx hb dX12_reckons_21 rfl (lv_at hl 0 rfl) ?_
      refine q_getR E hC0 g0 fa_RX12_17 dX12_reckons_22 (fun q26 eq26 gq26 => ?_)
      refine lv_iload_n hx hb dX12_reckons_25 rfl (lv_at hl 3 rfl) ?_
      refine q_iald E hC0 gq26 rfl rfl (fun _ h => h) (i_in (a := a3) e3 (by omega) (by omega)) dX12_reckons_26 (fun v27 ev27 lv27 uv27 => ?_)
      refine lv_iconst (v := 4) hx hb dX12_reckons_27 rfl ?_
      refine q_icmp_ge hx hb (a := v27.toInt) (b := 4) rfl (by decide) (tgt := 33) dX12_reckons_28 rfl (fun c28 => ?_) (fun c28 => ?_)
      · refine lv_iload_n hx hb dX12_reckons_33 rfl (lv_at hl 1 rfl) ?_
        refine lv_i2l (v := p1.toInt64) hx hb dX12_reckons_34 rfl (lv_topl (fun v29 ev29 => ?_))
        have ev29i : v29.toInt = a1 := l_ofi ev29.symm e1
        refine lv_lconst (v := 1) hx hb dX12_reckons_35 rfl ?_
        refine lv_ldc2 (v := 99) hx hb E.2.2.2.1 (E.2.2.2.2.1 _ w_1835) dX12_reckons_36 ?_
        refine q_goIp (q_runS (As := [.long v29, .long 1, .long 99]) (rest := []) E hS21 (m_X12_isIn l X Γ H0 hC0 v29 (a0 := a1) ev29i 1 (a1 := 1) (show (1 : Int64).toInt = 1 from by decide) 99 (a2 := 99) (show (99 : Int64).toInt = 99 from by decide)) cw_X12_isIn cl_RX12_104 rfl hl.1 rfl (Nat.zero_le _) (by decide) dX12_reckons_39) hS21 (fun v30 locs30 hr30 hS30 => ?_)
        rcases hr30 with ⟨rfl, f30a0, f30a1⟩ | ⟨rfl, f30b⟩
        · refine q_if_eq hx hb (a := 1) (by decide) (tgt := 57) dX12_reckons_42 rfl (fun c31 => absurd c31 (by omega)) (fun c31 => ?_)
          refine lv_iload_n hx hb dX12_reckons_45 rfl (lv_at hl 2 rfl) ?_
          refine lv_i2l (v := p2.toInt64) hx hb dX12_reckons_46 rfl (lv_topl (fun v32 ev32 => ?_))
          have ev32i : v32.toInt = a2 := l_ofi ev32.symm e2
          refine lv_lconst (v := 1) hx hb dX12_reckons_47 rfl ?_
          refine lv_ldc2 (v := 8) hx hb E.2.2.2.1 (E.2.2.2.2.1 _ w_1934) dX12_reckons_48 ?_
          refine q_goIp (q_runS (As := [.long v32, .long 1, .long 8]) (rest := []) E hS30 (m_X12_isIn l X Γ H0 hC0 v32 (a0 := a2) ev32i 1 (a1 := 1) (show (1 : Int64).toInt = 1 from by decide) 8 (a2 := 8) (show (8 : Int64).toInt = 8 from by decide)) cw_X12_isIn cl_RX12_104 rfl hl.1 rfl (Nat.zero_le _) (by decide) dX12_reckons_51) hS30 (fun v33 locs33 hr33 hS33 => ?_)
          rcases hr33 with ⟨rfl, f33a0, f33a1⟩ | ⟨rfl, f33b⟩
          · refine q_if_ne hx hb (a := 1) (by decide) (tgt := 59) dX12_reckons_54 rfl (fun c34 => ?_) (fun c34 => absurd c34 (by omega))
            refine lv_lconst (v := 0) hx hb dX12_reckons_59 rfl ?_
            refine lv_lstore hx hb dX12_reckons_60 hl (by decide) rfl (fun ls hl => ?_)
            have hl : lv_has ls 9 [(4, .long 0), (0, .ref h0), (1, .int p1), (2, .int p2), (3, .int p3)] := hl
            refine lv_iconst (v := 0) hx hb dX12_reckons_62 rfl ?_
            refine lv_istore hx hb dX12_reckons_63 hl (by decide) rfl (fun ls hl => ?_)
            have hl : lv_has ls 9 [(6, .int 0), (4, .long 0), (0, .ref h0), (1, .int p1), (2, .int p2), (3, .int p3)] := hl
            have L65 : ∀ (n37 : Nat) (locs37 : List Loc) (v35 : Int32) (z35 : Int) (v36 : Int64) (z36 : Int) (ls : Array Slot), (4 - z35).toNat < n37 → v35.toInt = z35 → v36.toInt = z36 → z35 ≤ 4 → 0 ≤ z35 → va_S (AΓ Γ) H0 H0 locs37 → lv_has ls 9 [(6, .int v35), (4, .long v36), (0, .ref h0), (1, .int p1), (2, .int p2), (3, .int p3)] → W p l e (rmL 2) s m args below meth c H0 locs37 0 0 Qz (F0 m 65 ls []) := by
              intro n37
              induction n37 with
              | zero => intro locs37 v35 z35 v36 z36 ls hm37 ev35 ev36 iv37_0 iv37_1 hS37 hl; exact absurd hm37 (Nat.not_lt_zero _)
              | succ n37 ih37 =>
                intro locs37 v35 z35 v36 z36 ls hm37 ev35 ev36 iv37_0 iv37_1 hS37 hl
                refine lv_iload hx hb dX12_reckons_65 (lv_at hl 0 rfl) ?_
                refine lv_iconst (v := 4) hx hb dX12_reckons_67 rfl ?_
                refine q_icmp_ge hx hb (a := z35) (b := 4) ev35 (by decide) (tgt := 108) dX12_reckons_68 rfl (fun c38 => ?_) (fun c38 => ?_)
                · refine lv_lload hx hb dX12_reckons_108 (lv_at hl 1 rfl) ?_
                  refine lv_ldc2 (v := 16) hx hb E.2.2.2.1 (E.2.2.2.2.1 _ w_1935) dX12_reckons_110 ?_
                  refine q_lcmp_eq hx hb (a := z36) (b := 16) ev36 (show (16 : Int64).toInt = 16 from by decide) (tgt := 119) dX12_reckons_113 dX12_reckons_114 rfl (fun c39 => ?_) (fun c39 => ?_)
                  · refine lv_iconst (v := 0) hx hb dX12_reckons_119 rfl ?_
                    refine lv_istore hx hb dX12_reckons_120 hl (by decide) rfl (fun ls hl => ?_)
                    have hl : lv_has ls 9 [(6, .int 0), (4, .long v36), (0, .ref h0), (1, .int p1), (2, .int p2), (3, .int p3)] := hl
                    have L122 : ∀ (n41 : Nat) (H41 : Heap) (locs41 : List Loc) (v40 : Int32) (z40 : Int) (ls : Array Slot), (100 - z40).toNat < n41 → v40.toInt = z40 → z40 ≤ 100 → 0 ≤ z40 → Conf X Γ H41 → va_S (AΓ Γ) H0 H41 locs41 → Kp X Γ [1, 6, 7, 8, 9, 10, 11, 12, 14, 15, 16, 17, 19, 22, 24] H0 H41 → lv_has ls 9 [(6, .int v40), (4, .long v36), (0, .ref h0), (1, .int p1), (2, .int p2), (3, .int p3)] → W p l e (rmL 2) s m args below meth c H41 locs41 0 0 Qz (F0 m 122 ls []) := by
                      intro n41
                      induction n41 with
                      | zero => intro H41 locs41 v40 z40 ls hm41 ev40 iv41_0 iv41_1 hC41 hS41 hKp41 hl; exact absurd hm41 (Nat.not_lt_zero _)
                      | succ n41 ih41 =>
                        intro H41 locs41 v40 z40 ls hm41 ev40 iv41_0 iv41_1 hC41 hS41 hKp41 hl
                        refine lv_iload hx hb dX12_reckons_122 (lv_at hl 0 rfl) ?_
                        refine lv_bipush (v := 100) hx hb dX12_reckons_124 rfl ?_
                        refine q_icmp_ge hx hb (a := z40) (b := 100) ev40 (by decide) (tgt := 153) dX12_reckons_126 rfl (fun c42 => ?_) (fun c42 => ?_)
                        · refine lv_iconst (v := 0) hx hb dX12_reckons_153 rfl ?_
                          refine lv_istore hx hb dX12_reckons_154 hl (by decide) rfl (fun ls hl => ?_)
                          have hl : lv_has ls 9 [(6, .int 0), (4, .long v36), (0, .ref h0), (1, .int p1), (2, .int p2), (3, .int p3)] := hl
                          have L156 : ∀ (n44 : Nat) (H44 : Heap) (locs44 : List Loc) (v43 : Int32) (z43 : Int) (ls : Array Slot), (a2 - z43).toNat < n44 → v43.toInt = z43 → 0 ≤ z43 → Conf X Γ H44 → va_S (AΓ Γ) H0 H44 locs44 → Kp X Γ [1, 6, 7, 8, 9, 10, 11, 12, 14, 15, 16, 17, 19, 22, 24] H0 H44 → lv_has ls 9 [(6, .int v43), (4, .long v36), (0, .ref h0), (1, .int p1), (2, .int p2), (3, .int p3)] → W p l e (rmL 2) s m args below meth c H44 locs44 0 0 Qz (F0 m 156 ls []) := by
                            intro n44
                            induction n44 with
                            | zero => intro H44 locs44 v43 z43 ls hm44 ev43 iv44_0 hC44 hS44 hKp44 hl; exact absurd hm44 (Nat.not_lt_zero _)
                            | succ n44 ih44 =>
                              intro H44 locs44 v43 z43 ls hm44 ev43 iv44_0 hC44 hS44 hKp44 hl
                              refine lv_iload hx hb dX12_reckons_156 (lv_at hl 0 rfl) ?_
                              refine lv_iload_n hx hb dX12_reckons_158 rfl (lv_at hl 4 rfl) ?_
                              refine q_icmp_ge hx hb (a := z43) (b := a2) ev43 e2 (tgt := 285) dX12_reckons_159 rfl (fun c45 => ?_) (fun c45 => ?_)
                              · refine lv_iconst (v := 0) hx hb dX12_reckons_285 rfl ?_
                                have c46 : (0 : Int32).toInt = 0 := (by decide)
                                exact ret 0 H44 locs44 _ _ dX12_reckons_286 ⟨hKp44, ⟨by omega, by omega⟩⟩ hC44 hS44
                              · refine lv_iconst (v := 0) hx hb dX12_reckons_162 rfl ?_
                                refine lv_istore hx hb dX12_reckons_163 hl (by decide) rfl (fun ls hl => ?_)
                                have hl : lv_has ls 9 [(7, .int 0), (6, .int v43), (4, .long v36), (0, .ref h0), (1, .int p1), (2, .int p2), (3, .int p3)] := hl
                                have L165 : ∀ (n48 : Nat) (H48 : Heap) (locs48 : List Loc) (v47 : Int32) (z47 : Int) (ls : Array Slot), (100 - z47).toNat < n48 → v47.toInt = z47 → z47 ≤ 100 → 0 ≤ z47 → Conf X Γ H48 → va_S (AΓ Γ) H0 H48 locs48 → Kp X Γ [1, 6, 7, 8, 9, 10, 11, 12, 14, 15, 16, 17, 19, 22, 24] H0 H48 → lv_has ls 9 [(7, .int v47), (6, .int v43), (4, .long v36), (0, .ref h0), (1, .int p1), (2, .int p2), (3, .int p3)] → W p l e (rmL 2) s m args below meth c H48 locs48 0 0 Qz (F0 m 165 ls []) := by
                                  intro n48
                                  induction n48 with
                                  | zero => intro H48 locs48 v47 z47 ls hm48 ev47 iv48_0 iv48_1 hC48 hS48 hKp48 hl; exact absurd hm48 (Nat.not_lt_zero _)
                                  | succ n48 ih48 =>
                                    intro H48 locs48 v47 z47 ls hm48 ev47 iv48_0 iv48_1 hC48 hS48 hKp48 hl
                                    refine lv_iload hx hb dX12_reckons_165 (lv_at hl 0 rfl) ?_
                                    refine lv_bipush (v := 100) hx hb dX12_reckons_167 rfl ?_
                                    refine q_icmp_ge hx hb (a := z47) (b := 100) ev47 (by decide) (tgt := 186) dX12_reckons_169 rfl (fun c49 => ?_) (fun c49 => ?_)
                                    · refine lv_iconst (v := 0) hx hb dX12_reckons_186 rfl ?_
                                      refine lv_istore hx hb dX12_reckons_187 hl (by decide) rfl (fun ls hl => ?_)
                                      have hl : lv_has ls 9 [(7, .int 0), (6, .int v43), (4, .long v36), (0, .ref h0), (1, .int p1), (2, .int p2), (3, .int p3)] := hl
                                      have L189 : ∀ (n51 : Nat) (H51 : Heap) (locs51 : List Loc) (v50 : Int32) (z50 : Int) (ls : Array Slot), (100 - z50).toNat < n51 → v50.toInt = z50 → z50 ≤ 100 → 0 ≤ z50 → Conf X Γ H51 → va_S (AΓ Γ) H0 H51 locs51 → Kp X Γ [1, 6, 7, 8, 9, 10, 11, 12, 14, 15, 16, 17, 19, 22, 24] H0 H51 → lv_has ls 9 [(7, .int v50), (6, .int v43), (4, .long v36), (0, .ref h0), (1, .int p1), (2, .int p2), (3, .int p3)] → W p l e (rmL 2) s m args below meth c H51 locs51 0 0 Qz (F0 m 189 ls []) := by
                                        intro n51
                                        induction n51 with
                                        | zero => intro H51 locs51 v50 z50 ls hm51 ev50 iv51_0 iv51_1 hC51 hS51 hKp51 hl; exact absurd hm51 (Nat.not_lt_zero _)
                                        | succ n51 ih51 =>
                                          intro H51 locs51 v50 z50 ls hm51 ev50 iv51_0 iv51_1 hC51 hS51 hKp51 hl
                                          refine lv_iload hx hb dX12_reckons_189 (lv_at hl 0 rfl) ?_
                                          refine lv_bipush (v := 100) hx hb dX12_reckons_191 rfl ?_
                                          refine q_icmp_ge hx hb (a := z50) (b := 100) ev50 (by decide) (tgt := 249) dX12_reckons_193 rfl (fun c52 => ?_) (fun c52 => ?_)
                                          · refine lv_iconst (v := 0) hx hb dX12_reckons_249 rfl ?_
                                            refine lv_istore hx hb dX12_reckons_250 hl (by decide) rfl (fun ls hl => ?_)
                                            have hl : lv_has ls 9 [(7, .int 0), (6, .int v43), (4, .long v36), (0, .ref h0), (1, .int p1), (2, .int p2), (3, .int p3)] := hl
                                            have L252 : ∀ (n54 : Nat) (H54 : Heap) (locs54 : List Loc) (v53 : Int32) (z53 : Int) (ls : Array Slot), (100 - z53).toNat < n54 → v53.toInt = z53 → z53 ≤ 100 → 0 ≤ z53 → Conf X Γ H54 → va_S (AΓ Γ) H0 H54 locs54 → Kp X Γ [1, 6, 7, 8, 9, 10, 11, 12, 14, 15, 16, 17, 19, 22, 24] H0 H54 → lv_has ls 9 [(7, .int v53), (6, .int v43), (4, .long v36), (0, .ref h0), (1, .int p1), (2, .int p2), (3, .int p3)] → W p l e (rmL 2) s m args below meth c H54 locs54 0 0 Qz (F0 m 252 ls []) := by
                                              intro n54
                                              induction n54 with
                                              | zero => intro H54 locs54 v53 z53 ls hm54 ev53 iv54_0 iv54_1 hC54 hS54 hKp54 hl; exact absurd hm54 (Nat.not_lt_zero _)
                                              | succ n54 ih54 =>
                                                intro H54 locs54 v53 z53 ls hm54 ev53 iv54_0 iv54_1 hC54 hS54 hKp54 hl
                                                refine lv_iload hx hb dX12_reckons_252 (lv_at hl 0 rfl) ?_
                                                refine lv_bipush (v := 100) hx hb dX12_reckons_254 rfl ?_
                                                refine q_icmp_ge hx hb (a := z53) (b := 100) ev53 (by decide) (tgt := 279) dX12_reckons_256 rfl (fun c55 => ?_) (fun c55 => ?_)
                                                · obtain ⟨v56, ev56⟩ : ∃ z, z = v43 + Int32.ofInt 1 := ⟨_, rfl⟩
                                                  have ev56i : v56.toInt = (z43 + 1) := i_add ev56 ev43 (by decide) (by omega) (by omega)
                                                  refine lv_iinc hx hb dX12_reckons_279 hl (k := 1) rfl ev56.symm (by decide) rfl (fun ls hl => ?_)
                                                  have hl : lv_has ls 9 [(6, .int v56), (7, .int v53), (4, .long v36), (0, .ref h0), (1, .int p1), (2, .int p2), (3, .int p3)] := hl
                                                  refine lv_goto (tgt := 156) hx hb dX12_reckons_282 rfl ?_
                                                  exact ih44 H54 locs54 v56 ((z43 + 1)) ls (by omega) ev56i (by omega) hC54 hS54 hKp54 (lv_sub hl [0, 2, 3, 4, 5, 6] rfl)
                                                · refine lv_aload_n hx hb dX12_reckons_259 rfl (lv_at hl 3 rfl) ?_
                                                  refine q_getR E hC54 g0 fa_RX12_60 dX12_reckons_260 (fun q57 eq57 gq57 => ?_)
                                                  refine lv_iload hx hb dX12_reckons_263 (lv_at hl 0 rfl) ?_
                                                  refine lv_aload_n hx hb dX12_reckons_265 rfl (lv_at hl 3 rfl) ?_
                                                  refine q_getR E hC54 g0 fa_RX12_63 dX12_reckons_266 (fun q58 eq58 gq58 => ?_)
                                                  refine lv_iload hx hb dX12_reckons_269 (lv_at hl 0 rfl) ?_
                                                  refine q_lald2 E hC54 gq58 rfl rfl (fun _ => rfl) (a := z53) ev53 (by omega) (by omega) dX12_reckons_271 (fun v59 ev59 => ?_)
                                                  refine q_last2 E hC54 hS54 gq57 (by decide) rfl rfl (fun _ => rfl) (a := z53) ev53 (by omega) (by omega) dX12_reckons_272 (fun H60 locs60 hC60 hS60 U60 => ?_)
                                                  have hKp60 := Kp.upA gq57 rfl (by decide) rfl U60 hKp54
                                                  obtain ⟨v61, ev61⟩ : ∃ z, z = v53 + Int32.ofInt 1 := ⟨_, rfl⟩
                                                  have ev61i : v61.toInt = (z53 + 1) := i_add ev61 ev53 (by decide) (by omega) (by omega)
                                                  refine lv_iinc hx hb dX12_reckons_273 hl (k := 0) rfl ev61.symm (by decide) rfl (fun ls hl => ?_)
                                                  have hl : lv_has ls 9 [(7, .int v61), (6, .int v43), (4, .long v36), (0, .ref h0), (1, .int p1), (2, .int p2), (3, .int p3)] := hl
                                                  refine lv_goto (tgt := 252) hx hb dX12_reckons_276 rfl ?_
                                                  exact ih54 H60 locs60 v61 ((z53 + 1)) ls (by omega) ev61i (by omega) (by omega) hC60 hS60 hKp60 hl
                                            exact L252 _ H51 locs51 0 0 ls (Nat.lt_succ_self _) (by decide) (by omega) (by omega) hC51 hS51 hKp51 hl
                                          · refine lv_iconst (v := 0) hx hb dX12_reckons_196 rfl ?_
                                            refine lv_istore hx hb dX12_reckons_197 hl (by decide) rfl (fun ls hl => ?_)
                                            have hl : lv_has ls 9 [(8, .int 0), (7, .int v50), (6, .int v43), (4, .long v36), (0, .ref h0), (1, .int p1), (2, .int p2), (3, .int p3)] := hl
                                            have L199 : ∀ (n63 : Nat) (H63 : Heap) (locs63 : List Loc) (v62 : Int32) (z62 : Int) (ls : Array Slot), (4 - z62).toNat < n63 → v62.toInt = z62 → z62 ≤ 4 → 0 ≤ z62 → Conf X Γ H63 → va_S (AΓ Γ) H0 H63 locs63 → Kp X Γ [1, 6, 7, 8, 9, 10, 11, 12, 14, 15, 16, 17, 19, 22, 24] H0 H63 → lv_has ls 9 [(8, .int v62), (7, .int v50), (6, .int v43), (4, .long v36), (0, .ref h0), (1, .int p1), (2, .int p2), (3, .int p3)] → W p l e (rmL 2) s m args below meth c H63 locs63 0 0 Qz (F0 m 199 ls []) := by
                                              intro n63
                                              induction n63 with
                                              | zero => intro H63 locs63 v62 z62 ls hm63 ev62 iv63_0 iv63_1 hC63 hS63 hKp63 hl; exact absurd hm63 (Nat.not_lt_zero _)
                                              | succ n63 ih63 =>
                                                intro H63 locs63 v62 z62 ls hm63 ev62 iv63_0 iv63_1 hC63 hS63 hKp63 hl
                                                refine lv_iload hx hb dX12_reckons_199 (lv_at hl 0 rfl) ?_
                                                refine lv_iconst (v := 4) hx hb dX12_reckons_201 rfl ?_
                                                refine q_icmp_ge hx hb (a := z62) (b := 4) ev62 (by decide) (tgt := 243) dX12_reckons_202 rfl (fun c64 => ?_) (fun c64 => ?_)
                                                · obtain ⟨v65, ev65⟩ : ∃ z, z = v50 + Int32.ofInt 1 := ⟨_, rfl⟩
                                                  have ev65i : v65.toInt = (z50 + 1) := i_add ev65 ev50 (by decide) (by omega) (by omega)
                                                  refine lv_iinc hx hb dX12_reckons_243 hl (k := 1) rfl ev65.symm (by decide) rfl (fun ls hl => ?_)
                                                  have hl : lv_has ls 9 [(7, .int v65), (8, .int v62), (6, .int v43), (4, .long v36), (0, .ref h0), (1, .int p1), (2, .int p2), (3, .int p3)] := hl
                                                  refine lv_goto (tgt := 189) hx hb dX12_reckons_246 rfl ?_
                                                  exact ih51 H63 locs63 v65 ((z50 + 1)) ls (by omega) ev65i (by omega) (by omega) hC63 hS63 hKp63 (lv_sub hl [0, 2, 3, 4, 5, 6, 7] rfl)
                                                · refine lv_aload_n hx hb dX12_reckons_205 rfl (lv_at hl 4 rfl) ?_
                                                  refine q_getR E hC63 g0 fa_RX12_63 dX12_reckons_206 (fun q66 eq66 gq66 => ?_)
                                                  refine lv_iconst (v := 0) hx hb dX12_reckons_209 rfl ?_
                                                  refine lv_iload hx hb dX12_reckons_210 (lv_at hl 1 rfl) ?_
                                                  refine lv_iload hx hb dX12_reckons_212 (lv_at hl 0 rfl) ?_
                                                  refine lv_isub hx hb dX12_reckons_214 (lv_topi (fun v67 ev67 => ?_))
                                                  have ev67i : v67.toInt = (z50 - z62) := i_sub ev67 ev50 ev62 (by omega) (by omega)
                                                  refine q_mmax E hl.1 w_1731 mathw_max (a := 0) (b := (z50 - z62)) (show (0 : Int32).toInt = 0 from by decide) ev67i (by decide) (show _ ≤ _ from by simp [Value.category]) dX12_reckons_215 (fun v68 mv68a mv68b mv68c => ?_)
                                                  refine lv_dup2_11 hx hb dX12_reckons_218 rfl rfl ?_
                                                  refine q_lald2 E hC63 gq66 rfl rfl (fun _ => rfl) (a := v68.toInt) rfl (by omega) (by omega) dX12_reckons_219 (fun v69 ev69 => ?_)
                                                  refine lv_aload_n hx hb dX12_reckons_220 rfl (lv_at hl 4 rfl) ?_
                                                  refine q_getR E hC63 g0 fa_RX12_60 dX12_reckons_221 (fun q70 eq70 gq70 => ?_)
                                                  refine lv_iload hx hb dX12_reckons_224 (lv_at hl 1 rfl) ?_
                                                  refine q_lald2 E hC63 gq70 rfl rfl (fun _ => rfl) (a := z50) ev50 (by omega) (by omega) dX12_reckons_226 (fun v71 ev71 => ?_)
                                                  refine lv_aload_n hx hb dX12_reckons_227 rfl (lv_at hl 4 rfl) ?_
                                                  refine lv_iload_n hx hb dX12_reckons_228 rfl (lv_at hl 7 rfl) ?_
                                                  refine lv_iload hx hb dX12_reckons_229 (lv_at hl 0 rfl) ?_
                                                  refine q_goJp (q_runV (As := [.int p3, .int v62]) (rest := [.long v71, .long v69, .int v68, .ref q66]) E hC63 hS63 (m_X12_numberOf l X Γ H63 hC63 h0 g0 p3 (a1 := a3) e3 v62 (a2 := z62) ev62 ca gca uc (by omega) (by omega) (by omega) (by omega)) cw_X12_numberOf cl_RX12_401 g0 ⟨rfl, rfl⟩ rfl hl.1 rfl (show _ ≤ _ from by simp [Value.category]) (by decide) dX12_reckons_231) hS63 (fun v72 locs72 hr72 hS72 => ?_)
                                                  refine lv_lmul hx hb dX12_reckons_234 (lv_topl (fun v73 ev73 => ?_))
                                                  refine lv_ladd hx hb dX12_reckons_235 (lv_topl (fun v74 ev74 => ?_))
                                                  refine q_last2 E hC63 hS72 gq66 (by decide) rfl rfl (fun _ => rfl) (a := v68.toInt) rfl (by omega) (by omega) dX12_reckons_236 (fun H75 locs75 hC75 hS75 U75 => ?_)
                                                  have hKp75 := Kp.upA gq66 rfl (by decide) rfl U75 hKp63
                                                  obtain ⟨v76, ev76⟩ : ∃ z, z = v62 + Int32.ofInt 1 := ⟨_, rfl⟩
                                                  have ev76i : v76.toInt = (z62 + 1) := i_add ev76 ev62 (by decide) (by omega) (by omega)
                                                  refine lv_iinc hx hb dX12_reckons_237 hl (k := 0) rfl ev76.symm (by decide) rfl (fun ls hl => ?_)
                                                  have hl : lv_has ls 9 [(8, .int v76), (7, .int v50), (6, .int v43), (4, .long v36), (0, .ref h0), (1, .int p1), (2, .int p2), (3, .int p3)] := hl
                                                  refine lv_goto (tgt := 199) hx hb dX12_reckons_240 rfl ?_
                                                  exact ih63 H75 locs75 v76 ((z62 + 1)) ls (by omega) ev76i (by omega) (by omega) hC75 hS75 hKp75 hl
                                            exact L199 _ H51 locs51 0 0 ls (Nat.lt_succ_self _) (by decide) (by omega) (by omega) hC51 hS51 hKp51 hl
                                      exact L189 _ H48 locs48 0 0 ls (Nat.lt_succ_self _) (by decide) (by omega) (by omega) hC48 hS48 hKp48 hl
                                    · refine lv_aload_n hx hb dX12_reckons_172 rfl (lv_at hl 3 rfl) ?_
                                      refine q_getR E hC48 g0 fa_RX12_63 dX12_reckons_173 (fun q77 eq77 gq77 => ?_)
                                      refine lv_iload hx hb dX12_reckons_176 (lv_at hl 0 rfl) ?_
                                      refine lv_lconst (v := 0) hx hb dX12_reckons_178 rfl ?_
                                      refine q_last2 E hC48 hS48 gq77 (by decide) rfl rfl (fun _ => rfl) (a := z47) ev47 (by omega) (by omega) dX12_reckons_179 (fun H78 locs78 hC78 hS78 U78 => ?_)
                                      have hKp78 := Kp.upA gq77 rfl (by decide) rfl U78 hKp48
                                      obtain ⟨v79, ev79⟩ : ∃ z, z = v47 + Int32.ofInt 1 := ⟨_, rfl⟩
                                      have ev79i : v79.toInt = (z47 + 1) := i_add ev79 ev47 (by decide) (by omega) (by omega)
                                      refine lv_iinc hx hb dX12_reckons_180 hl (k := 0) rfl ev79.symm (by decide) rfl (fun ls hl => ?_)
                                      have hl : lv_has ls 9 [(7, .int v79), (6, .int v43), (4, .long v36), (0, .ref h0), (1, .int p1), (2, .int p2), (3, .int p3)] := hl
                                      refine lv_goto (tgt := 165) hx hb dX12_reckons_183 rfl ?_
                                      exact ih48 H78 locs78 v79 ((z47 + 1)) ls (by omega) ev79i (by omega) (by omega) hC78 hS78 hKp78 hl
                                exact L165 _ H44 locs44 0 0 ls (Nat.lt_succ_self _) (by decide) (by omega) (by omega) hC44 hS44 hKp44 hl
                          exact L156 _ H41 locs41 0 0 ls (Nat.lt_succ_self _) (by decide) (by omega) hC41 hS41 hKp41 hl
                        · refine lv_aload_n hx hb dX12_reckons_129 rfl (lv_at hl 2 rfl) ?_
                          refine q_getR E hC41 g0 fa_RX12_60 dX12_reckons_130 (fun q80 eq80 gq80 => ?_)
                          refine lv_iload hx hb dX12_reckons_133 (lv_at hl 0 rfl) ?_
                          refine lv_iload hx hb dX12_reckons_135 (lv_at hl 0 rfl) ?_
                          refine lv_iload_n hx hb dX12_reckons_137 rfl (lv_at hl 3 rfl) ?_
                          refine q_icmp_ne hx hb (a := z40) (b := a1) ev40 e1 (tgt := 145) dX12_reckons_138 rfl (fun c81 => ?_) (fun c81 => ?_)
                          · refine lv_lconst (v := 0) hx hb dX12_reckons_145 rfl ?_
                            refine q_last2 E hC41 hS41 gq80 (by decide) rfl rfl (fun _ => rfl) (a := z40) ev40 (by omega) (by omega) dX12_reckons_146 (fun H82 locs82 hC82 hS82 U82 => ?_)
                            have hKp82 := Kp.upA gq80 rfl (by decide) rfl U82 hKp41
                            obtain ⟨v83, ev83⟩ : ∃ z, z = v40 + Int32.ofInt 1 := ⟨_, rfl⟩
                            have ev83i : v83.toInt = (z40 + 1) := i_add ev83 ev40 (by decide) (by omega) (by omega)
                            refine lv_iinc hx hb dX12_reckons_147 hl (k := 0) rfl ev83.symm (by decide) rfl (fun ls hl => ?_)
                            have hl : lv_has ls 9 [(6, .int v83), (4, .long v36), (0, .ref h0), (1, .int p1), (2, .int p2), (3, .int p3)] := hl
                            refine lv_goto (tgt := 122) hx hb dX12_reckons_150 rfl ?_
                            exact ih41 H82 locs82 v83 ((z40 + 1)) ls (by omega) ev83i (by omega) (by omega) hC82 hS82 hKp82 hl
                          · refine lv_lconst (v := 1) hx hb dX12_reckons_141 rfl ?_
                            refine lv_goto (tgt := 146) hx hb dX12_reckons_142 rfl ?_
                            refine q_last2 E hC41 hS41 gq80 (by decide) rfl rfl (fun _ => rfl) (a := z40) ev40 (by omega) (by omega) dX12_reckons_146 (fun H84 locs84 hC84 hS84 U84 => ?_)
                            have hKp84 := Kp.upA gq80 rfl (by decide) rfl U84 hKp41
                            obtain ⟨v85, ev85⟩ : ∃ z, z = v40 + Int32.ofInt 1 := ⟨_, rfl⟩
                            have ev85i : v85.toInt = (z40 + 1) := i_add ev85 ev40 (by decide) (by omega) (by omega)
                            refine lv_iinc hx hb dX12_reckons_147 hl (k := 0) rfl ev85.symm (by decide) rfl (fun ls hl => ?_)
                            have hl : lv_has ls 9 [(6, .int v85), (4, .long v36), (0, .ref h0), (1, .int p1), (2, .int p2), (3, .int p3)] := hl
                            refine lv_goto (tgt := 122) hx hb dX12_reckons_150 rfl ?_
                            exact ih41 H84 locs84 v85 ((z40 + 1)) ls (by omega) ev85i (by omega) (by omega) hC84 hS84 hKp84 hl
                    exact L122 _ H0 locs37 0 0 ls (Nat.lt_succ_self _) (by decide) (by omega) (by omega) hC0 hS37 hKp0 hl
                  · refine lv_iconst (v := 5) hx hb dX12_reckons_117 rfl ?_
                    have c86 : (5 : Int32).toInt = 5 := (by decide)
                    exact ret 5 H0 locs37 _ _ dX12_reckons_118 ⟨hKp0, ⟨by omega, by omega⟩⟩ hC0 hS37
                · refine lv_aload_n hx hb dX12_reckons_71 rfl (lv_at hl 2 rfl) ?_
                  refine lv_iload_n hx hb dX12_reckons_72 rfl (lv_at hl 5 rfl) ?_
                  refine lv_iload hx hb dX12_reckons_73 (lv_at hl 0 rfl) ?_
                  refine q_goJp (q_runV (As := [.int p3, .int v35]) (rest := []) E hC0 hS37 (m_X12_numberOf l X Γ H0 hC0 h0 g0 p3 (a1 := a3) e3 v35 (a2 := z35) ev35 ca gca uc (by omega) (by omega) (by omega) (by omega)) cw_X12_numberOf cl_RX12_401 g0 ⟨rfl, rfl⟩ rfl hl.1 rfl (Nat.zero_le _) (by decide) dX12_reckons_75) hS37 (fun v87 locs87 hr87 hS87 => ?_)
                  refine lv_lconst (v := 0) hx hb dX12_reckons_78 rfl ?_
                  refine lv_ldc2 (v := 16) hx hb E.2.2.2.1 (E.2.2.2.2.1 _ w_1935) dX12_reckons_79 ?_
                  refine q_goIp (q_runS (As := [.long v87, .long 0, .long 16]) (rest := []) E hS87 (m_X12_isIn l X Γ H0 hC0 v87 (a0 := v87.toInt) rfl 0 (a1 := 0) (show (0 : Int64).toInt = 0 from by decide) 16 (a2 := 16) (show (16 : Int64).toInt = 16 from by decide)) cw_X12_isIn cl_RX12_104 rfl hl.1 rfl (Nat.zero_le _) (by decide) dX12_reckons_82) hS87 (fun v88 locs88 hr88 hS88 => ?_)
                  rcases hr88 with ⟨rfl, f88a0, f88a1⟩ | ⟨rfl, f88b⟩
                  · refine q_if_ne hx hb (a := 1) (by decide) (tgt := 90) dX12_reckons_85 rfl (fun c89 => ?_) (fun c89 => absurd c89 (by omega))
                    refine lv_lload hx hb dX12_reckons_90 (lv_at hl 1 rfl) ?_
                    refine lv_aload_n hx hb dX12_reckons_92 rfl (lv_at hl 2 rfl) ?_
                    refine lv_iload_n hx hb dX12_reckons_93 rfl (lv_at hl 5 rfl) ?_
                    refine lv_iload hx hb dX12_reckons_94 (lv_at hl 0 rfl) ?_
                    refine q_goJp (q_runV (As := [.int p3, .int v35]) (rest := [.long v36]) E hC0 hS88 (m_X12_numberOf l X Γ H0 hC0 h0 g0 p3 (a1 := a3) e3 v35 (a2 := z35) ev35 ca gca uc (by omega) (by omega) (by omega) (by omega)) cw_X12_numberOf cl_RX12_401 g0 ⟨rfl, rfl⟩ rfl hl.1 rfl (show _ ≤ _ from by simp [Value.category]) (by decide) dX12_reckons_96) hS88 (fun v90 locs90 hr90 hS90 => ?_)
                    refine lv_ladd hx hb dX12_reckons_99 (lv_topl (fun v91 ev91 => ?_))
                    refine lv_lstore hx hb dX12_reckons_100 hl (by decide) rfl (fun ls hl => ?_)
                    have hl : lv_has ls 9 [(4, .long v91), (6, .int v35), (0, .ref h0), (1, .int p1), (2, .int p2), (3, .int p3)] := hl
                    obtain ⟨v92, ev92⟩ : ∃ z, z = v35 + Int32.ofInt 1 := ⟨_, rfl⟩
                    have ev92i : v92.toInt = (z35 + 1) := i_add ev92 ev35 (by decide) (by omega) (by omega)
                    refine lv_iinc hx hb dX12_reckons_102 hl (k := 1) rfl ev92.symm (by decide) rfl (fun ls hl => ?_)
                    have hl : lv_has ls 9 [(6, .int v92), (4, .long v91), (0, .ref h0), (1, .int p1), (2, .int p2), (3, .int p3)] := hl
                    refine lv_goto (tgt := 65) hx hb dX12_reckons_105 rfl ?_
                    exact ih37 locs90 v92 ((z35 + 1)) v91 (v91.toInt) ls (by omega) ev92i rfl (by omega) (by omega) hS90 hl
                  · refine q_if_ne hx hb (a := 0) (by decide) (tgt := 90) dX12_reckons_85 rfl (fun c93 => absurd c93 (by omega)) (fun c93 => ?_)
                    refine lv_iconst (v := 5) hx hb dX12_reckons_88 rfl ?_
                    have c94 : (5 : Int32).toInt = 5 := (by decide)
                    exact ret 5 H0 locs88 _ _ dX12_reckons_89 ⟨hKp0, ⟨by omega, by omega⟩⟩ hC0 hS88
            exact L65 _ locs33 0 0 0 0 ls (Nat.lt_succ_self _) (by decide) (show (0 : Int64).toInt = 0 from by decide) (by omega) (by omega) hS33 hl
          · refine q_if_ne hx hb (a := 0) (by decide) (tgt := 59) dX12_reckons_54 rfl (fun c95 => absurd c95 (by omega)) (fun c95 => ?_)
            refine lv_iconst (v := 5) hx hb dX12_reckons_57 rfl ?_
            have c96 : (5 : Int32).toInt = 5 := (by decide)
            exact ret 5 H0 locs33 _ _ dX12_reckons_58 ⟨hKp0, ⟨by omega, by omega⟩⟩ hC0 hS33
        · refine q_if_eq hx hb (a := 0) (by decide) (tgt := 57) dX12_reckons_42 rfl (fun c97 => ?_) (fun c97 => absurd c97 (by omega))
          refine lv_iconst (v := 5) hx hb dX12_reckons_57 rfl ?_
          have c98 : (5 : Int32).toInt = 5 := (by decide)
          exact ret 5 H0 locs30 _ _ dX12_reckons_58 ⟨hKp0, ⟨by omega, by omega⟩⟩ hC0 hS30
      · refine lv_iconst (v := 4) hx hb dX12_reckons_31 rfl ?_
        have c99 : (4 : Int32).toInt = 4 := (by decide)
        exact ret 4 H0 locs21 _ _ dX12_reckons_32 ⟨hKp0, ⟨by omega, by omega⟩⟩ hC0 hS21
    · refine lv_iconst (v := 3) hx hb dX12_reckons_19 rfl ?_
      have c100 : (3 : Int32).toInt = 3 := (by decide)
      exact ret 3 H0 locs21 _ _ dX12_reckons_20 ⟨hKp0, ⟨by omega, by omega⟩⟩ hC0 hS21
  · refine q_if_ne hx hb (a := 0) (by decide) (tgt := 10) dX12_reckons_5 rfl (fun c101 => absurd c101 (by omega)) (fun c101 => ?_)
    refine lv_iconst (v := 1) hx hb dX12_reckons_8 rfl ?_
    have c102 : (1 : Int32).toInt = 1 := (by decide)
    exact ret 1 H0 locs21 _ _ dX12_reckons_9 ⟨hKp0, ⟨by omega, by omega⟩⟩ hC0 hS21
set_option maxRecDepth 100000 in
set_option maxHeartbeats 4000000 in
theorem m_X12_power (l : Launch) (X : xW) (Γ : Nat → Option Nat) (H0 : Heap) (hC0 : Conf X Γ H0) (p0 : Int32) {a0 : Int} (e0 : p0.toInt = a0) (r0 : 0 ≤ a0) (r1 : a0 ≤ 8) : Ctr l X Γ yX12_power cX12_power 4 (some .long) 0 [.int p0] H0 (QJ X Γ (fun v H1 => H1 = H0 ∧ ((1 ≤ v.toInt)))) := by
  refine q_enterJ (own := "SnowFortsModel") (by decide) rfl (Nat.le_of_ble_eq_true rfl) ?_
  intro p e s m args below meth c ls Qz E hl ret hS0
  have hx := E.1; have hb := E.2.1
  have hl : lv_has ls 4 [(0, .int p0)] := hl
  refine lv_lconst (v := 1) hx hb dX12_power_0 rfl ?_
  refine lv_lstore_n hx hb dX12_power_1 rfl hl (by decide) rfl (fun ls hl => ?_)
  have hl : lv_has ls 4 [(1, .long 1), (0, .int p0)] := hl
  refine lv_iconst (v := 0) hx hb dX12_power_2 rfl ?_
  refine lv_istore_n hx hb dX12_power_3 rfl hl (by decide) rfl (fun ls hl => ?_)
  have hl : lv_has ls 4 [(3, .int 0), (1, .long 1), (0, .int p0)] := hl
  have L4 : ∀ (n23 : Nat) (locs23 : List Loc) (v21 : Int32) (z21 : Int) (v22 : Int64) (z22 : Int) (ls : Array Slot), (a0 - z21).toNat < n23 → v21.toInt = z21 → v22.toInt = z22 → 0 ≤ z21 → 1 ≤ z22 → z22 ≤ pwr z21 → z21 ≤ a0 → va_S (AΓ Γ) H0 H0 locs23 → lv_has ls 4 [(3, .int v21), (1, .long v22), (0, .int p0)] → W p l e (rmL 0) s m args below meth c H0 locs23 0 0 Qz (F0 m 4 ls []) := by
    intro n23
    induction n23 with
    | zero => intro locs23 v21 z21 v22 z22 ls hm23 ev21 ev22 iv23_0 iv23_1 iv23_2 iv23_3 hS23 hl; exact absurd hm23 (Nat.not_lt_zero _)
    | succ n23 ih23 =>
      intro locs23 v21 z21 v22 z22 ls hm23 ev21 ev22 iv23_0 iv23_1 iv23_2 iv23_3 hS23 hl
      have hpw : pwr z21 ≤ 4294967296 := pwr_le (by omega) (by omega)
      refine lv_iload_n hx hb dX12_power_4 rfl (lv_at hl 0 rfl) ?_
      refine lv_iload_n hx hb dX12_power_5 rfl (lv_at hl 2 rfl) ?_
      refine q_icmp_ge hx hb (a := z21) (b := a0) ev21 e0 (tgt := 21) dX12_power_6 rfl (fun c24 => ?_) (fun c24 => ?_)
      · refine lv_lload_n hx hb dX12_power_21 rfl (lv_at hl 1 rfl) ?_
        exact ret v22 H0 locs23 _ _ dX12_power_22 ⟨rfl, by omega⟩ hC0 hS23
      · refine lv_lload_n hx hb dX12_power_9 rfl (lv_at hl 1 rfl) ?_
        refine lv_ldc2 (v := 16) hx hb E.2.2.2.1 (E.2.2.2.2.1 _ w_1935) dX12_power_10 ?_
        refine lv_lmul hx hb dX12_power_13 (lv_topl (fun v25 ev25 => ?_))
        have ev25i : v25.toInt = (z22 * 16) := l_mul ev25 ev22 (show (16 : Int64).toInt = 16 from by decide) (by omega) (by omega)
        refine lv_lstore_n hx hb dX12_power_14 rfl hl (by decide) rfl (fun ls hl => ?_)
        have hl : lv_has ls 4 [(1, .long v25), (3, .int v21), (0, .int p0)] := hl
        obtain ⟨v26, ev26⟩ : ∃ z, z = v21 + Int32.ofInt 1 := ⟨_, rfl⟩
        have ev26i : v26.toInt = (z21 + 1) := i_add ev26 ev21 (by decide) (by omega) (by omega)
        refine lv_iinc hx hb dX12_power_15 hl (k := 1) rfl ev26.symm (by decide) rfl (fun ls hl => ?_)
        have hl : lv_has ls 4 [(3, .int v26), (1, .long v25), (0, .int p0)] := hl
        refine lv_goto (tgt := 4) hx hb dX12_power_18 rfl ?_
        exact ih23 locs23 v26 ((z21 + 1)) v25 ((z22 * 16)) ls (by omega) ev26i ev25i (by omega) (by omega) (pwr_step (by omega) (by omega)) (by omega) hS23 hl
  exact L4 _ [] 0 0 1 1 ls (Nat.lt_succ_self _) (by decide) (show (1 : Int64).toInt = 1 from by decide) (by omega) (by omega) (by decide) (by omega) hS0 hl
set_option maxRecDepth 100000 in
set_option maxHeartbeats 4000000 in
theorem m_X12_fraction (l : Launch) (X : xW) (Γ : Nat → Option Nat) (H0 : Heap) (hC0 : Conf X Γ H0) (h0 : Nat) (g0 : Γ h0 = some 11) (p1 : Int64) {a1 : Int} (e1 : p1.toInt = a1) (p2 : Int64) {a2 : Int} (e2 : p2.toInt = a2) (ca : Nat) (gca : Γ ca = some 64) (uc : ∀ a, Γ a = some 64 → a = ca) (r0 : 1 ≤ a2) : Ctr l X Γ yX12_fraction cX12_fraction 11 (some .boolean) 1 [.ref h0, .long p1, .long p2] H0 (QI X Γ (fun v H1 => Kp X Γ [1, 6, 7, 8, 9, 10, 11, 12, 14, 15, 16, 17, 19, 22, 24] H0 H1 ∧ (v = 0 ∨ v = 1))) := by
  refine q_enterZ (own := "SnowFortsModel") (by decide) rfl (Nat.le_of_ble_eq_true rfl) ?_
  intro p e s m args below meth c ls Qz E hl ret hS0
  have hx := E.1; have hb := E.2.1
  have hKp0 : Kp X Γ [1, 6, 7, 8, 9, 10, 11, 12, 14, 15, 16, 17, 19, 22, 24] H0 H0 := Kp.rf
  have hl : lv_has ls 11 [(0, .ref h0), (1, .long p1), (3, .long p2)] := hl
  refine lv_lload_n hx hb dX12_fraction_0 rfl (lv_at hl 1 rfl) ?_
  refine q_mabsJ E hl.1 w_1943 mathw_absJ (by decide) (Nat.zero_le _) dX12_fraction_1 (fun v21 => ?_)
  refine lv_lstore hx hb dX12_fraction_4 hl (by decide) rfl (fun ls hl => ?_)
  have hl : lv_has ls 11 [(5, .long v21), (0, .ref h0), (1, .long p1), (3, .long p2)] := hl
  refine lv_lload_n hx hb dX12_fraction_6 rfl (lv_at hl 3 rfl) ?_
  refine lv_lstore hx hb dX12_fraction_7 hl (by decide) rfl (fun ls hl => ?_)
  have hl : lv_has ls 11 [(7, .long p2), (5, .long v21), (0, .ref h0), (1, .long p1), (3, .long p2)] := hl
  have L9 : ∀ (n24 : Nat) (locs24 : List Loc) (v22 : Int64) (z22 : Int) (v23 : Int64) (z23 : Int) (ls : Array Slot), z22.natAbs < n24 → v22.toInt = z22 → v23.toInt = z23 → z22 ≠ 0 ∨ z23 ≠ 0 → va_S (AΓ Γ) H0 H0 locs24 → lv_has ls 11 [(7, .long v22), (5, .long v23), (0, .ref h0), (1, .long p1), (3, .long p2)] → W p l e (rmL 1) s m args below meth c H0 locs24 0 0 Qz (F0 m 9 ls []) := by
    intro n24
    induction n24 with
    | zero => intro locs24 v22 z22 v23 z23 ls hm24 ev22 ev23 iv24_0 hS24 hl; exact absurd hm24 (Nat.not_lt_zero _)
    | succ n24 ih24 =>
      intro locs24 v22 z22 v23 z23 ls hm24 ev22 ev23 iv24_0 hS24 hl
      refine lv_lload hx hb dX12_fraction_9 (lv_at hl 0 rfl) ?_
      refine lv_lconst (v := 0) hx hb dX12_fraction_11 rfl ?_
      refine q_lcmp_eq hx hb (a := z22) (b := 0) ev22 (show (0 : Int64).toInt = 0 from by decide) (tgt := 34) dX12_fraction_12 dX12_fraction_13 rfl (fun c25 => ?_) (fun c25 => ?_)
      · refine lv_aload_n hx hb dX12_fraction_34 rfl (lv_at hl 2 rfl) ?_
        refine lv_lload_n hx hb dX12_fraction_35 rfl (lv_at hl 3 rfl) ?_
        refine lv_lload hx hb dX12_fraction_36 (lv_at hl 1 rfl) ?_
        refine lv_ldiv hx hb dX12_fraction_38 (l_nz ev23 (by omega)) (lv_topl (fun v26 ev26 => ?_))
        refine q_put E hC0 hS24 g0 fp_RX12_75 tv_J rfl rfl dX12_fraction_39 (fun H27 locs27 hC27 hS27 U27 => ?_)
        have hKp27 := Kp.upO E g0 fp_RX12_75 rfl U27 hKp0
        refine lv_aload_n hx hb dX12_fraction_42 rfl (lv_at hl 2 rfl) ?_
        refine lv_lload_n hx hb dX12_fraction_43 rfl (lv_at hl 4 rfl) ?_
        refine lv_lload hx hb dX12_fraction_44 (lv_at hl 1 rfl) ?_
        refine lv_ldiv hx hb dX12_fraction_46 (l_nz ev23 (by omega)) (lv_topl (fun v28 ev28 => ?_))
        refine q_put E hC27 hS27 g0 fp_RX12_7 tv_J rfl rfl dX12_fraction_47 (fun H29 locs29 hC29 hS29 U29 => ?_)
        have hKp29 := Kp.upO E g0 fp_RX12_7 rfl U29 hKp27
        refine lv_iconst (v := 1) hx hb dX12_fraction_50 rfl ?_
        exact ret 1 H29 locs29 _ _ dX12_fraction_51 (Or.inr rfl) ⟨hKp29, Or.inr rfl⟩ hC29 hS29
      · refine lv_lload hx hb dX12_fraction_16 (lv_at hl 1 rfl) ?_
        refine lv_lload hx hb dX12_fraction_18 (lv_at hl 0 rfl) ?_
        refine lv_lrem hx hb dX12_fraction_20 (l_nz ev22 (by omega)) (lv_topl (fun v30 ev30 => ?_))
        have bv30 := l_remB ev30 ev23 ev22 (by omega)
        refine lv_lstore hx hb dX12_fraction_21 hl (by decide) rfl (fun ls hl => ?_)
        have hl : lv_has ls 11 [(9, .long v30), (7, .long v22), (5, .long v23), (0, .ref h0), (1, .long p1), (3, .long p2)] := hl
        refine lv_lload hx hb dX12_fraction_23 (lv_at hl 1 rfl) ?_
        refine lv_lstore hx hb dX12_fraction_25 hl (by decide) rfl (fun ls hl => ?_)
        have hl : lv_has ls 11 [(5, .long v22), (9, .long v30), (7, .long v22), (0, .ref h0), (1, .long p1), (3, .long p2)] := hl
        refine lv_lload hx hb dX12_fraction_27 (lv_at hl 1 rfl) ?_
        refine lv_lstore hx hb dX12_fraction_29 hl (by decide) rfl (fun ls hl => ?_)
        have hl : lv_has ls 11 [(7, .long v30), (5, .long v22), (9, .long v30), (0, .ref h0), (1, .long p1), (3, .long p2)] := hl
        refine lv_goto (tgt := 9) hx hb dX12_fraction_31 rfl ?_
        exact ih24 locs24 v30 (v30.toInt) v22 (z22) ls (by omega) rfl ev22 (by omega) hS24 (lv_sub hl [0, 1, 3, 4, 5] rfl)
  exact L9 _ [] p2 a2 v21 v21.toInt ls (Nat.lt_succ_self _) e2 rfl (by omega) hS0 hl
set_option maxRecDepth 100000 in
set_option maxHeartbeats 4000000 in
theorem m_X12_stands (l : Launch) (X : xW) (Γ : Nat → Option Nat) (H0 : Heap) (hC0 : Conf X Γ H0) (h0 : Nat) (g0 : Γ h0 = some 11) (p1 : Int32) {a1 : Int} (e1 : p1.toInt = a1) (p2 : Int32) {a2 : Int} (e2 : p2.toInt = a2) (p3 : Int32) {a3 : Int} (e3 : p3.toInt = a3) (ca : Nat) (gca : Γ ca = some 64) (uc : ∀ a, Γ a = some 64 → a = ca) : Ctr l X Γ yX12_stands cX12_stands 4 (some .boolean) 3 [.ref h0, .int p1, .int p2, .int p3] H0 (QI X Γ (fun v H1 => Kp X Γ [1, 6, 7, 8, 9, 10, 11, 12, 14, 15, 16, 17, 19, 22, 24] H0 H1 ∧ (v = 0 ∨ v = 1))) := by
  refine q_enterZ (own := "SnowFortsModel") (by decide) rfl (Nat.le_of_ble_eq_true rfl) ?_
  intro p e s m args below meth c ls Qz E hl ret hS0
  have hx := E.1; have hb := E.2.1
  have hKp0 : Kp X Γ [1, 6, 7, 8, 9, 10, 11, 12, 14, 15, 16, 17, 19, 22, 24] H0 H0 := Kp.rf
  have hl : lv_has ls 4 [(0, .ref h0), (1, .int p1), (2, .int p2), (3, .int p3)] := hl
  refine lv_aload_n hx hb dX12_stands_0 rfl (lv_at hl 0 rfl) ?_
  refine lv_iconst (v := 0) hx hb dX12_stands_1 rfl ?_
  refine q_put E hC0 hS0 g0 fp_RX12_69 tv_F rfl rfl dX12_stands_2 (fun H21 locs21 hC21 hS21 U21 => ?_)
  have hKp21 := Kp.upO E g0 fp_RX12_69 rfl U21 hKp0
  have e22 := up_I U21
  refine lv_aload_n hx hb dX12_stands_5 rfl (lv_at hl 0 rfl) ?_
  refine lv_aload_n hx hb dX12_stands_6 rfl (lv_at hl 0 rfl) ?_
  refine lv_iload_n hx hb dX12_stands_7 rfl (lv_at hl 1 rfl) ?_
  refine lv_iload_n hx hb dX12_stands_8 rfl (lv_at hl 2 rfl) ?_
  refine lv_iload_n hx hb dX12_stands_9 rfl (lv_at hl 3 rfl) ?_
  refine q_goI (q_runV (As := [.int p1, .int p2, .int p3]) (rest := [.ref h0]) E hC21 hS21 (m_X12_reckons l X Γ H21 hC21 h0 g0 p1 (a1 := a1) e1 p2 (a2 := a2) e2 p3 (a3 := a3) e3 ca gca uc) cw_X12_reckons cl_RX12_426 g0 ⟨rfl, rfl⟩ rfl hl.1 rfl (show _ ≤ _ from by simp [Value.category]) (by decide) dX12_stands_10) hS21 (fun v23 H23 locs23 hr23 hC23 hS23 => ?_)
  obtain ⟨hp23, hr23⟩ := hr23
  have hKp23 := hKp21.tr (hp23.mono rfl)
  obtain ⟨f23_0, f23_1⟩ := hr23
  refine q_put E hC23 hS23 g0 fp_RX12_72 tv_F rfl rfl dX12_stands_13 (fun H24 locs24 hC24 hS24 U24 => ?_)
  have hKp24 := Kp.upO E g0 fp_RX12_72 rfl U24 hKp23
  have e25 := up_I U24
  refine lv_aload_n hx hb dX12_stands_16 rfl (lv_at hl 0 rfl) ?_
  refine q_getI E hC24 g0 fa_RX12_72 dX12_stands_17 (fun v26 ev26 _ _ => ?_)
  have qv26 := e25.symm.trans ev26; subst qv26
  refine q_if_le hx hb (a := v23.toInt) rfl (tgt := 25) dX12_stands_20 rfl (fun c27 => ?_) (fun c27 => ?_)
  · refine lv_aload_n hx hb dX12_stands_25 rfl (lv_at hl 0 rfl) ?_
    refine lv_iload_n hx hb dX12_stands_26 rfl (lv_at hl 2 rfl) ?_
    refine q_goJp (q_runS (As := [.int p2]) (rest := [.ref h0]) E hS24 (m_X12_power l X Γ H24 hC24 p2 (a0 := a2) e2 (by omega) (by omega)) cw_X12_power cl_RX12_429 rfl hl.1 rfl (show _ ≤ _ from by simp [Value.category]) (by decide) dX12_stands_27) hS24 (fun v28 locs28 hr28 hS28 => ?_)
    have f28_0 := hr28
    refine lv_aload_n hx hb dX12_stands_30 rfl (lv_at hl 0 rfl) ?_
    refine q_getR E hC24 g0 fa_RX12_60 dX12_stands_31 (fun q29 eq29 gq29 => ?_)
    refine lv_iconst (v := 0) hx hb dX12_stands_34 rfl ?_
    refine q_lald2 E hC24 gq29 rfl rfl (fun _ => rfl) (a := 0) (show (0 : Int32).toInt = 0 from by decide) (by omega) (by omega) dX12_stands_35 (fun v30 ev30 => ?_)
    refine lv_lsub hx hb dX12_stands_36 (lv_topl (fun v31 ev31 => ?_))
    refine lv_iload_n hx hb dX12_stands_37 rfl (lv_at hl 2 rfl) ?_
    refine q_goJp (q_runS (As := [.int p2]) (rest := [.long v31, .ref h0]) E hS28 (m_X12_power l X Γ H24 hC24 p2 (a0 := a2) e2 (by omega) (by omega)) cw_X12_power cl_RX12_429 rfl hl.1 rfl (show _ ≤ _ from by simp [Value.category]) (by decide) dX12_stands_38) hS28 (fun v32 locs32 hr32 hS32 => ?_)
    have f32_0 := hr32
    refine q_goI (q_runV (As := [.long v31, .long v32]) (rest := []) E hC24 hS32 (m_X12_fraction l X Γ H24 hC24 h0 g0 v31 (a1 := v31.toInt) rfl v32 (a2 := v32.toInt) rfl ca gca uc (by omega)) cw_X12_fraction cl_RX12_433 g0 ⟨rfl, rfl⟩ rfl hl.1 rfl (Nat.zero_le _) (by decide) dX12_stands_41) hS32 (fun v33 H33 locs33 hr33 hC33 hS33 => ?_)
    obtain ⟨hp33, hr33⟩ := hr33
    have hKp33 := hKp24.tr (hp33.mono rfl)
    rcases hr33 with rfl | rfl
    · exact ret 0 H33 locs33 _ _ dX12_stands_44 (Or.inl rfl) ⟨hKp33, Or.inl rfl⟩ hC33 hS33
    · exact ret 1 H33 locs33 _ _ dX12_stands_44 (Or.inr rfl) ⟨hKp33, Or.inr rfl⟩ hC33 hS33
  · refine lv_iconst (v := 0) hx hb dX12_stands_23 rfl ?_
    exact ret 0 H24 locs24 _ _ dX12_stands_24 (Or.inl rfl) ⟨hKp24, Or.inl rfl⟩ hC24 hS24
set_option maxRecDepth 100000 in
set_option maxHeartbeats 4000000 in
theorem m_X12_mean (l : Launch) (X : xW) (Γ : Nat → Option Nat) (H0 : Heap) (hC0 : Conf X Γ H0) (h0 : Nat) (g0 : Γ h0 = some 11) (p1 : Int32) {a1 : Int} (e1 : p1.toInt = a1) (p2 : Int32) {a2 : Int} (e2 : p2.toInt = a2) (p3 : Int32) {a3 : Int} (e3 : p3.toInt = a3) (ca : Nat) (gca : Γ ca = some 64) (uc : ∀ a, Γ a = some 64 → a = ca) : Ctr l X Γ yX12_mean cX12_mean 7 (some .boolean) 3 [.ref h0, .int p1, .int p2, .int p3] H0 (QI X Γ (fun v H1 => Kp X Γ [1, 6, 7, 8, 9, 10, 11, 12, 14, 15, 16, 17, 19, 22, 24] H0 H1 ∧ (v = 0 ∨ v = 1))) := by
  refine q_enterZ (own := "SnowFortsModel") (by decide) rfl (Nat.le_of_ble_eq_true rfl) ?_
  intro p e s m args below meth c ls Qz E hl ret hS0
  have hx := E.1; have hb := E.2.1
  have hKp0 : Kp X Γ [1, 6, 7, 8, 9, 10, 11, 12, 14, 15, 16, 17, 19, 22, 24] H0 H0 := Kp.rf
  have hl : lv_has ls 7 [(0, .ref h0), (1, .int p1), (2, .int p2), (3, .int p3)] := hl
  refine lv_aload_n hx hb dX12_mean_0 rfl (lv_at hl 0 rfl) ?_
  refine lv_iconst (v := 0) hx hb dX12_mean_1 rfl ?_
  refine q_put E hC0 hS0 g0 fp_RX12_69 tv_F rfl rfl dX12_mean_2 (fun H21 locs21 hC21 hS21 U21 => ?_)
  have hKp21 := Kp.upO E g0 fp_RX12_69 rfl U21 hKp0
  have e22 := up_I U21
  refine lv_aload_n hx hb dX12_mean_5 rfl (lv_at hl 0 rfl) ?_
  refine lv_aload_n hx hb dX12_mean_6 rfl (lv_at hl 0 rfl) ?_
  refine lv_iload_n hx hb dX12_mean_7 rfl (lv_at hl 1 rfl) ?_
  refine lv_iload_n hx hb dX12_mean_8 rfl (lv_at hl 2 rfl) ?_
  refine lv_iload_n hx hb dX12_mean_9 rfl (lv_at hl 3 rfl) ?_
  refine q_goI (q_runV (As := [.int p1, .int p2, .int p3]) (rest := [.ref h0]) E hC21 hS21 (m_X12_reckons l X Γ H21 hC21 h0 g0 p1 (a1 := a1) e1 p2 (a2 := a2) e2 p3 (a3 := a3) e3 ca gca uc) cw_X12_reckons cl_RX12_426 g0 ⟨rfl, rfl⟩ rfl hl.1 rfl (show _ ≤ _ from by simp [Value.category]) (by decide) dX12_mean_10) hS21 (fun v23 H23 locs23 hr23 hC23 hS23 => ?_)
  obtain ⟨hp23, hr23⟩ := hr23
  have hKp23 := hKp21.tr (hp23.mono rfl)
  obtain ⟨f23_0, f23_1⟩ := hr23
  refine q_put E hC23 hS23 g0 fp_RX12_72 tv_F rfl rfl dX12_mean_13 (fun H24 locs24 hC24 hS24 U24 => ?_)
  have hKp24 := Kp.upO E g0 fp_RX12_72 rfl U24 hKp23
  have e25 := up_I U24
  refine lv_aload_n hx hb dX12_mean_16 rfl (lv_at hl 0 rfl) ?_
  refine q_getI E hC24 g0 fa_RX12_72 dX12_mean_17 (fun v26 ev26 _ _ => ?_)
  have qv26 := e25.symm.trans ev26; subst qv26
  refine q_if_le hx hb (a := v23.toInt) rfl (tgt := 25) dX12_mean_20 rfl (fun c27 => ?_) (fun c27 => ?_)
  · refine lv_lconst (v := 0) hx hb dX12_mean_25 rfl ?_
    refine lv_lstore hx hb dX12_mean_26 hl (by decide) rfl (fun ls hl => ?_)
    have hl : lv_has ls 7 [(4, .long 0), (0, .ref h0), (1, .int p1), (2, .int p2), (3, .int p3)] := hl
    refine lv_iconst (v := 0) hx hb dX12_mean_28 rfl ?_
    refine lv_istore hx hb dX12_mean_29 hl (by decide) rfl (fun ls hl => ?_)
    have hl : lv_has ls 7 [(6, .int 0), (4, .long 0), (0, .ref h0), (1, .int p1), (2, .int p2), (3, .int p3)] := hl
    have L31 : ∀ (n30 : Nat) (locs30 : List Loc) (v28 : Int32) (z28 : Int) (v29 : Int64) (z29 : Int) (ls : Array Slot), (100 - z28).toNat < n30 → v28.toInt = z28 → v29.toInt = z29 → z28 ≤ 100 → 0 ≤ z28 → va_S (AΓ Γ) H0 H24 locs30 → lv_has ls 7 [(6, .int v28), (4, .long v29), (0, .ref h0), (1, .int p1), (2, .int p2), (3, .int p3)] → W p l e (rmL 3) s m args below meth c H24 locs30 0 0 Qz (F0 m 31 ls []) := by
      intro n30
      induction n30 with
      | zero => intro locs30 v28 z28 v29 z29 ls hm30 ev28 ev29 iv30_0 iv30_1 hS30 hl; exact absurd hm30 (Nat.not_lt_zero _)
      | succ n30 ih30 =>
        intro locs30 v28 z28 v29 z29 ls hm30 ev28 ev29 iv30_0 iv30_1 hS30 hl
        refine lv_iload hx hb dX12_mean_31 (lv_at hl 0 rfl) ?_
        refine lv_bipush (v := 100) hx hb dX12_mean_33 rfl ?_
        refine q_icmp_ge hx hb (a := z28) (b := 100) ev28 (by decide) (tgt := 60) dX12_mean_35 rfl (fun c31 => ?_) (fun c31 => ?_)
        · refine lv_aload_n hx hb dX12_mean_60 rfl (lv_at hl 2 rfl) ?_
          refine lv_lload hx hb dX12_mean_61 (lv_at hl 1 rfl) ?_
          refine lv_iload_n hx hb dX12_mean_63 rfl (lv_at hl 4 rfl) ?_
          refine q_goJp (q_runS (As := [.int p2]) (rest := [.long v29, .ref h0]) E hS30 (m_X12_power l X Γ H24 hC24 p2 (a0 := a2) e2 (by omega) (by omega)) cw_X12_power cl_RX12_429 rfl hl.1 rfl (show _ ≤ _ from by simp [Value.category]) (by decide) dX12_mean_64) hS30 (fun v32 locs32 hr32 hS32 => ?_)
          have f32_0 := hr32
          refine q_goI (q_runV (As := [.long v29, .long v32]) (rest := []) E hC24 hS32 (m_X12_fraction l X Γ H24 hC24 h0 g0 v29 (a1 := z29) ev29 v32 (a2 := v32.toInt) rfl ca gca uc (by omega)) cw_X12_fraction cl_RX12_433 g0 ⟨rfl, rfl⟩ rfl hl.1 rfl (Nat.zero_le _) (by decide) dX12_mean_67) hS32 (fun v33 H33 locs33 hr33 hC33 hS33 => ?_)
          obtain ⟨hp33, hr33⟩ := hr33
          have hKp33 := hKp24.tr (hp33.mono rfl)
          rcases hr33 with rfl | rfl
          · exact ret 0 H33 locs33 _ _ dX12_mean_70 (Or.inl rfl) ⟨hKp33, Or.inl rfl⟩ hC33 hS33
          · exact ret 1 H33 locs33 _ _ dX12_mean_70 (Or.inr rfl) ⟨hKp33, Or.inr rfl⟩ hC33 hS33
        · refine lv_lload hx hb dX12_mean_38 (lv_at hl 1 rfl) ?_
          refine lv_iload hx hb dX12_mean_40 (lv_at hl 0 rfl) ?_
          refine lv_i2l (v := v28.toInt64) hx hb dX12_mean_42 rfl (lv_topl (fun v34 ev34 => ?_))
          have ev34i : v34.toInt = z28 := l_ofi ev34.symm ev28
          refine lv_aload_n hx hb dX12_mean_43 rfl (lv_at hl 2 rfl) ?_
          refine q_getR E hC24 g0 fa_RX12_60 dX12_mean_44 (fun q35 eq35 gq35 => ?_)
          refine lv_iload hx hb dX12_mean_47 (lv_at hl 0 rfl) ?_
          refine q_lald2 E hC24 gq35 rfl rfl (fun _ => rfl) (a := z28) ev28 (by omega) (by omega) dX12_mean_49 (fun v36 ev36 => ?_)
          refine lv_lmul hx hb dX12_mean_50 (lv_topl (fun v37 ev37 => ?_))
          refine lv_ladd hx hb dX12_mean_51 (lv_topl (fun v38 ev38 => ?_))
          refine lv_lstore hx hb dX12_mean_52 hl (by decide) rfl (fun ls hl => ?_)
          have hl : lv_has ls 7 [(4, .long v38), (6, .int v28), (0, .ref h0), (1, .int p1), (2, .int p2), (3, .int p3)] := hl
          obtain ⟨v39, ev39⟩ : ∃ z, z = v28 + Int32.ofInt 1 := ⟨_, rfl⟩
          have ev39i : v39.toInt = (z28 + 1) := i_add ev39 ev28 (by decide) (by omega) (by omega)
          refine lv_iinc hx hb dX12_mean_54 hl (k := 1) rfl ev39.symm (by decide) rfl (fun ls hl => ?_)
          have hl : lv_has ls 7 [(6, .int v39), (4, .long v38), (0, .ref h0), (1, .int p1), (2, .int p2), (3, .int p3)] := hl
          refine lv_goto (tgt := 31) hx hb dX12_mean_57 rfl ?_
          exact ih30 locs30 v39 ((z28 + 1)) v38 (v38.toInt) ls (by omega) ev39i rfl (by omega) (by omega) hS30 hl
    exact L31 _ locs24 0 0 0 0 ls (Nat.lt_succ_self _) (by decide) (show (0 : Int64).toInt = 0 from by decide) (by omega) (by omega) hS24 hl
  · refine lv_iconst (v := 0) hx hb dX12_mean_23 rfl ?_
    exact ret 0 H24 locs24 _ _ dX12_mean_24 (Or.inl rfl) ⟨hKp24, Or.inl rfl⟩ hC24 hS24
set_option maxRecDepth 100000 in
set_option maxHeartbeats 4000000 in
theorem m_X12_draw (l : Launch) (X : xW) (Γ : Nat → Option Nat) (H0 : Heap) (hC0 : Conf X Γ H0) (h0 : Nat) (g0 : Γ h0 = some 11) (p1 : Int32) {a1 : Int} (e1 : p1.toInt = a1) (ca : Nat) (gca : Γ ca = some 64) (uc : ∀ a, Γ a = some 64 → a = ca) (r0 : 1 ≤ a1) : Ctr l X Γ yX12_draw cX12_draw 2 (some .int) 0 [.ref h0, .int p1] H0 (QI X Γ (fun v H1 => Kp X Γ [1, 6, 7, 8, 9, 10, 11, 12, 14, 15, 16, 17, 19, 22, 24] H0 H1 ∧ ((0 ≤ v.toInt) ∧ (v.toInt < a1)))) := by
  refine q_enterI (own := "SnowFortsModel") (by decide) rfl (Nat.le_of_ble_eq_true rfl) ?_
  intro p e s m args below meth c ls Qz E hl ret hS0
  have hx := E.1; have hb := E.2.1
  have hKp0 : Kp X Γ [1, 6, 7, 8, 9, 10, 11, 12, 14, 15, 16, 17, 19, 22, 24] H0 H0 := Kp.rf
  have hl : lv_has ls 2 [(0, .ref h0), (1, .int p1)] := hl
  refine lv_aload_n hx hb dX12_draw_0 rfl (lv_at hl 0 rfl) ?_
  refine lv_aload_n hx hb dX12_draw_1 rfl (lv_at hl 0 rfl) ?_
  refine q_getI E hC0 g0 fa_RX12_437 dX12_draw_2 (fun v21 ev21 lv21 uv21 => ?_)
  refine lv_sipush (v := 2741) hx hb dX12_draw_5 rfl ?_
  refine lv_imul hx hb dX12_draw_8 (lv_topi (fun v22 ev22 => ?_))
  have ev22i : v22.toInt = (v21.toInt * 2741) := i_mul ev22 rfl (by decide) (by omega) (by omega)
  refine lv_sipush (v := 9337) hx hb dX12_draw_9 rfl ?_
  refine lv_iadd hx hb dX12_draw_12 (lv_topi (fun v23 ev23 => ?_))
  have ev23i : v23.toInt = ((v21.toInt * 2741) + 9337) := i_add ev23 ev22i (by decide) (by omega) (by omega)
  refine lv_ldcw (v := 65536) hx hb E.2.2.2.1 (E.2.2.2.2.1 _ w_1975) dX12_draw_13 ?_
  refine lv_irem hx hb dX12_draw_16 (by decide) (lv_topi (fun v24 ev24 => ?_))
  have ev24i : v24.toInt = (((v21.toInt * 2741) + 9337) % 65536) := i_rem ev24 ev23i (by decide) (by omega) (by decide)
  refine q_put E hC0 hS0 g0 fp_RX12_437 (tv_I ev24i (by omega) (by omega)) rfl rfl dX12_draw_17 (fun H25 locs25 hC25 hS25 U25 => ?_)
  have hKp25 := Kp.upO E g0 fp_RX12_437 rfl U25 hKp0
  have e26 := up_I U25
  refine lv_aload_n hx hb dX12_draw_20 rfl (lv_at hl 0 rfl) ?_
  refine q_getI E hC25 g0 fa_RX12_437 dX12_draw_21 (fun v27 ev27 lv27 uv27 => ?_)
  have qv27 := e26.symm.trans ev27; subst qv27
  refine lv_bipush (v := 8) hx hb dX12_draw_24 rfl ?_
  refine lv_idiv hx hb dX12_draw_26 (by decide) (lv_topi (fun v28 ev28 => ?_))
  have ev28i : v28.toInt = ((((v21.toInt * 2741) + 9337) % 65536) / 8) := i_div ev28 ev24i (by decide) (by omega) (by decide)
  refine lv_iload_n hx hb dX12_draw_27 rfl (lv_at hl 1 rfl) ?_
  refine lv_irem hx hb dX12_draw_28 (i_nz e1 (by omega)) (lv_topi (fun v29 ev29 => ?_))
  have ev29b : 0 ≤ v29.toInt ∧ v29.toInt < a1 := by rw [i_rem ev29 ev28i e1 (by omega) (by omega)]; exact ⟨Int.emod_nonneg _ (by omega), Int.emod_lt_of_pos _ (by omega)⟩
  have c30 : v29.toInt = v29.toInt := rfl
  exact ret v29 H25 locs25 _ _ dX12_draw_29 ⟨hKp25, ⟨by omega, by omega⟩⟩ hC25 hS25
set_option maxRecDepth 100000 in
set_option maxHeartbeats 4000000 in
theorem m_X12_does (l : Launch) (X : xW) (Γ : Nat → Option Nat) (H0 : Heap) (hC0 : Conf X Γ H0) (h0 : Nat) (g0 : Γ h0 = some 11) (p1 : Int32) {a1 : Int} (e1 : p1.toInt = a1) (ca : Nat) (gca : Γ ca = some 64) (uc : ∀ a, Γ a = some 64 → a = ca) (hu0 : UH H0 ca) (hsw0 : SW H0 ca 0) (sx : Int) (r0 : a1 = 244 + 9 * sx) (r1 : 0 ≤ sx) (r2 : sx < (sI H0 ca (243 : Int).toNat).toInt) : Ctr l X Γ yX12_does cX12_does 4 (some .boolean) 3 [.ref h0, .int p1] H0 (QI X Γ (fun v H1 => (Kp X Γ [1, 6, 7, 8, 9, 10, 11, 12, 14, 17, 19, 22, 24] H0 H1 ∧ UH H1 ca) ∧ (v = 0 ∨ v = 1))) := by
  refine q_enterZ (own := "SnowFortsModel") (by decide) rfl (Nat.le_of_ble_eq_true rfl) ?_
  intro p e s m args below meth c ls Qz E hl ret hS0
  have hx := E.1; have hb := E.2.1
  have hKp0 : Kp X Γ [1, 6, 7, 8, 9, 10, 11, 12, 14, 17, 19, 22, 24] H0 H0 := Kp.rf
  have hl : lv_has ls 4 [(0, .ref h0), (1, .int p1)] := hl
  obtain ⟨v21, ev21⟩ : ∃ z, sI H0 ca (a1 : Int).toNat = z := ⟨_, rfl⟩
  have m22 : (sI H0 ca (a1 : Int).toNat).toInt = v21.toInt := congrArg Int32.toInt ev21
  have hn0 := c243 hC0 gca
  have hst := SW.get hsw0 (s := sx) (w := a1) (by omega) (by omega) (by omega)
  unfold stp at hst
  have hk0 := okS.kind hst
  refine lv_aload_n hx hb dX12_does_0 rfl (lv_at hl 0 rfl) ?_
  refine q_getC E hC0 g0 fa_RX12_35 uc dX12_does_1 ?_
  refine lv_iload_n hx hb dX12_does_4 rfl (lv_at hl 1 rfl) ?_
  refine q_cald E hC0 (lo := -2147483648) (hi := 2147483647) gca (a := a1) e1 (by omega) (by omega) (cr_c244 (by omega) (by omega)) dX12_does_5 (fun v23 ev23 _ _ => ?_)
  have qv23 := ev21.symm.trans ev23; subst qv23
  refine lv_istore_n hx hb dX12_does_6 rfl hl (by decide) rfl (fun ls hl => ?_)
  have hl : lv_has ls 4 [(2, .int v21), (0, .ref h0), (1, .int p1)] := hl
  refine lv_iload_n hx hb dX12_does_7 rfl (lv_at hl 0 rfl) ?_
  refine q_if_ne hx hb (a := v21.toInt) rfl (tgt := 27) dX12_does_8 rfl (fun c24 => ?_) (fun c24 => ?_)
  · refine lv_iload_n hx hb dX12_does_27 rfl (lv_at hl 0 rfl) ?_
    refine lv_iconst (v := 1) hx hb dX12_does_28 rfl ?_
    refine q_icmp_ne hx hb (a := v21.toInt) (b := 1) rfl (by decide) (tgt := 48) dX12_does_29 rfl (fun c25 => ?_) (fun c25 => ?_)
    · refine lv_iload_n hx hb dX12_does_48 rfl (lv_at hl 0 rfl) ?_
      refine lv_iconst (v := 2) hx hb dX12_does_49 rfl ?_
      refine q_icmp_ne hx hb (a := v21.toInt) (b := 2) rfl (by decide) (tgt := 93) dX12_does_50 rfl (fun c26 => ?_) (fun c26 => ?_)
      · refine lv_iload_n hx hb dX12_does_93 rfl (lv_at hl 0 rfl) ?_
        refine lv_iconst (v := 3) hx hb dX12_does_94 rfl ?_
        refine q_icmp_ne hx hb (a := v21.toInt) (b := 3) rfl (by decide) (tgt := 139) dX12_does_95 rfl (fun c27 => ?_) (fun c27 => ?_)
        · refine lv_iload_n hx hb dX12_does_139 rfl (lv_at hl 0 rfl) ?_
          refine lv_iconst (v := 4) hx hb dX12_does_140 rfl ?_
          refine q_icmp_ne hx hb (a := v21.toInt) (b := 4) rfl (by decide) (tgt := 157) dX12_does_141 rfl (fun c28 => ?_) (fun c28 => ?_)
          · refine lv_iload_n hx hb dX12_does_157 rfl (lv_at hl 0 rfl) ?_
            refine lv_iconst (v := 5) hx hb dX12_does_158 rfl ?_
            refine q_icmp_ne hx hb (a := v21.toInt) (b := 5) rfl (by decide) (tgt := 199) dX12_does_159 rfl (fun c29 => ?_) (fun c29 => ?_)
            · refine lv_aload_n hx hb dX12_does_199 rfl (lv_at hl 1 rfl) ?_
              refine q_goI (q_runV (As := []) (rest := []) E hC0 hS0 (m_X12_nights l X Γ H0 hC0 h0 g0 ca gca uc hu0) cw_X12_nights cl_RX12_349 g0 ⟨rfl, rfl⟩ rfl hl.1 rfl (Nat.zero_le _) (by decide) dX12_does_200) hS0 (fun v30 H30 locs30 hr30 hC30 hS30 => ?_)
              obtain ⟨hp30, hr30⟩ := hr30
              obtain ⟨hp30p, hU30⟩ := hp30
              have hKp30 := hKp0.tr (hp30p.mono rfl)
              rcases hr30 with rfl | rfl
              · exact ret 0 H30 locs30 _ _ dX12_does_203 (Or.inl rfl) ⟨⟨hKp30, hU30⟩, Or.inl rfl⟩ hC30 hS30
              · exact ret 1 H30 locs30 _ _ dX12_does_203 (Or.inr rfl) ⟨⟨hKp30, hU30⟩, Or.inr rfl⟩ hC30 hS30
            · obtain ⟨v31, ev31⟩ : ∃ z, sI H0 ca ((a1 + 1) : Int).toNat = z := ⟨_, rfl⟩
              have m32 : (sI H0 ca ((a1 + 1) : Int).toNat).toInt = v31.toInt := congrArg Int32.toInt ev31
              obtain ⟨v33, ev33⟩ : ∃ z, sI H0 ca ((a1 + 2) : Int).toNat = z := ⟨_, rfl⟩
              have m34 : (sI H0 ca ((a1 + 2) : Int).toNat).toInt = v33.toInt := congrArg Int32.toInt ev33
              obtain ⟨v35, ev35⟩ : ∃ z, sI H0 ca ((a1 + 3) : Int).toNat = z := ⟨_, rfl⟩
              have m36 : (sI H0 ca ((a1 + 3) : Int).toNat).toInt = v35.toInt := congrArg Int32.toInt ev35
              have hs3 := okS.k3 hst (by omega)
              have hs5 := okS.k5 hst (by omega)
              refine lv_aload_n hx hb dX12_does_162 rfl (lv_at hl 1 rfl) ?_
              refine lv_aload_n hx hb dX12_does_163 rfl (lv_at hl 1 rfl) ?_
              refine q_getC E hC0 g0 fa_RX12_35 uc dX12_does_164 ?_
              refine lv_iload_n hx hb dX12_does_167 rfl (lv_at hl 2 rfl) ?_
              refine lv_iconst (v := 1) hx hb dX12_does_168 rfl ?_
              refine lv_iadd hx hb dX12_does_169 (lv_topi (fun v37 ev37 => ?_))
              have ev37i : v37.toInt = (a1 + 1) := i_add ev37 e1 (by decide) (by omega) (by omega)
              refine q_cald E hC0 (lo := -2147483648) (hi := 2147483647) gca (a := (a1 + 1)) ev37i (by omega) (by omega) (cr_c244 (by omega) (by omega)) dX12_does_170 (fun v38 ev38 _ _ => ?_)
              have qv38 := ev31.symm.trans ev38; subst qv38
              refine lv_aload_n hx hb dX12_does_171 rfl (lv_at hl 1 rfl) ?_
              refine q_getC E hC0 g0 fa_RX12_35 uc dX12_does_172 ?_
              refine lv_iload_n hx hb dX12_does_175 rfl (lv_at hl 2 rfl) ?_
              refine lv_iconst (v := 2) hx hb dX12_does_176 rfl ?_
              refine lv_iadd hx hb dX12_does_177 (lv_topi (fun v39 ev39 => ?_))
              have ev39i : v39.toInt = (a1 + 2) := i_add ev39 e1 (by decide) (by omega) (by omega)
              refine q_cald E hC0 (lo := -2147483648) (hi := 2147483647) gca (a := (a1 + 2)) ev39i (by omega) (by omega) (cr_c244 (by omega) (by omega)) dX12_does_178 (fun v40 ev40 _ _ => ?_)
              have qv40 := ev33.symm.trans ev40; subst qv40
              refine lv_aload_n hx hb dX12_does_179 rfl (lv_at hl 1 rfl) ?_
              refine q_getC E hC0 g0 fa_RX12_35 uc dX12_does_180 ?_
              refine lv_iload_n hx hb dX12_does_183 rfl (lv_at hl 2 rfl) ?_
              refine lv_iconst (v := 3) hx hb dX12_does_184 rfl ?_
              refine lv_iadd hx hb dX12_does_185 (lv_topi (fun v41 ev41 => ?_))
              have ev41i : v41.toInt = (a1 + 3) := i_add ev41 e1 (by decide) (by omega) (by omega)
              refine q_cald E hC0 (lo := -2147483648) (hi := 2147483647) gca (a := (a1 + 3)) ev41i (by omega) (by omega) (cr_c244 (by omega) (by omega)) dX12_does_186 (fun v42 ev42 _ _ => ?_)
              have qv42 := ev35.symm.trans ev42; subst qv42
              refine q_goI (q_runV (As := [.int v31, .int v33, .int v35]) (rest := []) E hC0 hS0 (m_X12_steals l X Γ H0 hC0 h0 g0 v31 (a1 := v31.toInt) rfl v33 (a2 := v33.toInt) rfl v35 (a3 := v35.toInt) rfl ca gca uc hu0 (by omega) (by omega) (by omega) (by omega) (by omega)) cw_X12_steals cl_RX12_345 g0 ⟨rfl, rfl⟩ rfl hl.1 rfl (Nat.zero_le _) (by decide) dX12_does_187) hS0 (fun v43 H43 locs43 hr43 hC43 hS43 => ?_)
              obtain ⟨hp43, hr43⟩ := hr43
              obtain ⟨hp43p, hU43⟩ := hp43
              have hKp43 := hKp0.tr (hp43p.mono rfl)
              refine q_if_le hx hb (a := v43.toInt) rfl (tgt := 197) dX12_does_190 rfl (fun c44 => ?_) (fun c44 => ?_)
              · refine lv_iconst (v := 0) hx hb dX12_does_197 rfl ?_
                exact ret 0 H43 locs43 _ _ dX12_does_198 (Or.inl rfl) ⟨⟨hKp43, hU43⟩, Or.inl rfl⟩ hC43 hS43
              · refine lv_iconst (v := 1) hx hb dX12_does_193 rfl ?_
                refine lv_goto (tgt := 198) hx hb dX12_does_194 rfl ?_
                exact ret 1 H43 locs43 _ _ dX12_does_198 (Or.inr rfl) ⟨⟨hKp43, hU43⟩, Or.inr rfl⟩ hC43 hS43
          · obtain ⟨v45, ev45⟩ : ∃ z, sI H0 ca ((a1 + 1) : Int).toNat = z := ⟨_, rfl⟩
            have m46 : (sI H0 ca ((a1 + 1) : Int).toNat).toInt = v45.toInt := congrArg Int32.toInt ev45
            have hs3 := okS.k3 hst (by omega)
            refine lv_aload_n hx hb dX12_does_144 rfl (lv_at hl 1 rfl) ?_
            refine lv_aload_n hx hb dX12_does_145 rfl (lv_at hl 1 rfl) ?_
            refine q_getC E hC0 g0 fa_RX12_35 uc dX12_does_146 ?_
            refine lv_iload_n hx hb dX12_does_149 rfl (lv_at hl 2 rfl) ?_
            refine lv_iconst (v := 1) hx hb dX12_does_150 rfl ?_
            refine lv_iadd hx hb dX12_does_151 (lv_topi (fun v47 ev47 => ?_))
            have ev47i : v47.toInt = (a1 + 1) := i_add ev47 e1 (by decide) (by omega) (by omega)
            refine q_cald E hC0 (lo := -2147483648) (hi := 2147483647) gca (a := (a1 + 1)) ev47i (by omega) (by omega) (cr_c244 (by omega) (by omega)) dX12_does_152 (fun v48 ev48 _ _ => ?_)
            have qv48 := ev45.symm.trans ev48; subst qv48
            refine q_goI (q_runV (As := [.int v45]) (rest := []) E hC0 hS0 (m_X12_ices l X Γ H0 hC0 h0 g0 v45 (a1 := v45.toInt) rfl ca gca uc hu0 (by omega) (by omega)) cw_X12_ices cl_RX12_342 g0 ⟨rfl, rfl⟩ rfl hl.1 rfl (Nat.zero_le _) (by decide) dX12_does_153) hS0 (fun v49 H49 locs49 hr49 hC49 hS49 => ?_)
            obtain ⟨hp49, hr49⟩ := hr49
            obtain ⟨hp49p, hU49⟩ := hp49
            have hKp49 := hKp0.tr (hp49p.mono rfl)
            rcases hr49 with rfl | rfl
            · exact ret 0 H49 locs49 _ _ dX12_does_156 (Or.inl rfl) ⟨⟨hKp49, hU49⟩, Or.inl rfl⟩ hC49 hS49
            · exact ret 1 H49 locs49 _ _ dX12_does_156 (Or.inr rfl) ⟨⟨hKp49, hU49⟩, Or.inr rfl⟩ hC49 hS49
        · obtain ⟨v50, ev50⟩ : ∃ z, sI H0 ca ((a1 + 1) : Int).toNat = z := ⟨_, rfl⟩
          have m51 : (sI H0 ca ((a1 + 1) : Int).toNat).toInt = v50.toInt := congrArg Int32.toInt ev50
          have hs3 := okS.k3 hst (by omega)
          refine lv_aload_n hx hb dX12_does_98 rfl (lv_at hl 1 rfl) ?_
          refine lv_aload_n hx hb dX12_does_99 rfl (lv_at hl 1 rfl) ?_
          refine q_getC E hC0 g0 fa_RX12_35 uc dX12_does_100 ?_
          refine lv_iload_n hx hb dX12_does_103 rfl (lv_at hl 2 rfl) ?_
          refine lv_iconst (v := 1) hx hb dX12_does_104 rfl ?_
          refine lv_iadd hx hb dX12_does_105 (lv_topi (fun v52 ev52 => ?_))
          have ev52i : v52.toInt = (a1 + 1) := i_add ev52 e1 (by decide) (by omega) (by omega)
          refine q_cald E hC0 (lo := -2147483648) (hi := 2147483647) gca (a := (a1 + 1)) ev52i (by omega) (by omega) (cr_c244 (by omega) (by omega)) dX12_does_106 (fun v53 ev53 _ _ => ?_)
          have qv53 := ev50.symm.trans ev53; subst qv53
          refine lv_aload_n hx hb dX12_does_107 rfl (lv_at hl 1 rfl) ?_
          refine q_getC E hC0 g0 fa_RX12_35 uc dX12_does_108 ?_
          refine lv_iload_n hx hb dX12_does_111 rfl (lv_at hl 2 rfl) ?_
          refine lv_iconst (v := 2) hx hb dX12_does_112 rfl ?_
          refine lv_iadd hx hb dX12_does_113 (lv_topi (fun v54 ev54 => ?_))
          have ev54i : v54.toInt = (a1 + 2) := i_add ev54 e1 (by decide) (by omega) (by omega)
          refine q_cald E hC0 (lo := -2147483648) (hi := 2147483647) gca (a := (a1 + 2)) ev54i (by omega) (by omega) (cr_c244 (by omega) (by omega)) dX12_does_114 (fun v55 ev55 _ _ => ?_)
          have m56 : (sI H0 ca ((a1 + 2) : Int).toNat).toInt = v55.toInt := congrArg Int32.toInt ev55
          refine q_goI (q_runV (As := [.int v50, .int v55]) (rest := []) E hC0 hS0 (m_X12_builds l X Γ H0 hC0 h0 g0 v50 (a1 := v50.toInt) rfl v55 (a2 := v55.toInt) rfl ca gca uc hu0 (by omega) (by omega)) cw_X12_builds cl_RX12_339 g0 ⟨rfl, rfl⟩ rfl hl.1 rfl (Nat.zero_le _) (by decide) dX12_does_115) hS0 (fun v57 H57 locs57 hr57 hC57 hS57 => ?_)
          obtain ⟨hp57, hr57⟩ := hr57
          obtain ⟨hp57p, hU57⟩ := hp57
          have hKp57 := hKp0.tr (hp57p.mono rfl)
          refine lv_istore_n hx hb dX12_does_118 rfl hl (by decide) rfl (fun ls hl => ?_)
          have hl : lv_has ls 4 [(3, .int v57), (2, .int v21), (0, .ref h0), (1, .int p1)] := hl
          refine lv_aload_n hx hb dX12_does_119 rfl (lv_at hl 2 rfl) ?_
          refine lv_dup hx hb dX12_does_120 rfl ?_
          refine q_getI E hC57 g0 fa_RX12_444 dX12_does_121 (fun v58 ev58 _ _ => ?_)
          refine lv_iload_n hx hb dX12_does_124 rfl (lv_at hl 0 rfl) ?_
          refine lv_iadd hx hb dX12_does_125 (lv_topi (fun v59 ev59 => ?_))
          refine q_put E hC57 hS57 g0 fp_RX12_444 tv_F rfl rfl dX12_does_126 (fun H60 locs60 hC60 hS60 U60 => ?_)
          have hKp60 := Kp.upO E g0 fp_RX12_444 rfl U60 hKp57
          have e61 := up_I U60
          have hU60 := UH.ne hU57 U60 (Or.inl (nek g0 gca (by decide)))
          refine lv_iload_n hx hb dX12_does_129 rfl (lv_at hl 0 rfl) ?_
          refine q_if_le hx hb (a := v57.toInt) rfl (tgt := 137) dX12_does_130 rfl (fun c62 => ?_) (fun c62 => ?_)
          · refine lv_iconst (v := 0) hx hb dX12_does_137 rfl ?_
            exact ret 0 H60 locs60 _ _ dX12_does_138 (Or.inl rfl) ⟨⟨hKp60, hU60⟩, Or.inl rfl⟩ hC60 hS60
          · refine lv_iconst (v := 1) hx hb dX12_does_133 rfl ?_
            refine lv_goto (tgt := 138) hx hb dX12_does_134 rfl ?_
            exact ret 1 H60 locs60 _ _ dX12_does_138 (Or.inr rfl) ⟨⟨hKp60, hU60⟩, Or.inr rfl⟩ hC60 hS60
      · obtain ⟨v63, ev63⟩ : ∃ z, sI H0 ca ((a1 + 1) : Int).toNat = z := ⟨_, rfl⟩
        have m64 : (sI H0 ca ((a1 + 1) : Int).toNat).toInt = v63.toInt := congrArg Int32.toInt ev63
        obtain ⟨v65, ev65⟩ : ∃ z, sI H0 ca ((a1 + 2) : Int).toNat = z := ⟨_, rfl⟩
        have m66 : (sI H0 ca ((a1 + 2) : Int).toNat).toInt = v65.toInt := congrArg Int32.toInt ev65
        have hs2 := okS.k2 hst (by omega)
        refine lv_aload_n hx hb dX12_does_53 rfl (lv_at hl 1 rfl) ?_
        refine lv_aload_n hx hb dX12_does_54 rfl (lv_at hl 1 rfl) ?_
        refine q_getC E hC0 g0 fa_RX12_35 uc dX12_does_55 ?_
        refine lv_iload_n hx hb dX12_does_58 rfl (lv_at hl 2 rfl) ?_
        refine lv_iconst (v := 1) hx hb dX12_does_59 rfl ?_
        refine lv_iadd hx hb dX12_does_60 (lv_topi (fun v67 ev67 => ?_))
        have ev67i : v67.toInt = (a1 + 1) := i_add ev67 e1 (by decide) (by omega) (by omega)
        refine q_cald E hC0 (lo := -2147483648) (hi := 2147483647) gca (a := (a1 + 1)) ev67i (by omega) (by omega) (cr_c244 (by omega) (by omega)) dX12_does_61 (fun v68 ev68 _ _ => ?_)
        have qv68 := ev63.symm.trans ev68; subst qv68
        refine lv_aload_n hx hb dX12_does_62 rfl (lv_at hl 1 rfl) ?_
        refine lv_aload_n hx hb dX12_does_63 rfl (lv_at hl 1 rfl) ?_
        refine q_getC E hC0 g0 fa_RX12_35 uc dX12_does_64 ?_
        refine lv_iload_n hx hb dX12_does_67 rfl (lv_at hl 2 rfl) ?_
        refine lv_iconst (v := 2) hx hb dX12_does_68 rfl ?_
        refine lv_iadd hx hb dX12_does_69 (lv_topi (fun v69 ev69 => ?_))
        have ev69i : v69.toInt = (a1 + 2) := i_add ev69 e1 (by decide) (by omega) (by omega)
        refine q_cald E hC0 (lo := -2147483648) (hi := 2147483647) gca (a := (a1 + 2)) ev69i (by omega) (by omega) (cr_c244 (by omega) (by omega)) dX12_does_70 (fun v70 ev70 _ _ => ?_)
        have qv70 := ev65.symm.trans ev70; subst qv70
        refine lv_aload_n hx hb dX12_does_71 rfl (lv_at hl 1 rfl) ?_
        refine q_getC E hC0 g0 fa_RX12_35 uc dX12_does_72 ?_
        refine lv_iload_n hx hb dX12_does_75 rfl (lv_at hl 2 rfl) ?_
        refine lv_iconst (v := 1) hx hb dX12_does_76 rfl ?_
        refine lv_iadd hx hb dX12_does_77 (lv_topi (fun v71 ev71 => ?_))
        have ev71i : v71.toInt = (a1 + 1) := i_add ev71 e1 (by decide) (by omega) (by omega)
        refine q_cald E hC0 (lo := -2147483648) (hi := 2147483647) gca (a := (a1 + 1)) ev71i (by omega) (by omega) (cr_c244 (by omega) (by omega)) dX12_does_78 (fun v72 ev72 _ _ => ?_)
        have qv72 := ev63.symm.trans ev72; subst qv72
        refine lv_isub hx hb dX12_does_79 (lv_topi (fun v73 ev73 => ?_))
        have ev73i : v73.toInt = (v65.toInt - v63.toInt) := i_sub ev73 rfl rfl (by omega) (by omega)
        refine lv_iconst (v := 1) hx hb dX12_does_80 rfl ?_
        refine lv_iadd hx hb dX12_does_81 (lv_topi (fun v74 ev74 => ?_))
        have ev74i : v74.toInt = ((v65.toInt - v63.toInt) + 1) := i_add ev74 ev73i (by decide) (by omega) (by omega)
        refine q_goI (q_runV (As := [.int v74]) (rest := [.int v63, .ref h0]) E hC0 hS0 (m_X12_draw l X Γ H0 hC0 h0 g0 v74 (a1 := ((v65.toInt - v63.toInt) + 1)) ev74i ca gca uc (by omega)) cw_X12_draw cl_RX12_441 g0 ⟨rfl, rfl⟩ rfl hl.1 rfl (show _ ≤ _ from by simp [Value.category]) (by decide) dX12_does_82) hS0 (fun v75 H75 locs75 hr75 hC75 hS75 => ?_)
        obtain ⟨hp75, hr75⟩ := hr75
        have hU75 := UH.kp hu0 hp75 gca rfl rfl
        have hKp75 := hKp0.tr (hp75.mono rfl)
        obtain ⟨f75_0, f75_1⟩ := hr75
        refine lv_iadd hx hb dX12_does_85 (lv_topi (fun v76 ev76 => ?_))
        have ev76i : v76.toInt = (v63.toInt + v75.toInt) := i_add ev76 rfl rfl (by omega) (by omega)
        refine q_goI (q_runV (As := [.int v76]) (rest := []) E hC75 hS75 (m_X12_falls l X Γ H75 hC75 h0 g0 v76 (a1 := (v63.toInt + v75.toInt)) ev76i ca gca uc (by omega) (by omega)) cw_X12_falls cl_RX12_317 g0 ⟨rfl, rfl⟩ rfl hl.1 rfl (Nat.zero_le _) (by decide) dX12_does_86) hS75 (fun v77 H77 locs77 hr77 hC77 hS77 => ?_)
        obtain ⟨hp77, hr77⟩ := hr77
        have hU77 := UH.kp hU75 hp77 gca rfl rfl
        have hKp77 := hKp75.tr (hp77.mono rfl)
        refine lv_pop hx hb dX12_does_89 rfl ?_
        refine lv_goto (tgt := 204) hx hb dX12_does_90 rfl ?_
        refine lv_iconst (v := 1) hx hb dX12_does_204 rfl ?_
        exact ret 1 H77 locs77 _ _ dX12_does_205 (Or.inr rfl) ⟨⟨hKp77, hU77⟩, Or.inr rfl⟩ hC77 hS77
    · obtain ⟨v78, ev78⟩ : ∃ z, sI H0 ca ((a1 + 1) : Int).toNat = z := ⟨_, rfl⟩
      have m79 : (sI H0 ca ((a1 + 1) : Int).toNat).toInt = v78.toInt := congrArg Int32.toInt ev78
      have hs1 := okS.k1 hst (by omega)
      refine lv_aload_n hx hb dX12_does_32 rfl (lv_at hl 1 rfl) ?_
      refine lv_aload_n hx hb dX12_does_33 rfl (lv_at hl 1 rfl) ?_
      refine q_getC E hC0 g0 fa_RX12_35 uc dX12_does_34 ?_
      refine lv_iload_n hx hb dX12_does_37 rfl (lv_at hl 2 rfl) ?_
      refine lv_iconst (v := 1) hx hb dX12_does_38 rfl ?_
      refine lv_iadd hx hb dX12_does_39 (lv_topi (fun v80 ev80 => ?_))
      have ev80i : v80.toInt = (a1 + 1) := i_add ev80 e1 (by decide) (by omega) (by omega)
      refine q_cald E hC0 (lo := -2147483648) (hi := 2147483647) gca (a := (a1 + 1)) ev80i (by omega) (by omega) (cr_c244 (by omega) (by omega)) dX12_does_40 (fun v81 ev81 _ _ => ?_)
      have qv81 := ev78.symm.trans ev81; subst qv81
      refine q_goI (q_runV (As := [.int v78]) (rest := []) E hC0 hS0 (m_X12_thaws l X Γ H0 hC0 h0 g0 v78 (a1 := v78.toInt) rfl ca gca uc (by omega) (by omega)) cw_X12_thaws cl_RX12_323 g0 ⟨rfl, rfl⟩ rfl hl.1 rfl (Nat.zero_le _) (by decide) dX12_does_41) hS0 (fun v82 H82 locs82 hr82 hC82 hS82 => ?_)
      obtain ⟨hp82, hr82⟩ := hr82
      have hU82 := UH.kp hu0 hp82 gca rfl rfl
      have hKp82 := hKp0.tr (hp82.mono rfl)
      refine lv_pop hx hb dX12_does_44 rfl ?_
      refine lv_goto (tgt := 204) hx hb dX12_does_45 rfl ?_
      refine lv_iconst (v := 1) hx hb dX12_does_204 rfl ?_
      exact ret 1 H82 locs82 _ _ dX12_does_205 (Or.inr rfl) ⟨⟨hKp82, hU82⟩, Or.inr rfl⟩ hC82 hS82
  · obtain ⟨v83, ev83⟩ : ∃ z, sI H0 ca ((a1 + 1) : Int).toNat = z := ⟨_, rfl⟩
    have m84 : (sI H0 ca ((a1 + 1) : Int).toNat).toInt = v83.toInt := congrArg Int32.toInt ev83
    have hs1 := okS.k1 hst (by omega)
    refine lv_aload_n hx hb dX12_does_11 rfl (lv_at hl 1 rfl) ?_
    refine lv_aload_n hx hb dX12_does_12 rfl (lv_at hl 1 rfl) ?_
    refine q_getC E hC0 g0 fa_RX12_35 uc dX12_does_13 ?_
    refine lv_iload_n hx hb dX12_does_16 rfl (lv_at hl 2 rfl) ?_
    refine lv_iconst (v := 1) hx hb dX12_does_17 rfl ?_
    refine lv_iadd hx hb dX12_does_18 (lv_topi (fun v85 ev85 => ?_))
    have ev85i : v85.toInt = (a1 + 1) := i_add ev85 e1 (by decide) (by omega) (by omega)
    refine q_cald E hC0 (lo := -2147483648) (hi := 2147483647) gca (a := (a1 + 1)) ev85i (by omega) (by omega) (cr_c244 (by omega) (by omega)) dX12_does_19 (fun v86 ev86 _ _ => ?_)
    have qv86 := ev83.symm.trans ev86; subst qv86
    refine q_goI (q_runV (As := [.int v83]) (rest := []) E hC0 hS0 (m_X12_falls l X Γ H0 hC0 h0 g0 v83 (a1 := v83.toInt) rfl ca gca uc (by omega) (by omega)) cw_X12_falls cl_RX12_317 g0 ⟨rfl, rfl⟩ rfl hl.1 rfl (Nat.zero_le _) (by decide) dX12_does_20) hS0 (fun v87 H87 locs87 hr87 hC87 hS87 => ?_)
    obtain ⟨hp87, hr87⟩ := hr87
    have hU87 := UH.kp hu0 hp87 gca rfl rfl
    have hKp87 := hKp0.tr (hp87.mono rfl)
    refine lv_pop hx hb dX12_does_23 rfl ?_
    refine lv_goto (tgt := 204) hx hb dX12_does_24 rfl ?_
    refine lv_iconst (v := 1) hx hb dX12_does_204 rfl ?_
    exact ret 1 H87 locs87 _ _ dX12_does_205 (Or.inr rfl) ⟨⟨hKp87, hU87⟩, Or.inr rfl⟩ hC87 hS87
