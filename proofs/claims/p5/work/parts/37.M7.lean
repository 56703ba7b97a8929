set_option maxRecDepth 100000 in
set_option maxHeartbeats 4000000 in
theorem m_X12_lastingOf (l : Launch) (X : xW) (Γ : Nat → Option Nat) (H0 : Heap) (hC0 : Conf X Γ H0) (h0 : Nat) (g0 : Γ h0 = some 11) (p1 : Int32) {a1 : Int} (e1 : p1.toInt = a1) (p2 : Int32) {a2 : Int} (e2 : p2.toInt = a2) (p3 : Int32) {a3 : Int} (e3 : p3.toInt = a3) (ca : Nat) (gca : Γ ca = some 64) (uc : ∀ a, Γ a = some 64 → a = ca) (r0 : 0 ≤ a1) (r1 : a1 ≤ 35) : Ctr l X Γ yX12_lastingOf cX12_lastingOf 9 (some .int) 1 [.ref h0, .int p1, .int p2, .int p3] H0 (QI X Γ (fun v H1 => H1 = H0 ∧ (True))) := by
  refine q_enterI (own := "SnowFortsModel") (by decide) rfl (Nat.le_of_ble_eq_true rfl) ?_
  intro p e s m args below meth c ls Qz E hl ret hS0
  have hx := E.1; have hb := E.2.1
  have hl : lv_has ls 9 [(0, .ref h0), (1, .int p1), (2, .int p2), (3, .int p3)] := hl
  refine lv_aload_n hx hb dX12_lastingOf_0 rfl (lv_at hl 0 rfl) ?_
  refine q_getC E hC0 g0 fa_RX12_35 uc dX12_lastingOf_1 ?_
  refine lv_bipush (v := 26) hx hb dX12_lastingOf_4 rfl ?_
  refine lv_iload_n hx hb dX12_lastingOf_6 rfl (lv_at hl 1 rfl) ?_
  refine lv_iadd hx hb dX12_lastingOf_7 (lv_topi (fun v21 ev21 => ?_))
  have ev21i : v21.toInt = (26 + a1) := i_add ev21 (by decide) e1 (by omega) (by omega)
  refine q_cald E hC0 (lo := 0) (hi := 99) gca (a := (26 + a1)) ev21i (by omega) (by omega) (cr_c26 (by omega) (by omega)) dX12_lastingOf_8 (fun v22 ev22 lv22 uv22 => ?_)
  refine lv_istore hx hb dX12_lastingOf_9 hl (by decide) rfl (fun ls hl => ?_)
  have hl : lv_has ls 9 [(4, .int v22), (0, .ref h0), (1, .int p1), (2, .int p2), (3, .int p3)] := hl
  refine lv_aload_n hx hb dX12_lastingOf_11 rfl (lv_at hl 1 rfl) ?_
  refine q_getC E hC0 g0 fa_RX12_35 uc dX12_lastingOf_12 ?_
  refine lv_bipush (v := 62) hx hb dX12_lastingOf_15 rfl ?_
  refine lv_iload_n hx hb dX12_lastingOf_17 rfl (lv_at hl 2 rfl) ?_
  refine lv_iadd hx hb dX12_lastingOf_18 (lv_topi (fun v23 ev23 => ?_))
  have ev23i : v23.toInt = (62 + a1) := i_add ev23 (by decide) e1 (by omega) (by omega)
  refine q_cald E hC0 (lo := 0) (hi := 99) gca (a := (62 + a1)) ev23i (by omega) (by omega) (cr_c26 (by omega) (by omega)) dX12_lastingOf_19 (fun v24 ev24 lv24 uv24 => ?_)
  refine lv_istore hx hb dX12_lastingOf_20 hl (by decide) rfl (fun ls hl => ?_)
  have hl : lv_has ls 9 [(5, .int v24), (4, .int v22), (0, .ref h0), (1, .int p1), (2, .int p2), (3, .int p3)] := hl
  refine lv_iconst (v := 0) hx hb dX12_lastingOf_22 rfl ?_
  refine lv_istore hx hb dX12_lastingOf_23 hl (by decide) rfl (fun ls hl => ?_)
  have hl : lv_has ls 9 [(6, .int 0), (5, .int v24), (4, .int v22), (0, .ref h0), (1, .int p1), (2, .int p2), (3, .int p3)] := hl
  have L25 : ∀ (n28 : Nat) (locs28 : List Loc) (v25 : Int32) (z25 : Int) (v26 : Int32) (z26 : Int) (v27 : Int32) (z27 : Int) (ls : Array Slot), (a2 - z25).toNat < n28 → v25.toInt = z25 → v26.toInt = z26 → v27.toInt = z27 → 0 ≤ z25 → va_S (AΓ Γ) H0 H0 locs28 → lv_has ls 9 [(6, .int v25), (5, .int v26), (4, .int v27), (0, .ref h0), (1, .int p1), (2, .int p2), (3, .int p3)] → W p l e (rmL 1) s m args below meth c H0 locs28 0 0 Qz (F0 m 25 ls []) := by
    intro n28
    induction n28 with
    | zero => intro locs28 v25 z25 v26 z26 v27 z27 ls hm28 ev25 ev26 ev27 iv28_0 hS28 hl; exact absurd hm28 (Nat.not_lt_zero _)
    | succ n28 ih28 =>
      intro locs28 v25 z25 v26 z26 v27 z27 ls hm28 ev25 ev26 ev27 iv28_0 hS28 hl
      refine lv_iload hx hb dX12_lastingOf_25 (lv_at hl 0 rfl) ?_
      refine lv_iload_n hx hb dX12_lastingOf_27 rfl (lv_at hl 5 rfl) ?_
      have c29 := i_rng p2; rw [show p2.toInt = a2 from e2] at c29
      refine q_icmp_ge hx hb (a := z25) (b := a2) ev25 e2 (tgt := 98) dX12_lastingOf_28 rfl (fun c30 => ?_) (fun c30 => ?_)
      · refine lv_iload hx hb dX12_lastingOf_98 (lv_at hl 1 rfl) ?_
        exact ret v26 H0 locs28 _ _ dX12_lastingOf_100 ⟨rfl, trivial⟩ hC0 hS28
      · refine lv_iload_n hx hb dX12_lastingOf_31 rfl (lv_at hl 6 rfl) ?_
        refine lv_aload_n hx hb dX12_lastingOf_32 rfl (lv_at hl 3 rfl) ?_
        refine q_getC E hC0 g0 fa_RX12_35 uc dX12_lastingOf_33 ?_
        refine lv_bipush (v := 98) hx hb dX12_lastingOf_36 rfl ?_
        refine lv_iload_n hx hb dX12_lastingOf_38 rfl (lv_at hl 4 rfl) ?_
        refine lv_iadd hx hb dX12_lastingOf_39 (lv_topi (fun v31 ev31 => ?_))
        have ev31i : v31.toInt = (98 + a1) := i_add ev31 (by decide) e1 (by omega) (by omega)
        refine q_cald E hC0 (lo := 0) (hi := 9) gca (a := (98 + a1)) ev31i (by omega) (by omega) (cr_c98 (by omega) (by omega)) dX12_lastingOf_40 (fun v32 ev32 lv32 uv32 => ?_)
        refine lv_iadd hx hb dX12_lastingOf_41 (lv_topi (fun v33 ev33 => ?_))
        refine lv_istore hx hb dX12_lastingOf_42 hl (by decide) rfl (fun ls hl => ?_)
        have hl : lv_has ls 9 [(7, .int v33), (6, .int v25), (5, .int v26), (4, .int v27), (0, .ref h0), (1, .int p1), (2, .int p2), (3, .int p3)] := hl
        refine lv_iload hx hb dX12_lastingOf_44 (lv_at hl 0 rfl) ?_
        refine lv_iload hx hb dX12_lastingOf_46 (lv_at hl 3 rfl) ?_
        refine q_mmin E hl.1 w_1740 mathw_min (a := v33.toInt) (b := z27) rfl ev27 (by decide) (Nat.zero_le _) dX12_lastingOf_48 (fun v34 mv34a mv34b mv34c => ?_)
        refine lv_istore hx hb dX12_lastingOf_51 hl (by decide) rfl (fun ls hl => ?_)
        have hl : lv_has ls 9 [(8, .int v34), (7, .int v33), (6, .int v25), (5, .int v26), (4, .int v27), (0, .ref h0), (1, .int p1), (2, .int p2), (3, .int p3)] := hl
        refine lv_iload hx hb dX12_lastingOf_53 (lv_at hl 4 rfl) ?_
        refine lv_iload hx hb dX12_lastingOf_55 (lv_at hl 0 rfl) ?_
        refine lv_isub hx hb dX12_lastingOf_57 (lv_topi (fun v35 ev35 => ?_))
        refine lv_istore hx hb dX12_lastingOf_58 hl (by decide) rfl (fun ls hl => ?_)
        have hl : lv_has ls 9 [(4, .int v35), (8, .int v34), (7, .int v33), (6, .int v25), (5, .int v26), (0, .ref h0), (1, .int p1), (2, .int p2), (3, .int p3)] := hl
        refine lv_iload hx hb dX12_lastingOf_60 (lv_at hl 3 rfl) ?_
        refine q_if_gt hx hb (a := z25) ev25 (tgt := 78) dX12_lastingOf_62 rfl (fun c36 => ?_) (fun c36 => ?_)
        · refine lv_iconst (v := 0) hx hb dX12_lastingOf_78 rfl ?_
          refine lv_iload hx hb dX12_lastingOf_79 (lv_at hl 4 rfl) ?_
          refine lv_iload hx hb dX12_lastingOf_81 (lv_at hl 2 rfl) ?_
          refine lv_isub hx hb dX12_lastingOf_83 (lv_topi (fun v37 ev37 => ?_))
          refine lv_iload hx hb dX12_lastingOf_84 (lv_at hl 1 rfl) ?_
          refine lv_iadd hx hb dX12_lastingOf_86 (lv_topi (fun v38 ev38 => ?_))
          refine q_mmax E hl.1 w_1731 mathw_max (a := 0) (b := v38.toInt) (show (0 : Int32).toInt = 0 from by decide) rfl (by decide) (Nat.zero_le _) dX12_lastingOf_87 (fun v39 mv39a mv39b mv39c => ?_)
          refine lv_istore hx hb dX12_lastingOf_90 hl (by decide) rfl (fun ls hl => ?_)
          have hl : lv_has ls 9 [(5, .int v39), (4, .int v35), (8, .int v34), (7, .int v33), (6, .int v25), (0, .ref h0), (1, .int p1), (2, .int p2), (3, .int p3)] := hl
          obtain ⟨v40, ev40⟩ : ∃ z, z = v25 + Int32.ofInt 1 := ⟨_, rfl⟩
          have ev40i : v40.toInt = (z25 + 1) := i_add ev40 ev25 (by decide) (by omega) (by omega)
          refine lv_iinc hx hb dX12_lastingOf_92 hl (k := 4) rfl ev40.symm (by decide) rfl (fun ls hl => ?_)
          have hl : lv_has ls 9 [(6, .int v40), (5, .int v39), (4, .int v35), (8, .int v34), (7, .int v33), (0, .ref h0), (1, .int p1), (2, .int p2), (3, .int p3)] := hl
          refine lv_goto (tgt := 25) hx hb dX12_lastingOf_95 rfl ?_
          exact ih28 locs28 v40 ((z25 + 1)) v39 (v39.toInt) v35 (v35.toInt) ls (by omega) ev40i rfl rfl (by omega) hS28 (lv_sub hl [0, 1, 2, 5, 6, 7, 8] rfl)
        · refine lv_aload_n hx hb dX12_lastingOf_65 rfl (lv_at hl 5 rfl) ?_
          refine q_getC E hC0 g0 fa_RX12_35 uc dX12_lastingOf_66 ?_
          refine lv_sipush (v := 170) hx hb dX12_lastingOf_69 rfl ?_
          refine lv_iload_n hx hb dX12_lastingOf_72 rfl (lv_at hl 6 rfl) ?_
          refine lv_iadd hx hb dX12_lastingOf_73 (lv_topi (fun v41 ev41 => ?_))
          have ev41i : v41.toInt = (170 + a1) := i_add ev41 (by decide) e1 (by omega) (by omega)
          refine q_cald E hC0 (lo := -2147483648) (hi := 2147483647) gca (a := (170 + a1)) ev41i (by omega) (by omega) (cr_c134 (by omega) (by omega)) dX12_lastingOf_74 (fun v42 ev42 _ _ => ?_)
          refine q_if_ne hx hb (a := v42.toInt) rfl (tgt := 92) dX12_lastingOf_75 rfl (fun c43 => ?_) (fun c43 => ?_)
          · obtain ⟨v44, ev44⟩ : ∃ z, z = v25 + Int32.ofInt 1 := ⟨_, rfl⟩
            have ev44i : v44.toInt = (z25 + 1) := i_add ev44 ev25 (by decide) (by omega) (by omega)
            refine lv_iinc hx hb dX12_lastingOf_92 hl (k := 3) rfl ev44.symm (by decide) rfl (fun ls hl => ?_)
            have hl : lv_has ls 9 [(6, .int v44), (4, .int v35), (8, .int v34), (7, .int v33), (5, .int v26), (0, .ref h0), (1, .int p1), (2, .int p2), (3, .int p3)] := hl
            refine lv_goto (tgt := 25) hx hb dX12_lastingOf_95 rfl ?_
            exact ih28 locs28 v44 ((z25 + 1)) v26 (z26) v35 (v35.toInt) ls (by omega) ev44i ev26 rfl (by omega) hS28 (lv_sub hl [0, 4, 1, 5, 6, 7, 8] rfl)
          · refine lv_iconst (v := 0) hx hb dX12_lastingOf_78 rfl ?_
            refine lv_iload hx hb dX12_lastingOf_79 (lv_at hl 4 rfl) ?_
            refine lv_iload hx hb dX12_lastingOf_81 (lv_at hl 2 rfl) ?_
            refine lv_isub hx hb dX12_lastingOf_83 (lv_topi (fun v45 ev45 => ?_))
            refine lv_iload hx hb dX12_lastingOf_84 (lv_at hl 1 rfl) ?_
            refine lv_iadd hx hb dX12_lastingOf_86 (lv_topi (fun v46 ev46 => ?_))
            refine q_mmax E hl.1 w_1731 mathw_max (a := 0) (b := v46.toInt) (show (0 : Int32).toInt = 0 from by decide) rfl (by decide) (Nat.zero_le _) dX12_lastingOf_87 (fun v47 mv47a mv47b mv47c => ?_)
            refine lv_istore hx hb dX12_lastingOf_90 hl (by decide) rfl (fun ls hl => ?_)
            have hl : lv_has ls 9 [(5, .int v47), (4, .int v35), (8, .int v34), (7, .int v33), (6, .int v25), (0, .ref h0), (1, .int p1), (2, .int p2), (3, .int p3)] := hl
            obtain ⟨v48, ev48⟩ : ∃ z, z = v25 + Int32.ofInt 1 := ⟨_, rfl⟩
            have ev48i : v48.toInt = (z25 + 1) := i_add ev48 ev25 (by decide) (by omega) (by omega)
            refine lv_iinc hx hb dX12_lastingOf_92 hl (k := 4) rfl ev48.symm (by decide) rfl (fun ls hl => ?_)
            have hl : lv_has ls 9 [(6, .int v48), (5, .int v47), (4, .int v35), (8, .int v34), (7, .int v33), (0, .ref h0), (1, .int p1), (2, .int p2), (3, .int p3)] := hl
            refine lv_goto (tgt := 25) hx hb dX12_lastingOf_95 rfl ?_
            exact ih28 locs28 v48 ((z25 + 1)) v47 (v47.toInt) v35 (v35.toInt) ls (by omega) ev48i rfl rfl (by omega) hS28 (lv_sub hl [0, 1, 2, 5, 6, 7, 8] rfl)
  exact L25 _ [] 0 0 v24 v24.toInt v22 v22.toInt ls (Nat.lt_succ_self _) (by decide) rfl rfl (by omega) hS0 hl
set_option maxRecDepth 100000 in
set_option maxHeartbeats 4000000 in
theorem m_X12_lasting (l : Launch) (X : xW) (Γ : Nat → Option Nat) (H0 : Heap) (hC0 : Conf X Γ H0) (h0 : Nat) (g0 : Γ h0 = some 11) (p1 : Int32) {a1 : Int} (e1 : p1.toInt = a1) (p2 : Int32) {a2 : Int} (e2 : p2.toInt = a2) (p3 : Int32) {a3 : Int} (e3 : p3.toInt = a3) (ca : Nat) (gca : Γ ca = some 64) (uc : ∀ a, Γ a = some 64 → a = ca) : Ctr l X Γ yX12_lasting cX12_lasting 7 (some .int) 2 [.ref h0, .int p1, .int p2, .int p3] H0 (QI X Γ (fun v H1 => Kp X Γ [1, 6, 7, 8, 9, 10, 11, 12, 14, 15, 16, 17] H0 H1 ∧ (True))) := by
  refine q_enterI (own := "SnowFortsModel") (by decide) rfl (Nat.le_of_ble_eq_true rfl) ?_
  intro p e s m args below meth c ls Qz E hl ret hS0
  have hx := E.1; have hb := E.2.1
  have hKp0 : Kp X Γ [1, 6, 7, 8, 9, 10, 11, 12, 14, 15, 16, 17] H0 H0 := Kp.rf
  have hl : lv_has ls 7 [(0, .ref h0), (1, .int p1), (2, .int p2), (3, .int p3)] := hl
  refine lv_aload_n hx hb dX12_lasting_0 rfl (lv_at hl 0 rfl) ?_
  refine lv_iconst (v := 0) hx hb dX12_lasting_1 rfl ?_
  refine q_put E hC0 hS0 g0 fp_RX12_69 tv_F rfl rfl dX12_lasting_2 (fun H21 locs21 hC21 hS21 U21 => ?_)
  have hKp21 := Kp.upO E g0 fp_RX12_69 rfl U21 hKp0
  have e22 := up_I U21
  refine lv_aload_n hx hb dX12_lasting_5 rfl (lv_at hl 0 rfl) ?_
  refine lv_iconst (v := 0) hx hb dX12_lasting_6 rfl ?_
  refine q_put E hC21 hS21 g0 fp_RX12_72 tv_F rfl rfl dX12_lasting_7 (fun H23 locs23 hC23 hS23 U23 => ?_)
  have hKp23 := Kp.upO E g0 fp_RX12_72 rfl U23 hKp21
  have e24 := up_I U23
  refine lv_aload_n hx hb dX12_lasting_10 rfl (lv_at hl 0 rfl) ?_
  refine lv_iload_n hx hb dX12_lasting_11 rfl (lv_at hl 1 rfl) ?_
  refine q_goIp (q_runV (As := [.int p1]) (rest := []) E hC23 hS23 (m_X12_isSchoolAt l X Γ H23 hC23 h0 g0 p1 (a1 := a1) e1 ca gca uc) cw_X12_isSchoolAt cl_RX12_304 g0 ⟨rfl, rfl⟩ rfl hl.1 rfl (Nat.zero_le _) (by decide) dX12_lasting_12) hS23 (fun v25 locs25 hr25 hS25 => ?_)
  rcases hr25 with ⟨rfl, f25a0, f25a1⟩ | ⟨rfl, -⟩
  · refine q_if_ne hx hb (a := 1) (by decide) (tgt := 24) dX12_lasting_15 rfl (fun c26 => ?_) (fun c26 => absurd c26 (by omega))
    refine lv_iload_n hx hb dX12_lasting_24 rfl (lv_at hl 2 rfl) ?_
    refine lv_i2l (v := p2.toInt64) hx hb dX12_lasting_25 rfl (lv_topl (fun v27 ev27 => ?_))
    have ev27i : v27.toInt = a2 := l_ofi ev27.symm e2
    refine lv_lconst (v := 0) hx hb dX12_lasting_26 rfl ?_
    refine lv_ldc2 (v := 30) hx hb E.2.2.2.1 (E.2.2.2.2.1 _ w_1840) dX12_lasting_27 ?_
    refine q_goIp (q_runS (As := [.long v27, .long 0, .long 30]) (rest := []) E hS25 (m_X12_isIn l X Γ H23 hC23 v27 (a0 := a2) ev27i 0 (a1 := 0) (show (0 : Int64).toInt = 0 from by decide) 30 (a2 := 30) (show (30 : Int64).toInt = 30 from by decide)) cw_X12_isIn cl_RX12_104 rfl hl.1 rfl (Nat.zero_le _) (by decide) dX12_lasting_30) hS25 (fun v28 locs28 hr28 hS28 => ?_)
    rcases hr28 with ⟨rfl, f28a0, f28a1⟩ | ⟨rfl, f28b⟩
    · refine q_if_eq hx hb (a := 1) (by decide) (tgt := 48) dX12_lasting_33 rfl (fun c29 => absurd c29 (by omega)) (fun c29 => ?_)
      refine lv_iload_n hx hb dX12_lasting_36 rfl (lv_at hl 3 rfl) ?_
      refine lv_i2l (v := p3.toInt64) hx hb dX12_lasting_37 rfl (lv_topl (fun v30 ev30 => ?_))
      have ev30i : v30.toInt = a3 := l_ofi ev30.symm e3
      refine lv_lconst (v := 0) hx hb dX12_lasting_38 rfl ?_
      refine lv_ldc2 (v := 40) hx hb E.2.2.2.1 (E.2.2.2.2.1 _ w_1726) dX12_lasting_39 ?_
      refine q_goIp (q_runS (As := [.long v30, .long 0, .long 40]) (rest := []) E hS28 (m_X12_isIn l X Γ H23 hC23 v30 (a0 := a3) ev30i 0 (a1 := 0) (show (0 : Int64).toInt = 0 from by decide) 40 (a2 := 40) (show (40 : Int64).toInt = 40 from by decide)) cw_X12_isIn cl_RX12_104 rfl hl.1 rfl (Nat.zero_le _) (by decide) dX12_lasting_42) hS28 (fun v31 locs31 hr31 hS31 => ?_)
      rcases hr31 with ⟨rfl, f31a0, f31a1⟩ | ⟨rfl, f31b⟩
      · refine q_if_ne hx hb (a := 1) (by decide) (tgt := 54) dX12_lasting_45 rfl (fun c32 => ?_) (fun c32 => absurd c32 (by omega))
        refine lv_iconst (v := 0) hx hb dX12_lasting_54 rfl ?_
        refine lv_istore hx hb dX12_lasting_55 hl (by decide) rfl (fun ls hl => ?_)
        have hl : lv_has ls 7 [(4, .int 0), (0, .ref h0), (1, .int p1), (2, .int p2), (3, .int p3)] := hl
        refine lv_iconst (v := 0) hx hb dX12_lasting_57 rfl ?_
        refine lv_istore hx hb dX12_lasting_58 hl (by decide) rfl (fun ls hl => ?_)
        have hl : lv_has ls 7 [(5, .int 0), (4, .int 0), (0, .ref h0), (1, .int p1), (2, .int p2), (3, .int p3)] := hl
        have L60 : ∀ (n35 : Nat) (locs35 : List Loc) (v33 : Int32) (z33 : Int) (v34 : Int32) (z34 : Int) (ls : Array Slot), (6 - z33).toNat < n35 → v33.toInt = z33 → v34.toInt = z34 → z33 ≤ 6 → 0 ≤ z33 → va_S (AΓ Γ) H0 H23 locs35 → lv_has ls 7 [(5, .int v33), (4, .int v34), (0, .ref h0), (1, .int p1), (2, .int p2), (3, .int p3)] → W p l e (rmL 2) s m args below meth c H23 locs35 0 0 Qz (F0 m 60 ls []) := by
          intro n35
          induction n35 with
          | zero => intro locs35 v33 z33 v34 z34 ls hm35 ev33 ev34 iv35_0 iv35_1 hS35 hl; exact absurd hm35 (Nat.not_lt_zero _)
          | succ n35 ih35 =>
            intro locs35 v33 z33 v34 z34 ls hm35 ev33 ev34 iv35_0 iv35_1 hS35 hl
            refine lv_iload hx hb dX12_lasting_60 (lv_at hl 0 rfl) ?_
            refine lv_aload_n hx hb dX12_lasting_62 rfl (lv_at hl 2 rfl) ?_
            refine q_getC E hC23 g0 fa_RX12_35 uc dX12_lasting_63 ?_
            refine lv_iconst (v := 1) hx hb dX12_lasting_66 rfl ?_
            refine q_cald E hC23 (lo := 0) (hi := 6) gca (a := 1) (show (1 : Int32).toInt = 1 from by decide) (by omega) (by omega) (cr_c0 (by omega) (by omega)) dX12_lasting_67 (fun v36 ev36 lv36 uv36 => ?_)
            refine q_icmp_ge hx hb (a := z33) (b := v36.toInt) ev33 rfl (tgt := 129) dX12_lasting_68 rfl (fun c37 => ?_) (fun c37 => ?_)
            · refine lv_iload hx hb dX12_lasting_129 (lv_at hl 1 rfl) ?_
              exact ret v34 H23 locs35 _ _ dX12_lasting_131 ⟨hKp23, trivial⟩ hC23 hS35
            · refine lv_iconst (v := 0) hx hb dX12_lasting_71 rfl ?_
              refine lv_istore hx hb dX12_lasting_72 hl (by decide) rfl (fun ls hl => ?_)
              have hl : lv_has ls 7 [(6, .int 0), (5, .int v33), (4, .int v34), (0, .ref h0), (1, .int p1), (2, .int p2), (3, .int p3)] := hl
              have L74 : ∀ (n40 : Nat) (locs40 : List Loc) (v38 : Int32) (z38 : Int) (v39 : Int32) (z39 : Int) (ls : Array Slot), (6 - z38).toNat < n40 → v38.toInt = z38 → v39.toInt = z39 → z38 ≤ 6 → 0 ≤ z38 → va_S (AΓ Γ) H0 H23 locs40 → lv_has ls 7 [(6, .int v38), (5, .int v33), (4, .int v39), (0, .ref h0), (1, .int p1), (2, .int p2), (3, .int p3)] → W p l e (rmL 2) s m args below meth c H23 locs40 0 0 Qz (F0 m 74 ls []) := by
                intro n40
                induction n40 with
                | zero => intro locs40 v38 z38 v39 z39 ls hm40 ev38 ev39 iv40_0 iv40_1 hS40 hl; exact absurd hm40 (Nat.not_lt_zero _)
                | succ n40 ih40 =>
                  intro locs40 v38 z38 v39 z39 ls hm40 ev38 ev39 iv40_0 iv40_1 hS40 hl
                  refine lv_iload hx hb dX12_lasting_74 (lv_at hl 0 rfl) ?_
                  refine lv_aload_n hx hb dX12_lasting_76 rfl (lv_at hl 3 rfl) ?_
                  refine q_getC E hC23 g0 fa_RX12_35 uc dX12_lasting_77 ?_
                  refine lv_iconst (v := 0) hx hb dX12_lasting_80 rfl ?_
                  refine q_cald E hC23 (lo := 0) (hi := 6) gca (a := 0) (show (0 : Int32).toInt = 0 from by decide) (by omega) (by omega) (cr_c0 (by omega) (by omega)) dX12_lasting_81 (fun v41 ev41 lv41 uv41 => ?_)
                  refine q_icmp_ge hx hb (a := z38) (b := v41.toInt) ev38 rfl (tgt := 123) dX12_lasting_82 rfl (fun c42 => ?_) (fun c42 => ?_)
                  · obtain ⟨v43, ev43⟩ : ∃ z, z = v33 + Int32.ofInt 1 := ⟨_, rfl⟩
                    have ev43i : v43.toInt = (z33 + 1) := i_add ev43 ev33 (by decide) (by omega) (by omega)
                    refine lv_iinc hx hb dX12_lasting_123 hl (k := 1) rfl ev43.symm (by decide) rfl (fun ls hl => ?_)
                    have hl : lv_has ls 7 [(5, .int v43), (6, .int v38), (4, .int v39), (0, .ref h0), (1, .int p1), (2, .int p2), (3, .int p3)] := hl
                    refine lv_goto (tgt := 60) hx hb dX12_lasting_126 rfl ?_
                    exact ih35 locs40 v43 ((z33 + 1)) v39 (z39) ls (by omega) ev43i ev39 (by omega) (by omega) hS40 (lv_sub hl [0, 2, 3, 4, 5, 6] rfl)
                  · refine lv_iload hx hb dX12_lasting_85 (lv_at hl 2 rfl) ?_
                    refine lv_aload_n hx hb dX12_lasting_87 rfl (lv_at hl 3 rfl) ?_
                    refine lv_iload hx hb dX12_lasting_88 (lv_at hl 0 rfl) ?_
                    refine q_goIp (q_runV (As := [.int v38]) (rest := [.int v39]) E hC23 hS40 (m_X12_halfOf l X Γ H23 hC23 h0 g0 v38 (a1 := z38) ev38 ca gca uc) cw_X12_halfOf cl_RX12_270 g0 ⟨rfl, rfl⟩ rfl hl.1 rfl (show _ ≤ _ from by simp [Value.category]) (by decide) dX12_lasting_90) hS40 (fun v44 locs44 hr44 hS44 => ?_)
                    obtain ⟨f44_0, f44_1⟩ := hr44
                    refine lv_iload_n hx hb dX12_lasting_93 rfl (lv_at hl 4 rfl) ?_
                    refine q_icmp_ne hx hb (a := v44.toInt) (b := a1) rfl e1 (tgt := 113) dX12_lasting_94 rfl (fun c45 => ?_) (fun c45 => ?_)
                    · refine lv_iconst (v := 0) hx hb dX12_lasting_113 rfl ?_
                      refine lv_iadd hx hb dX12_lasting_114 (lv_topi (fun v46 ev46 => ?_))
                      have c47 := i_rng v39; rw [show v39.toInt = z39 from ev39] at c47
                      have ev46i : v46.toInt = (z39 + 0) := i_add ev46 ev39 (by decide) (by omega) (by omega)
                      refine lv_istore hx hb dX12_lasting_115 hl (by decide) rfl (fun ls hl => ?_)
                      have hl : lv_has ls 7 [(4, .int v46), (6, .int v38), (5, .int v33), (0, .ref h0), (1, .int p1), (2, .int p2), (3, .int p3)] := hl
                      obtain ⟨v48, ev48⟩ : ∃ z, z = v38 + Int32.ofInt 1 := ⟨_, rfl⟩
                      have ev48i : v48.toInt = (z38 + 1) := i_add ev48 ev38 (by decide) (by omega) (by omega)
                      refine lv_iinc hx hb dX12_lasting_117 hl (k := 1) rfl ev48.symm (by decide) rfl (fun ls hl => ?_)
                      have hl : lv_has ls 7 [(6, .int v48), (4, .int v46), (5, .int v33), (0, .ref h0), (1, .int p1), (2, .int p2), (3, .int p3)] := hl
                      refine lv_goto (tgt := 74) hx hb dX12_lasting_120 rfl ?_
                      exact ih40 locs44 v48 ((z38 + 1)) v46 ((z39 + 0)) ls (by omega) ev48i ev46i (by omega) (by omega) hS44 (lv_sub hl [0, 2, 1, 3, 4, 5, 6] rfl)
                    · refine lv_aload_n hx hb dX12_lasting_97 rfl (lv_at hl 3 rfl) ?_
                      refine lv_iload hx hb dX12_lasting_98 (lv_at hl 0 rfl) ?_
                      refine lv_iload hx hb dX12_lasting_100 (lv_at hl 1 rfl) ?_
                      refine q_goIp (q_runS (As := [.int v38, .int v33]) (rest := [.ref h0, .int v39]) E hS44 (m_X12_at2 l X Γ H23 hC23 v38 (a0 := z38) ev38 v33 (a1 := z33) ev33 (by omega) (by omega) (by omega) (by omega)) cw_X12_at2 cl_RX12_292 rfl hl.1 rfl (show _ ≤ _ from by simp [Value.category]) (by decide) dX12_lasting_102) hS44 (fun v49 locs49 hr49 hS49 => ?_)
                      have f49_0 := hr49
                      refine lv_iload_n hx hb dX12_lasting_105 rfl (lv_at hl 5 rfl) ?_
                      refine lv_iload_n hx hb dX12_lasting_106 rfl (lv_at hl 6 rfl) ?_
                      refine q_goIp (q_runV (As := [.int v49, .int p2, .int p3]) (rest := [.int v39]) E hC23 hS49 (m_X12_lastingOf l X Γ H23 hC23 h0 g0 v49 (a1 := v49.toInt) rfl p2 (a2 := a2) e2 p3 (a3 := a3) e3 ca gca uc (by omega) (by omega)) cw_X12_lastingOf cl_RX12_371 g0 ⟨rfl, rfl⟩ rfl hl.1 rfl (show _ ≤ _ from by simp [Value.category]) (by decide) dX12_lasting_107) hS49 (fun v50 locs50 hr50 hS50 => ?_)
                      refine lv_goto (tgt := 114) hx hb dX12_lasting_110 rfl ?_
                      refine lv_iadd hx hb dX12_lasting_114 (lv_topi (fun v51 ev51 => ?_))
                      refine lv_istore hx hb dX12_lasting_115 hl (by decide) rfl (fun ls hl => ?_)
                      have hl : lv_has ls 7 [(4, .int v51), (6, .int v38), (5, .int v33), (0, .ref h0), (1, .int p1), (2, .int p2), (3, .int p3)] := hl
                      obtain ⟨v52, ev52⟩ : ∃ z, z = v38 + Int32.ofInt 1 := ⟨_, rfl⟩
                      have ev52i : v52.toInt = (z38 + 1) := i_add ev52 ev38 (by decide) (by omega) (by omega)
                      refine lv_iinc hx hb dX12_lasting_117 hl (k := 1) rfl ev52.symm (by decide) rfl (fun ls hl => ?_)
                      have hl : lv_has ls 7 [(6, .int v52), (4, .int v51), (5, .int v33), (0, .ref h0), (1, .int p1), (2, .int p2), (3, .int p3)] := hl
                      refine lv_goto (tgt := 74) hx hb dX12_lasting_120 rfl ?_
                      exact ih40 locs50 v52 ((z38 + 1)) v51 (v51.toInt) ls (by omega) ev52i rfl (by omega) (by omega) hS50 (lv_sub hl [0, 2, 1, 3, 4, 5, 6] rfl)
              exact L74 _ locs35 0 0 v34 z34 ls (Nat.lt_succ_self _) (by decide) ev34 (by omega) (by omega) hS35 hl
        exact L60 _ locs31 0 0 0 0 ls (Nat.lt_succ_self _) (by decide) (by decide) (by omega) (by omega) hS31 hl
      · refine q_if_ne hx hb (a := 0) (by decide) (tgt := 54) dX12_lasting_45 rfl (fun c53 => absurd c53 (by omega)) (fun c53 => ?_)
        refine lv_aload_n hx hb dX12_lasting_48 rfl (lv_at hl 0 rfl) ?_
        refine lv_iconst (v := 5) hx hb dX12_lasting_49 rfl ?_
        refine q_goI (q_runV (As := [.int 5]) (rest := []) E hC23 hS31 (m_X12_refuse l X Γ H23 hC23 h0 g0 5 (a1 := 5) (by decide) ca gca uc) cw_X12_refuse cl_RX12_298 g0 ⟨rfl, rfl⟩ rfl hl.1 rfl (Nat.zero_le _) (by decide) dX12_lasting_50) hS31 (fun v54 H54 locs54 hr54 hC54 hS54 => ?_)
        obtain ⟨hp54, hr54⟩ := hr54
        have hKp54 := hKp23.tr (hp54.mono rfl)
        exact ret v54 H54 locs54 _ _ dX12_lasting_53 ⟨hKp54, trivial⟩ hC54 hS54
    · refine q_if_eq hx hb (a := 0) (by decide) (tgt := 48) dX12_lasting_33 rfl (fun c55 => ?_) (fun c55 => absurd c55 (by omega))
      refine lv_aload_n hx hb dX12_lasting_48 rfl (lv_at hl 0 rfl) ?_
      refine lv_iconst (v := 5) hx hb dX12_lasting_49 rfl ?_
      refine q_goI (q_runV (As := [.int 5]) (rest := []) E hC23 hS28 (m_X12_refuse l X Γ H23 hC23 h0 g0 5 (a1 := 5) (by decide) ca gca uc) cw_X12_refuse cl_RX12_298 g0 ⟨rfl, rfl⟩ rfl hl.1 rfl (Nat.zero_le _) (by decide) dX12_lasting_50) hS28 (fun v56 H56 locs56 hr56 hC56 hS56 => ?_)
      obtain ⟨hp56, hr56⟩ := hr56
      have hKp56 := hKp23.tr (hp56.mono rfl)
      exact ret v56 H56 locs56 _ _ dX12_lasting_53 ⟨hKp56, trivial⟩ hC56 hS56
  · refine q_if_ne hx hb (a := 0) (by decide) (tgt := 24) dX12_lasting_15 rfl (fun c57 => absurd c57 (by omega)) (fun c57 => ?_)
    refine lv_aload_n hx hb dX12_lasting_18 rfl (lv_at hl 0 rfl) ?_
    refine lv_iconst (v := 2) hx hb dX12_lasting_19 rfl ?_
    refine q_goI (q_runV (As := [.int 2]) (rest := []) E hC23 hS25 (m_X12_refuse l X Γ H23 hC23 h0 g0 2 (a1 := 2) (by decide) ca gca uc) cw_X12_refuse cl_RX12_298 g0 ⟨rfl, rfl⟩ rfl hl.1 rfl (Nat.zero_le _) (by decide) dX12_lasting_20) hS25 (fun v58 H58 locs58 hr58 hC58 hS58 => ?_)
    obtain ⟨hp58, hr58⟩ := hr58
    have hKp58 := hKp23.tr (hp58.mono rfl)
    exact ret v58 H58 locs58 _ _ dX12_lasting_23 ⟨hKp58, trivial⟩ hC58 hS58
set_option maxRecDepth 100000 in
set_option maxHeartbeats 4000000 in
theorem m_X12_beside (l : Launch) (X : xW) (Γ : Nat → Option Nat) (H0 : Heap) (hC0 : Conf X Γ H0) (h0 : Nat) (g0 : Γ h0 = some 11) (p1 : Int32) {a1 : Int} (e1 : p1.toInt = a1) (p2 : Int32) {a2 : Int} (e2 : p2.toInt = a2) (ca : Nat) (gca : Γ ca = some 64) (uc : ∀ a, Γ a = some 64 → a = ca) (r0 : 0 ≤ a1) (r1 : a1 ≤ 35) : Ctr l X Γ yX12_beside cX12_beside 5 (some .int) 2 [.ref h0, .int p1, .int p2] H0 (QI X Γ (fun v H1 => H1 = H0 ∧ ((-1 ≤ v.toInt) ∧ (v.toInt ≤ 35)))) := by
  refine q_enterI (own := "SnowFortsModel") (by decide) rfl (Nat.le_of_ble_eq_true rfl) ?_
  intro p e s m args below meth c ls Qz E hl ret hS0
  have hx := E.1; have hb := E.2.1
  have hl : lv_has ls 5 [(0, .ref h0), (1, .int p1), (2, .int p2)] := hl
  refine lv_iload_n hx hb dX12_beside_0 rfl (lv_at hl 1 rfl) ?_
  refine lv_bipush (v := 6) hx hb dX12_beside_1 rfl ?_
  refine lv_irem hx hb dX12_beside_3 (by decide) (lv_topi (fun v21 ev21 => ?_))
  have ev21i : v21.toInt = (a1 % 6) := i_rem ev21 e1 (by decide) (by omega) (by decide)
  refine lv_iload_n hx hb dX12_beside_4 rfl (lv_at hl 2 rfl) ?_
  refine q_if_ne hx hb (a := a2) e2 (tgt := 12) dX12_beside_5 rfl (fun c22 => ?_) (fun c22 => ?_)
  · refine lv_iload_n hx hb dX12_beside_12 rfl (lv_at hl 2 rfl) ?_
    refine lv_iconst (v := 3) hx hb dX12_beside_13 rfl ?_
    refine q_icmp_ne hx hb (a := a2) (b := 3) e2 (by decide) (tgt := 21) dX12_beside_14 rfl (fun c23 => ?_) (fun c23 => ?_)
    · refine lv_iconst (v := 0) hx hb dX12_beside_21 rfl ?_
      refine lv_iadd hx hb dX12_beside_22 (lv_topi (fun v24 ev24 => ?_))
      have ev24i : v24.toInt = ((a1 % 6) + 0) := i_add ev24 ev21i (by decide) (by omega) (by omega)
      refine lv_istore_n hx hb dX12_beside_23 rfl hl (by decide) rfl (fun ls hl => ?_)
      have hl : lv_has ls 5 [(3, .int v24), (0, .ref h0), (1, .int p1), (2, .int p2)] := hl
      refine lv_iload_n hx hb dX12_beside_24 rfl (lv_at hl 2 rfl) ?_
      refine lv_bipush (v := 6) hx hb dX12_beside_25 rfl ?_
      refine lv_idiv hx hb dX12_beside_27 (by decide) (lv_topi (fun v25 ev25 => ?_))
      have ev25i : v25.toInt = (a1 / 6) := i_div ev25 e1 (by decide) (by omega) (by decide)
      refine lv_iload_n hx hb dX12_beside_28 rfl (lv_at hl 3 rfl) ?_
      refine lv_iconst (v := 1) hx hb dX12_beside_29 rfl ?_
      refine q_icmp_ne hx hb (a := a2) (b := 1) e2 (by decide) (tgt := 37) dX12_beside_30 rfl (fun c26 => ?_) (fun c26 => ?_)
      · refine lv_iload_n hx hb dX12_beside_37 rfl (lv_at hl 3 rfl) ?_
        refine lv_iconst (v := 2) hx hb dX12_beside_38 rfl ?_
        refine q_icmp_ne hx hb (a := a2) (b := 2) e2 (by decide) (tgt := 46) dX12_beside_39 rfl (fun c27 => ?_) (fun c27 => ?_)
        · refine lv_iconst (v := 0) hx hb dX12_beside_46 rfl ?_
          refine lv_iadd hx hb dX12_beside_47 (lv_topi (fun v28 ev28 => ?_))
          have ev28i : v28.toInt = ((a1 / 6) + 0) := i_add ev28 ev25i (by decide) (by omega) (by omega)
          refine lv_istore hx hb dX12_beside_48 hl (by decide) rfl (fun ls hl => ?_)
          have hl : lv_has ls 5 [(4, .int v28), (3, .int v24), (0, .ref h0), (1, .int p1), (2, .int p2)] := hl
          refine lv_aload_n hx hb dX12_beside_50 rfl (lv_at hl 2 rfl) ?_
          refine lv_iload_n hx hb dX12_beside_51 rfl (lv_at hl 1 rfl) ?_
          refine lv_iload hx hb dX12_beside_52 (lv_at hl 0 rfl) ?_
          refine q_goIp (q_runV (As := [.int v24, .int v28]) (rest := []) E hC0 hS0 (m_X12_isCell l X Γ H0 hC0 h0 g0 v24 (a1 := ((a1 % 6) + 0)) ev24i v28 (a2 := ((a1 / 6) + 0)) ev28i ca gca uc) cw_X12_isCell cl_RX12_301 g0 ⟨rfl, rfl⟩ rfl hl.1 rfl (Nat.zero_le _) (by decide) dX12_beside_54) hS0 (fun v29 locs29 hr29 hS29 => ?_)
          rcases hr29 with ⟨rfl, f29a0, f29a1, f29a2, f29a3⟩ | ⟨rfl, -⟩
          · refine q_if_eq hx hb (a := 1) (by decide) (tgt := 69) dX12_beside_57 rfl (fun c30 => absurd c30 (by omega)) (fun c30 => ?_)
            refine lv_iload_n hx hb dX12_beside_60 rfl (lv_at hl 1 rfl) ?_
            refine lv_iload hx hb dX12_beside_61 (lv_at hl 0 rfl) ?_
            refine q_goIp (q_runS (As := [.int v24, .int v28]) (rest := []) E hS29 (m_X12_at2 l X Γ H0 hC0 v24 (a0 := ((a1 % 6) + 0)) ev24i v28 (a1 := ((a1 / 6) + 0)) ev28i (by omega) (by omega) (by omega) (by omega)) cw_X12_at2 cl_RX12_292 rfl hl.1 rfl (Nat.zero_le _) (by decide) dX12_beside_63) hS29 (fun v31 locs31 hr31 hS31 => ?_)
            have f31_0 := hr31
            refine lv_goto (tgt := 70) hx hb dX12_beside_66 rfl ?_
            have c32 : v31.toInt = v31.toInt := rfl
            exact ret v31 H0 locs31 _ _ dX12_beside_70 ⟨rfl, ⟨by omega, by omega⟩⟩ hC0 hS31
          · refine q_if_eq hx hb (a := 0) (by decide) (tgt := 69) dX12_beside_57 rfl (fun c33 => ?_) (fun c33 => absurd c33 (by omega))
            refine lv_iconst (v := (-1)) hx hb dX12_beside_69 rfl ?_
            have c34 : ((-1) : Int32).toInt = (-1) := (by decide)
            exact ret (-1) H0 locs29 _ _ dX12_beside_70 ⟨rfl, ⟨by omega, by omega⟩⟩ hC0 hS29
        · refine lv_iconst (v := (-1)) hx hb dX12_beside_42 rfl ?_
          refine lv_goto (tgt := 47) hx hb dX12_beside_43 rfl ?_
          refine lv_iadd hx hb dX12_beside_47 (lv_topi (fun v35 ev35 => ?_))
          have ev35i : v35.toInt = ((a1 / 6) + (-1)) := i_add ev35 ev25i (by decide) (by omega) (by omega)
          refine lv_istore hx hb dX12_beside_48 hl (by decide) rfl (fun ls hl => ?_)
          have hl : lv_has ls 5 [(4, .int v35), (3, .int v24), (0, .ref h0), (1, .int p1), (2, .int p2)] := hl
          refine lv_aload_n hx hb dX12_beside_50 rfl (lv_at hl 2 rfl) ?_
          refine lv_iload_n hx hb dX12_beside_51 rfl (lv_at hl 1 rfl) ?_
          refine lv_iload hx hb dX12_beside_52 (lv_at hl 0 rfl) ?_
          refine q_goIp (q_runV (As := [.int v24, .int v35]) (rest := []) E hC0 hS0 (m_X12_isCell l X Γ H0 hC0 h0 g0 v24 (a1 := ((a1 % 6) + 0)) ev24i v35 (a2 := ((a1 / 6) + (-1))) ev35i ca gca uc) cw_X12_isCell cl_RX12_301 g0 ⟨rfl, rfl⟩ rfl hl.1 rfl (Nat.zero_le _) (by decide) dX12_beside_54) hS0 (fun v36 locs36 hr36 hS36 => ?_)
          rcases hr36 with ⟨rfl, f36a0, f36a1, f36a2, f36a3⟩ | ⟨rfl, -⟩
          · refine q_if_eq hx hb (a := 1) (by decide) (tgt := 69) dX12_beside_57 rfl (fun c37 => absurd c37 (by omega)) (fun c37 => ?_)
            refine lv_iload_n hx hb dX12_beside_60 rfl (lv_at hl 1 rfl) ?_
            refine lv_iload hx hb dX12_beside_61 (lv_at hl 0 rfl) ?_
            refine q_goIp (q_runS (As := [.int v24, .int v35]) (rest := []) E hS36 (m_X12_at2 l X Γ H0 hC0 v24 (a0 := ((a1 % 6) + 0)) ev24i v35 (a1 := ((a1 / 6) + (-1))) ev35i (by omega) (by omega) (by omega) (by omega)) cw_X12_at2 cl_RX12_292 rfl hl.1 rfl (Nat.zero_le _) (by decide) dX12_beside_63) hS36 (fun v38 locs38 hr38 hS38 => ?_)
            have f38_0 := hr38
            refine lv_goto (tgt := 70) hx hb dX12_beside_66 rfl ?_
            have c39 : v38.toInt = v38.toInt := rfl
            exact ret v38 H0 locs38 _ _ dX12_beside_70 ⟨rfl, ⟨by omega, by omega⟩⟩ hC0 hS38
          · refine q_if_eq hx hb (a := 0) (by decide) (tgt := 69) dX12_beside_57 rfl (fun c40 => ?_) (fun c40 => absurd c40 (by omega))
            refine lv_iconst (v := (-1)) hx hb dX12_beside_69 rfl ?_
            have c41 : ((-1) : Int32).toInt = (-1) := (by decide)
            exact ret (-1) H0 locs36 _ _ dX12_beside_70 ⟨rfl, ⟨by omega, by omega⟩⟩ hC0 hS36
      · refine lv_iconst (v := 1) hx hb dX12_beside_33 rfl ?_
        refine lv_goto (tgt := 47) hx hb dX12_beside_34 rfl ?_
        refine lv_iadd hx hb dX12_beside_47 (lv_topi (fun v42 ev42 => ?_))
        have ev42i : v42.toInt = ((a1 / 6) + 1) := i_add ev42 ev25i (by decide) (by omega) (by omega)
        refine lv_istore hx hb dX12_beside_48 hl (by decide) rfl (fun ls hl => ?_)
        have hl : lv_has ls 5 [(4, .int v42), (3, .int v24), (0, .ref h0), (1, .int p1), (2, .int p2)] := hl
        refine lv_aload_n hx hb dX12_beside_50 rfl (lv_at hl 2 rfl) ?_
        refine lv_iload_n hx hb dX12_beside_51 rfl (lv_at hl 1 rfl) ?_
        refine lv_iload hx hb dX12_beside_52 (lv_at hl 0 rfl) ?_
        refine q_goIp (q_runV (As := [.int v24, .int v42]) (rest := []) E hC0 hS0 (m_X12_isCell l X Γ H0 hC0 h0 g0 v24 (a1 := ((a1 % 6) + 0)) ev24i v42 (a2 := ((a1 / 6) + 1)) ev42i ca gca uc) cw_X12_isCell cl_RX12_301 g0 ⟨rfl, rfl⟩ rfl hl.1 rfl (Nat.zero_le _) (by decide) dX12_beside_54) hS0 (fun v43 locs43 hr43 hS43 => ?_)
        rcases hr43 with ⟨rfl, f43a0, f43a1, f43a2, f43a3⟩ | ⟨rfl, -⟩
        · refine q_if_eq hx hb (a := 1) (by decide) (tgt := 69) dX12_beside_57 rfl (fun c44 => absurd c44 (by omega)) (fun c44 => ?_)
          refine lv_iload_n hx hb dX12_beside_60 rfl (lv_at hl 1 rfl) ?_
          refine lv_iload hx hb dX12_beside_61 (lv_at hl 0 rfl) ?_
          refine q_goIp (q_runS (As := [.int v24, .int v42]) (rest := []) E hS43 (m_X12_at2 l X Γ H0 hC0 v24 (a0 := ((a1 % 6) + 0)) ev24i v42 (a1 := ((a1 / 6) + 1)) ev42i (by omega) (by omega) (by omega) (by omega)) cw_X12_at2 cl_RX12_292 rfl hl.1 rfl (Nat.zero_le _) (by decide) dX12_beside_63) hS43 (fun v45 locs45 hr45 hS45 => ?_)
          have f45_0 := hr45
          refine lv_goto (tgt := 70) hx hb dX12_beside_66 rfl ?_
          have c46 : v45.toInt = v45.toInt := rfl
          exact ret v45 H0 locs45 _ _ dX12_beside_70 ⟨rfl, ⟨by omega, by omega⟩⟩ hC0 hS45
        · refine q_if_eq hx hb (a := 0) (by decide) (tgt := 69) dX12_beside_57 rfl (fun c47 => ?_) (fun c47 => absurd c47 (by omega))
          refine lv_iconst (v := (-1)) hx hb dX12_beside_69 rfl ?_
          have c48 : ((-1) : Int32).toInt = (-1) := (by decide)
          exact ret (-1) H0 locs43 _ _ dX12_beside_70 ⟨rfl, ⟨by omega, by omega⟩⟩ hC0 hS43
    · refine lv_iconst (v := (-1)) hx hb dX12_beside_17 rfl ?_
      refine lv_goto (tgt := 22) hx hb dX12_beside_18 rfl ?_
      refine lv_iadd hx hb dX12_beside_22 (lv_topi (fun v49 ev49 => ?_))
      have ev49i : v49.toInt = ((a1 % 6) + (-1)) := i_add ev49 ev21i (by decide) (by omega) (by omega)
      refine lv_istore_n hx hb dX12_beside_23 rfl hl (by decide) rfl (fun ls hl => ?_)
      have hl : lv_has ls 5 [(3, .int v49), (0, .ref h0), (1, .int p1), (2, .int p2)] := hl
      refine lv_iload_n hx hb dX12_beside_24 rfl (lv_at hl 2 rfl) ?_
      refine lv_bipush (v := 6) hx hb dX12_beside_25 rfl ?_
      refine lv_idiv hx hb dX12_beside_27 (by decide) (lv_topi (fun v50 ev50 => ?_))
      have ev50i : v50.toInt = (a1 / 6) := i_div ev50 e1 (by decide) (by omega) (by decide)
      refine lv_iload_n hx hb dX12_beside_28 rfl (lv_at hl 3 rfl) ?_
      refine lv_iconst (v := 1) hx hb dX12_beside_29 rfl ?_
      refine q_icmp_ne hx hb (a := a2) (b := 1) e2 (by decide) (tgt := 37) dX12_beside_30 rfl (fun c51 => ?_) (fun c51 => absurd c51 (by omega))
      refine lv_iload_n hx hb dX12_beside_37 rfl (lv_at hl 3 rfl) ?_
      refine lv_iconst (v := 2) hx hb dX12_beside_38 rfl ?_
      refine q_icmp_ne hx hb (a := a2) (b := 2) e2 (by decide) (tgt := 46) dX12_beside_39 rfl (fun c52 => ?_) (fun c52 => absurd c52 (by omega))
      refine lv_iconst (v := 0) hx hb dX12_beside_46 rfl ?_
      refine lv_iadd hx hb dX12_beside_47 (lv_topi (fun v53 ev53 => ?_))
      have ev53i : v53.toInt = ((a1 / 6) + 0) := i_add ev53 ev50i (by decide) (by omega) (by omega)
      refine lv_istore hx hb dX12_beside_48 hl (by decide) rfl (fun ls hl => ?_)
      have hl : lv_has ls 5 [(4, .int v53), (3, .int v49), (0, .ref h0), (1, .int p1), (2, .int p2)] := hl
      refine lv_aload_n hx hb dX12_beside_50 rfl (lv_at hl 2 rfl) ?_
      refine lv_iload_n hx hb dX12_beside_51 rfl (lv_at hl 1 rfl) ?_
      refine lv_iload hx hb dX12_beside_52 (lv_at hl 0 rfl) ?_
      refine q_goIp (q_runV (As := [.int v49, .int v53]) (rest := []) E hC0 hS0 (m_X12_isCell l X Γ H0 hC0 h0 g0 v49 (a1 := ((a1 % 6) + (-1))) ev49i v53 (a2 := ((a1 / 6) + 0)) ev53i ca gca uc) cw_X12_isCell cl_RX12_301 g0 ⟨rfl, rfl⟩ rfl hl.1 rfl (Nat.zero_le _) (by decide) dX12_beside_54) hS0 (fun v54 locs54 hr54 hS54 => ?_)
      rcases hr54 with ⟨rfl, f54a0, f54a1, f54a2, f54a3⟩ | ⟨rfl, -⟩
      · refine q_if_eq hx hb (a := 1) (by decide) (tgt := 69) dX12_beside_57 rfl (fun c55 => absurd c55 (by omega)) (fun c55 => ?_)
        refine lv_iload_n hx hb dX12_beside_60 rfl (lv_at hl 1 rfl) ?_
        refine lv_iload hx hb dX12_beside_61 (lv_at hl 0 rfl) ?_
        refine q_goIp (q_runS (As := [.int v49, .int v53]) (rest := []) E hS54 (m_X12_at2 l X Γ H0 hC0 v49 (a0 := ((a1 % 6) + (-1))) ev49i v53 (a1 := ((a1 / 6) + 0)) ev53i (by omega) (by omega) (by omega) (by omega)) cw_X12_at2 cl_RX12_292 rfl hl.1 rfl (Nat.zero_le _) (by decide) dX12_beside_63) hS54 (fun v56 locs56 hr56 hS56 => ?_)
        have f56_0 := hr56
        refine lv_goto (tgt := 70) hx hb dX12_beside_66 rfl ?_
        have c57 : v56.toInt = v56.toInt := rfl
        exact ret v56 H0 locs56 _ _ dX12_beside_70 ⟨rfl, ⟨by omega, by omega⟩⟩ hC0 hS56
      · refine q_if_eq hx hb (a := 0) (by decide) (tgt := 69) dX12_beside_57 rfl (fun c58 => ?_) (fun c58 => absurd c58 (by omega))
        refine lv_iconst (v := (-1)) hx hb dX12_beside_69 rfl ?_
        have c59 : ((-1) : Int32).toInt = (-1) := (by decide)
        exact ret (-1) H0 locs54 _ _ dX12_beside_70 ⟨rfl, ⟨by omega, by omega⟩⟩ hC0 hS54
  · refine lv_iconst (v := 1) hx hb dX12_beside_8 rfl ?_
    refine lv_goto (tgt := 22) hx hb dX12_beside_9 rfl ?_
    refine lv_iadd hx hb dX12_beside_22 (lv_topi (fun v60 ev60 => ?_))
    have ev60i : v60.toInt = ((a1 % 6) + 1) := i_add ev60 ev21i (by decide) (by omega) (by omega)
    refine lv_istore_n hx hb dX12_beside_23 rfl hl (by decide) rfl (fun ls hl => ?_)
    have hl : lv_has ls 5 [(3, .int v60), (0, .ref h0), (1, .int p1), (2, .int p2)] := hl
    refine lv_iload_n hx hb dX12_beside_24 rfl (lv_at hl 2 rfl) ?_
    refine lv_bipush (v := 6) hx hb dX12_beside_25 rfl ?_
    refine lv_idiv hx hb dX12_beside_27 (by decide) (lv_topi (fun v61 ev61 => ?_))
    have ev61i : v61.toInt = (a1 / 6) := i_div ev61 e1 (by decide) (by omega) (by decide)
    refine lv_iload_n hx hb dX12_beside_28 rfl (lv_at hl 3 rfl) ?_
    refine lv_iconst (v := 1) hx hb dX12_beside_29 rfl ?_
    refine q_icmp_ne hx hb (a := a2) (b := 1) e2 (by decide) (tgt := 37) dX12_beside_30 rfl (fun c62 => ?_) (fun c62 => absurd c62 (by omega))
    refine lv_iload_n hx hb dX12_beside_37 rfl (lv_at hl 3 rfl) ?_
    refine lv_iconst (v := 2) hx hb dX12_beside_38 rfl ?_
    refine q_icmp_ne hx hb (a := a2) (b := 2) e2 (by decide) (tgt := 46) dX12_beside_39 rfl (fun c63 => ?_) (fun c63 => absurd c63 (by omega))
    refine lv_iconst (v := 0) hx hb dX12_beside_46 rfl ?_
    refine lv_iadd hx hb dX12_beside_47 (lv_topi (fun v64 ev64 => ?_))
    have ev64i : v64.toInt = ((a1 / 6) + 0) := i_add ev64 ev61i (by decide) (by omega) (by omega)
    refine lv_istore hx hb dX12_beside_48 hl (by decide) rfl (fun ls hl => ?_)
    have hl : lv_has ls 5 [(4, .int v64), (3, .int v60), (0, .ref h0), (1, .int p1), (2, .int p2)] := hl
    refine lv_aload_n hx hb dX12_beside_50 rfl (lv_at hl 2 rfl) ?_
    refine lv_iload_n hx hb dX12_beside_51 rfl (lv_at hl 1 rfl) ?_
    refine lv_iload hx hb dX12_beside_52 (lv_at hl 0 rfl) ?_
    refine q_goIp (q_runV (As := [.int v60, .int v64]) (rest := []) E hC0 hS0 (m_X12_isCell l X Γ H0 hC0 h0 g0 v60 (a1 := ((a1 % 6) + 1)) ev60i v64 (a2 := ((a1 / 6) + 0)) ev64i ca gca uc) cw_X12_isCell cl_RX12_301 g0 ⟨rfl, rfl⟩ rfl hl.1 rfl (Nat.zero_le _) (by decide) dX12_beside_54) hS0 (fun v65 locs65 hr65 hS65 => ?_)
    rcases hr65 with ⟨rfl, f65a0, f65a1, f65a2, f65a3⟩ | ⟨rfl, -⟩
    · refine q_if_eq hx hb (a := 1) (by decide) (tgt := 69) dX12_beside_57 rfl (fun c66 => absurd c66 (by omega)) (fun c66 => ?_)
      refine lv_iload_n hx hb dX12_beside_60 rfl (lv_at hl 1 rfl) ?_
      refine lv_iload hx hb dX12_beside_61 (lv_at hl 0 rfl) ?_
      refine q_goIp (q_runS (As := [.int v60, .int v64]) (rest := []) E hS65 (m_X12_at2 l X Γ H0 hC0 v60 (a0 := ((a1 % 6) + 1)) ev60i v64 (a1 := ((a1 / 6) + 0)) ev64i (by omega) (by omega) (by omega) (by omega)) cw_X12_at2 cl_RX12_292 rfl hl.1 rfl (Nat.zero_le _) (by decide) dX12_beside_63) hS65 (fun v67 locs67 hr67 hS67 => ?_)
      have f67_0 := hr67
      refine lv_goto (tgt := 70) hx hb dX12_beside_66 rfl ?_
      have c68 : v67.toInt = v67.toInt := rfl
      exact ret v67 H0 locs67 _ _ dX12_beside_70 ⟨rfl, ⟨by omega, by omega⟩⟩ hC0 hS67
    · refine q_if_eq hx hb (a := 0) (by decide) (tgt := 69) dX12_beside_57 rfl (fun c69 => ?_) (fun c69 => absurd c69 (by omega))
      refine lv_iconst (v := (-1)) hx hb dX12_beside_69 rfl ?_
      have c70 : ((-1) : Int32).toInt = (-1) := (by decide)
      exact ret (-1) H0 locs65 _ _ dX12_beside_70 ⟨rfl, ⟨by omega, by omega⟩⟩ hC0 hS65
set_option maxRecDepth 100000 in
set_option maxHeartbeats 4000000 in
theorem m_X12_step (l : Launch) (X : xW) (Γ : Nat → Option Nat) (H0 : Heap) (hC0 : Conf X Γ H0) (p0 : Int32) {a0 : Int} (e0 : p0.toInt = a0) (p1 : Int32) {a1 : Int} (e1 : p1.toInt = a1) (r0 : 0 ≤ a0) (r1 : a0 ≤ 198) (r2 : 0 ≤ a1) (r3 : a1 ≤ 198) : Ctr l X Γ yX12_step cX12_step 2 (some .int) 0 [.int p0, .int p1] H0 (QI X Γ (fun v H1 => H1 = H0 ∧ ((0 ≤ v.toInt) ∧ (v.toInt ≤ 198)))) := by
  refine q_enterI (own := "SnowFortsModel") (by decide) rfl (Nat.le_of_ble_eq_true rfl) ?_
  intro p e s m args below meth c ls Qz E hl ret hS0
  have hx := E.1; have hb := E.2.1
  have hl : lv_has ls 2 [(0, .int p0), (1, .int p1)] := hl
  refine lv_iload_n hx hb dX12_step_0 rfl (lv_at hl 1 rfl) ?_
  refine lv_iload_n hx hb dX12_step_1 rfl (lv_at hl 0 rfl) ?_
  refine q_icmp_le hx hb (a := a1) (b := a0) e1 e0 (tgt := 11) dX12_step_2 rfl (fun c21 => ?_) (fun c21 => ?_)
  · refine lv_iload_n hx hb dX12_step_11 rfl (lv_at hl 0 rfl) ?_
    refine lv_iload_n hx hb dX12_step_12 rfl (lv_at hl 1 rfl) ?_
    refine lv_isub hx hb dX12_step_13 (lv_topi (fun v22 ev22 => ?_))
    have ev22i : v22.toInt = (a0 - a1) := i_sub ev22 e0 e1 (by omega) (by omega)
    refine lv_iconst (v := 3) hx hb dX12_step_14 rfl ?_
    refine q_icmp_le hx hb (a := (a0 - a1)) (b := 3) ev22i (by decide) (tgt := 22) dX12_step_15 rfl (fun c23 => ?_) (fun c23 => ?_)
    · refine lv_iconst (v := 0) hx hb dX12_step_22 rfl ?_
      have c24 : (0 : Int32).toInt = 0 := (by decide)
      exact ret 0 H0 [] _ _ dX12_step_23 ⟨rfl, ⟨by omega, by omega⟩⟩ hC0 hS0
    · refine lv_iconst (v := 2) hx hb dX12_step_18 rfl ?_
      refine lv_goto (tgt := 23) hx hb dX12_step_19 rfl ?_
      have c25 : (2 : Int32).toInt = 2 := (by decide)
      exact ret 2 H0 [] _ _ dX12_step_23 ⟨rfl, ⟨by omega, by omega⟩⟩ hC0 hS0
  · refine lv_iload_n hx hb dX12_step_5 rfl (lv_at hl 1 rfl) ?_
    refine lv_iload_n hx hb dX12_step_6 rfl (lv_at hl 0 rfl) ?_
    refine lv_isub hx hb dX12_step_7 (lv_topi (fun v26 ev26 => ?_))
    have ev26i : v26.toInt = (a1 - a0) := i_sub ev26 e1 e0 (by omega) (by omega)
    refine lv_goto (tgt := 23) hx hb dX12_step_8 rfl ?_
    have c27 : v26.toInt = (a1 - a0) := ev26i
    exact ret v26 H0 [] _ _ dX12_step_23 ⟨rfl, ⟨by omega, by omega⟩⟩ hC0 hS0
set_option maxRecDepth 100000 in
set_option maxHeartbeats 4000000 in
theorem m_X12_goesBy (l : Launch) (X : xW) (Γ : Nat → Option Nat) (H0 : Heap) (hC0 : Conf X Γ H0) (h0 : Nat) (g0 : Γ h0 = some 11) (p1 : Int32) {a1 : Int} (e1 : p1.toInt = a1) (p2 : Int32) {a2 : Int} (e2 : p2.toInt = a2) (ca : Nat) (gca : Γ ca = some 64) (uc : ∀ a, Γ a = some 64 → a = ca) (r0 : 0 ≤ a1) (r1 : a1 ≤ 35) : Ctr l X Γ yX12_goesBy cX12_goesBy 4 (some .int) 3 [.ref h0, .int p1, .int p2] H0 (QI X Γ (fun v H1 => H1 = H0 ∧ ((1 ≤ v.toInt) ∧ (v.toInt ≤ 1200000)))) := by
  refine q_enterI (own := "SnowFortsModel") (by decide) rfl (Nat.le_of_ble_eq_true rfl) ?_
  intro p e s m args below meth c ls Qz E hl ret hS0
  have hx := E.1; have hb := E.2.1
  have hl : lv_has ls 4 [(0, .ref h0), (1, .int p1), (2, .int p2)] := hl
  refine lv_aload_n hx hb dX12_goesBy_0 rfl (lv_at hl 0 rfl) ?_
  refine lv_iload_n hx hb dX12_goesBy_1 rfl (lv_at hl 1 rfl) ?_
  refine lv_iload_n hx hb dX12_goesBy_2 rfl (lv_at hl 2 rfl) ?_
  refine q_goIp (q_runV (As := [.int p1, .int p2]) (rest := []) E hC0 hS0 (m_X12_beside l X Γ H0 hC0 h0 g0 p1 (a1 := a1) e1 p2 (a2 := a2) e2 ca gca uc (by omega) (by omega)) cw_X12_beside cl_RX12_374 g0 ⟨rfl, rfl⟩ rfl hl.1 rfl (Nat.zero_le _) (by decide) dX12_goesBy_3) hS0 (fun v21 locs21 hr21 hS21 => ?_)
  obtain ⟨f21_0, f21_1⟩ := hr21
  refine lv_istore_n hx hb dX12_goesBy_6 rfl hl (by decide) rfl (fun ls hl => ?_)
  have hl : lv_has ls 4 [(3, .int v21), (0, .ref h0), (1, .int p1), (2, .int p2)] := hl
  refine lv_iload_n hx hb dX12_goesBy_7 rfl (lv_at hl 0 rfl) ?_
  refine q_if_ge hx hb (a := v21.toInt) rfl (tgt := 37) dX12_goesBy_8 rfl (fun c22 => ?_) (fun c22 => ?_)
  · refine lv_sipush (v := 1000) hx hb dX12_goesBy_37 rfl ?_
    refine lv_aload_n hx hb dX12_goesBy_40 rfl (lv_at hl 1 rfl) ?_
    refine lv_iload_n hx hb dX12_goesBy_41 rfl (lv_at hl 2 rfl) ?_
    refine q_goIp (q_runV (As := [.int p1]) (rest := [.int 1000]) E hC0 hS21 (m_X12_topOf l X Γ H0 hC0 h0 g0 p1 (a1 := a1) e1 ca gca uc (by omega) (by omega)) cw_X12_topOf cl_RX12_359 g0 ⟨rfl, rfl⟩ rfl hl.1 rfl (show _ ≤ _ from by simp [Value.category]) (by decide) dX12_goesBy_42) hS21 (fun v23 locs23 hr23 hS23 => ?_)
    obtain ⟨f23_0, f23_1⟩ := hr23
    refine lv_aload_n hx hb dX12_goesBy_45 rfl (lv_at hl 1 rfl) ?_
    refine lv_iload_n hx hb dX12_goesBy_46 rfl (lv_at hl 0 rfl) ?_
    refine q_goIp (q_runV (As := [.int v21]) (rest := [.int v23, .int 1000]) E hC0 hS23 (m_X12_topOf l X Γ H0 hC0 h0 g0 v21 (a1 := v21.toInt) rfl ca gca uc (by omega) (by omega)) cw_X12_topOf cl_RX12_359 g0 ⟨rfl, rfl⟩ rfl hl.1 rfl (show _ ≤ _ from by simp [Value.category]) (by decide) dX12_goesBy_47) hS23 (fun v24 locs24 hr24 hS24 => ?_)
    obtain ⟨f24_0, f24_1⟩ := hr24
    refine q_goIp (q_runS (As := [.int v23, .int v24]) (rest := [.int 1000]) E hS24 (m_X12_step l X Γ H0 hC0 v23 (a0 := v23.toInt) rfl v24 (a1 := v24.toInt) rfl (by omega) (by omega) (by omega) (by omega)) cw_X12_step cl_RX12_377 rfl hl.1 rfl (show _ ≤ _ from by simp [Value.category]) (by decide) dX12_goesBy_50) hS24 (fun v25 locs25 hr25 hS25 => ?_)
    obtain ⟨f25_0, f25_1⟩ := hr25
    refine lv_imul hx hb dX12_goesBy_53 (lv_topi (fun v26 ev26 => ?_))
    have ev26i : v26.toInt = (1000 * v25.toInt) := i_mul ev26 (by decide) rfl (by omega) (by omega)
    refine lv_iconst (v := 1) hx hb dX12_goesBy_54 rfl ?_
    refine lv_iadd hx hb dX12_goesBy_55 (lv_topi (fun v27 ev27 => ?_))
    have ev27i : v27.toInt = ((1000 * v25.toInt) + 1) := i_add ev27 ev26i (by decide) (by omega) (by omega)
    refine lv_aload_n hx hb dX12_goesBy_56 rfl (lv_at hl 1 rfl) ?_
    refine q_getR E hC0 g0 fa_RX12_47 dX12_goesBy_57 (fun q28 eq28 gq28 => ?_)
    refine lv_iload_n hx hb dX12_goesBy_60 rfl (lv_at hl 0 rfl) ?_
    refine q_iald E hC0 gq28 rfl rfl (fun _ h => h) (i_in (a := v21.toInt) rfl (by omega) (by omega)) dX12_goesBy_61 (fun v29 ev29 lv29 uv29 => ?_)
    refine lv_iadd hx hb dX12_goesBy_62 (lv_topi (fun v30 ev30 => ?_))
    have ev30i : v30.toInt = (((1000 * v25.toInt) + 1) + v29.toInt) := i_add ev30 ev27i rfl (by omega) (by omega)
    have c31 : v30.toInt = (((1000 * v25.toInt) + 1) + v29.toInt) := ev30i
    exact ret v30 H0 locs25 _ _ dX12_goesBy_63 ⟨rfl, ⟨by omega, by omega⟩⟩ hC0 hS25
  · refine lv_iload_n hx hb dX12_goesBy_11 rfl (lv_at hl 3 rfl) ?_
    refine q_if_ne hx hb (a := a2) e2 (tgt := 33) dX12_goesBy_12 rfl (fun c32 => ?_) (fun c32 => ?_)
    · refine lv_ldcw (v := 1000000) hx hb E.2.2.2.1 (E.2.2.2.2.1 _ w_1801) dX12_goesBy_33 ?_
      have c33 : (1000000 : Int32).toInt = 1000000 := (by decide)
      exact ret 1000000 H0 locs21 _ _ dX12_goesBy_36 ⟨rfl, ⟨by omega, by omega⟩⟩ hC0 hS21
    · refine lv_sipush (v := 1000) hx hb dX12_goesBy_15 rfl ?_
      refine lv_aload_n hx hb dX12_goesBy_18 rfl (lv_at hl 1 rfl) ?_
      refine lv_iload_n hx hb dX12_goesBy_19 rfl (lv_at hl 2 rfl) ?_
      refine q_goIp (q_runV (As := [.int p1]) (rest := [.int 1000]) E hC0 hS21 (m_X12_topOf l X Γ H0 hC0 h0 g0 p1 (a1 := a1) e1 ca gca uc (by omega) (by omega)) cw_X12_topOf cl_RX12_359 g0 ⟨rfl, rfl⟩ rfl hl.1 rfl (show _ ≤ _ from by simp [Value.category]) (by decide) dX12_goesBy_20) hS21 (fun v34 locs34 hr34 hS34 => ?_)
      obtain ⟨f34_0, f34_1⟩ := hr34
      refine lv_iconst (v := 0) hx hb dX12_goesBy_23 rfl ?_
      refine q_goIp (q_runS (As := [.int v34, .int 0]) (rest := [.int 1000]) E hS34 (m_X12_step l X Γ H0 hC0 v34 (a0 := v34.toInt) rfl 0 (a1 := 0) (by decide) (by omega) (by omega) (by omega) (by omega)) cw_X12_step cl_RX12_377 rfl hl.1 rfl (show _ ≤ _ from by simp [Value.category]) (by decide) dX12_goesBy_24) hS34 (fun v35 locs35 hr35 hS35 => ?_)
      obtain ⟨f35_0, f35_1⟩ := hr35
      refine lv_imul hx hb dX12_goesBy_27 (lv_topi (fun v36 ev36 => ?_))
      have ev36i : v36.toInt = (1000 * v35.toInt) := i_mul ev36 (by decide) rfl (by omega) (by omega)
      refine lv_iconst (v := 1) hx hb dX12_goesBy_28 rfl ?_
      refine lv_iadd hx hb dX12_goesBy_29 (lv_topi (fun v37 ev37 => ?_))
      have ev37i : v37.toInt = ((1000 * v35.toInt) + 1) := i_add ev37 ev36i (by decide) (by omega) (by omega)
      refine lv_goto (tgt := 36) hx hb dX12_goesBy_30 rfl ?_
      have c38 : v37.toInt = ((1000 * v35.toInt) + 1) := ev37i
      exact ret v37 H0 locs35 _ _ dX12_goesBy_36 ⟨rfl, ⟨by omega, by omega⟩⟩ hC0 hS35
set_option maxRecDepth 100000 in
set_option maxHeartbeats 4000000 in
theorem m_X12_wayAt (l : Launch) (X : xW) (Γ : Nat → Option Nat) (H0 : Heap) (hC0 : Conf X Γ H0) (h0 : Nat) (g0 : Γ h0 = some 11) (p1 : Int32) {a1 : Int} (e1 : p1.toInt = a1) (p2 : Int32) {a2 : Int} (e2 : p2.toInt = a2) (ca : Nat) (gca : Γ ca = some 64) (uc : ∀ a, Γ a = some 64 → a = ca) : Ctr l X Γ yX12_wayAt cX12_wayAt 3 (some .int) 1 [.ref h0, .int p1, .int p2] H0 (QI X Γ (fun v H1 => Kp X Γ [1, 6, 7, 8, 9, 10, 11, 12, 14, 15, 16, 17] H0 H1 ∧ (True))) := by
  refine q_enterI (own := "SnowFortsModel") (by decide) rfl (Nat.le_of_ble_eq_true rfl) ?_
  intro p e s m args below meth c ls Qz E hl ret hS0
  have hx := E.1; have hb := E.2.1
  have hKp0 : Kp X Γ [1, 6, 7, 8, 9, 10, 11, 12, 14, 15, 16, 17] H0 H0 := Kp.rf
  have hl : lv_has ls 3 [(0, .ref h0), (1, .int p1), (2, .int p2)] := hl
  refine lv_aload_n hx hb dX12_wayAt_0 rfl (lv_at hl 0 rfl) ?_
  refine lv_iconst (v := 0) hx hb dX12_wayAt_1 rfl ?_
  refine q_put E hC0 hS0 g0 fp_RX12_69 tv_F rfl rfl dX12_wayAt_2 (fun H21 locs21 hC21 hS21 U21 => ?_)
  have hKp21 := Kp.upO E g0 fp_RX12_69 rfl U21 hKp0
  have e22 := up_I U21
  refine lv_aload_n hx hb dX12_wayAt_5 rfl (lv_at hl 0 rfl) ?_
  refine lv_iconst (v := 0) hx hb dX12_wayAt_6 rfl ?_
  refine q_put E hC21 hS21 g0 fp_RX12_72 tv_F rfl rfl dX12_wayAt_7 (fun H23 locs23 hC23 hS23 U23 => ?_)
  have hKp23 := Kp.upO E g0 fp_RX12_72 rfl U23 hKp21
  have e24 := up_I U23
  refine lv_iload_n hx hb dX12_wayAt_10 rfl (lv_at hl 2 rfl) ?_
  refine lv_i2l (v := p2.toInt64) hx hb dX12_wayAt_11 rfl (lv_topl (fun v25 ev25 => ?_))
  have ev25i : v25.toInt = a2 := l_ofi ev25.symm e2
  refine lv_lconst (v := 0) hx hb dX12_wayAt_12 rfl ?_
  refine lv_lconst (v := 1) hx hb dX12_wayAt_13 rfl ?_
  refine q_goIp (q_runS (As := [.long v25, .long 0, .long 1]) (rest := []) E hS23 (m_X12_isIn l X Γ H23 hC23 v25 (a0 := a2) ev25i 0 (a1 := 0) (show (0 : Int64).toInt = 0 from by decide) 1 (a2 := 1) (show (1 : Int64).toInt = 1 from by decide)) cw_X12_isIn cl_RX12_104 rfl hl.1 rfl (Nat.zero_le _) (by decide) dX12_wayAt_14) hS23 (fun v26 locs26 hr26 hS26 => ?_)
  rcases hr26 with ⟨rfl, f26a0, f26a1⟩ | ⟨rfl, f26b⟩
  · refine q_if_ne hx hb (a := 1) (by decide) (tgt := 26) dX12_wayAt_17 rfl (fun c27 => ?_) (fun c27 => absurd c27 (by omega))
    refine lv_iload_n hx hb dX12_wayAt_26 rfl (lv_at hl 1 rfl) ?_
    refine lv_i2l (v := p1.toInt64) hx hb dX12_wayAt_27 rfl (lv_topl (fun v28 ev28 => ?_))
    have ev28i : v28.toInt = a1 := l_ofi ev28.symm e1
    refine lv_lconst (v := 0) hx hb dX12_wayAt_28 rfl ?_
    refine lv_aload_n hx hb dX12_wayAt_29 rfl (lv_at hl 0 rfl) ?_
    refine q_getI E hC23 g0 fa_RX12_386 dX12_wayAt_30 (fun v29 ev29 lv29 uv29 => ?_)
    refine lv_iconst (v := 1) hx hb dX12_wayAt_33 rfl ?_
    refine lv_isub hx hb dX12_wayAt_34 (lv_topi (fun v30 ev30 => ?_))
    have ev30i : v30.toInt = (v29.toInt - 1) := i_sub ev30 rfl (by decide) (by omega) (by omega)
    refine lv_i2l (v := v30.toInt64) hx hb dX12_wayAt_35 rfl (lv_topl (fun v31 ev31 => ?_))
    have ev31i : v31.toInt = (v29.toInt - 1) := l_ofi ev31.symm ev30i
    refine q_goIp (q_runS (As := [.long v28, .long 0, .long v31]) (rest := []) E hS26 (m_X12_isIn l X Γ H23 hC23 v28 (a0 := a1) ev28i 0 (a1 := 0) (show (0 : Int64).toInt = 0 from by decide) v31 (a2 := (v29.toInt - 1)) ev31i) cw_X12_isIn cl_RX12_104 rfl hl.1 rfl (Nat.zero_le _) (by decide) dX12_wayAt_36) hS26 (fun v32 locs32 hr32 hS32 => ?_)
    rcases hr32 with ⟨rfl, f32a0, f32a1⟩ | ⟨rfl, f32b⟩
    · refine q_if_ne hx hb (a := 1) (by decide) (tgt := 49) dX12_wayAt_39 rfl (fun c33 => ?_) (fun c33 => absurd c33 (by omega))
      refine lv_iload_n hx hb dX12_wayAt_49 rfl (lv_at hl 2 rfl) ?_
      refine q_if_ne hx hb (a := a2) e2 (tgt := 65) dX12_wayAt_50 rfl (fun c34 => ?_) (fun c34 => ?_)
      · refine lv_aload_n hx hb dX12_wayAt_65 rfl (lv_at hl 0 rfl) ?_
        refine q_getR E hC23 g0 fa_RX12_50 dX12_wayAt_66 (fun q35 eq35 gq35 => ?_)
        refine lv_iload_n hx hb dX12_wayAt_69 rfl (lv_at hl 1 rfl) ?_
        refine q_iald E hC23 gq35 rfl rfl (fun _ h => h) (i_in (a := a1) e1 (by omega) (by omega)) dX12_wayAt_70 (fun v36 ev36 lv36 uv36 => ?_)
        refine lv_bipush (v := 6) hx hb dX12_wayAt_71 rfl ?_
        refine lv_idiv hx hb dX12_wayAt_73 (by decide) (lv_topi (fun v37 ev37 => ?_))
        have ev37i : v37.toInt = (v36.toInt / 6) := i_div ev37 rfl (by decide) (by omega) (by decide)
        exact ret v37 H23 locs32 _ _ dX12_wayAt_74 ⟨hKp23, trivial⟩ hC23 hS32
      · refine lv_aload_n hx hb dX12_wayAt_53 rfl (lv_at hl 0 rfl) ?_
        refine q_getR E hC23 g0 fa_RX12_50 dX12_wayAt_54 (fun q38 eq38 gq38 => ?_)
        refine lv_iload_n hx hb dX12_wayAt_57 rfl (lv_at hl 1 rfl) ?_
        refine q_iald E hC23 gq38 rfl rfl (fun _ h => h) (i_in (a := a1) e1 (by omega) (by omega)) dX12_wayAt_58 (fun v39 ev39 lv39 uv39 => ?_)
        refine lv_bipush (v := 6) hx hb dX12_wayAt_59 rfl ?_
        refine lv_irem hx hb dX12_wayAt_61 (by decide) (lv_topi (fun v40 ev40 => ?_))
        have ev40i : v40.toInt = (v39.toInt % 6) := i_rem ev40 rfl (by decide) (by omega) (by decide)
        refine lv_goto (tgt := 74) hx hb dX12_wayAt_62 rfl ?_
        exact ret v40 H23 locs32 _ _ dX12_wayAt_74 ⟨hKp23, trivial⟩ hC23 hS32
    · refine q_if_ne hx hb (a := 0) (by decide) (tgt := 49) dX12_wayAt_39 rfl (fun c41 => absurd c41 (by omega)) (fun c41 => ?_)
      refine lv_aload_n hx hb dX12_wayAt_42 rfl (lv_at hl 0 rfl) ?_
      refine lv_bipush (v := 8) hx hb dX12_wayAt_43 rfl ?_
      refine q_goI (q_runV (As := [.int 8]) (rest := []) E hC23 hS32 (m_X12_refuse l X Γ H23 hC23 h0 g0 8 (a1 := 8) (by decide) ca gca uc) cw_X12_refuse cl_RX12_298 g0 ⟨rfl, rfl⟩ rfl hl.1 rfl (Nat.zero_le _) (by decide) dX12_wayAt_45) hS32 (fun v42 H42 locs42 hr42 hC42 hS42 => ?_)
      obtain ⟨hp42, hr42⟩ := hr42
      have hKp42 := hKp23.tr (hp42.mono rfl)
      exact ret v42 H42 locs42 _ _ dX12_wayAt_48 ⟨hKp42, trivial⟩ hC42 hS42
  · refine q_if_ne hx hb (a := 0) (by decide) (tgt := 26) dX12_wayAt_17 rfl (fun c43 => absurd c43 (by omega)) (fun c43 => ?_)
    refine lv_aload_n hx hb dX12_wayAt_20 rfl (lv_at hl 0 rfl) ?_
    refine lv_iconst (v := 5) hx hb dX12_wayAt_21 rfl ?_
    refine q_goI (q_runV (As := [.int 5]) (rest := []) E hC23 hS26 (m_X12_refuse l X Γ H23 hC23 h0 g0 5 (a1 := 5) (by decide) ca gca uc) cw_X12_refuse cl_RX12_298 g0 ⟨rfl, rfl⟩ rfl hl.1 rfl (Nat.zero_le _) (by decide) dX12_wayAt_22) hS26 (fun v44 H44 locs44 hr44 hC44 hS44 => ?_)
    obtain ⟨hp44, hr44⟩ := hr44
    have hKp44 := hKp23.tr (hp44.mono rfl)
    exact ret v44 H44 locs44 _ _ dX12_wayAt_25 ⟨hKp44, trivial⟩ hC44 hS44
set_option maxRecDepth 100000 in
set_option maxHeartbeats 4000000 in
theorem m_X12_look (l : Launch) (X : xW) (Γ : Nat → Option Nat) (H0 : Heap) (hC0 : Conf X Γ H0) (h0 : Nat) (g0 : Γ h0 = some 11) (p1 : Int32) {a1 : Int} (e1 : p1.toInt = a1) (p2 : Int32) {a2 : Int} (e2 : p2.toInt = a2) (ca : Nat) (gca : Γ ca = some 64) (uc : ∀ a, Γ a = some 64 → a = ca) : Ctr l X Γ yX12_look cX12_look 3 (some .int) 2 [.ref h0, .int p1, .int p2] H0 (QI X Γ (fun v H1 => Kp X Γ [1, 6, 7, 8, 9, 10, 11, 12, 14, 16, 17] H0 H1 ∧ (True))) := by
  refine q_enterI (own := "SnowFortsModel") (by decide) rfl (Nat.le_of_ble_eq_true rfl) ?_
  intro p e s m args below meth c ls Qz E hl ret hS0
  have hx := E.1; have hb := E.2.1
  have hKp0 : Kp X Γ [1, 6, 7, 8, 9, 10, 11, 12, 14, 16, 17] H0 H0 := Kp.rf
  have hl : lv_has ls 3 [(0, .ref h0), (1, .int p1), (2, .int p2)] := hl
  refine lv_aload_n hx hb dX12_look_0 rfl (lv_at hl 0 rfl) ?_
  refine lv_iconst (v := 0) hx hb dX12_look_1 rfl ?_
  refine q_put E hC0 hS0 g0 fp_RX12_69 tv_F rfl rfl dX12_look_2 (fun H21 locs21 hC21 hS21 U21 => ?_)
  have hKp21 := Kp.upO E g0 fp_RX12_69 rfl U21 hKp0
  have e22 := up_I U21
  refine lv_aload_n hx hb dX12_look_5 rfl (lv_at hl 0 rfl) ?_
  refine lv_iconst (v := 0) hx hb dX12_look_6 rfl ?_
  refine q_put E hC21 hS21 g0 fp_RX12_72 tv_F rfl rfl dX12_look_7 (fun H23 locs23 hC23 hS23 U23 => ?_)
  have hKp23 := Kp.upO E g0 fp_RX12_72 rfl U23 hKp21
  have e24 := up_I U23
  refine lv_aload_n hx hb dX12_look_10 rfl (lv_at hl 0 rfl) ?_
  refine lv_iload_n hx hb dX12_look_11 rfl (lv_at hl 1 rfl) ?_
  refine lv_iload_n hx hb dX12_look_12 rfl (lv_at hl 2 rfl) ?_
  refine q_goIp (q_runV (As := [.int p1, .int p2]) (rest := []) E hC23 hS23 (m_X12_isCell l X Γ H23 hC23 h0 g0 p1 (a1 := a1) e1 p2 (a2 := a2) e2 ca gca uc) cw_X12_isCell cl_RX12_301 g0 ⟨rfl, rfl⟩ rfl hl.1 rfl (Nat.zero_le _) (by decide) dX12_look_13) hS23 (fun v25 locs25 hr25 hS25 => ?_)
  rcases hr25 with ⟨rfl, f25a0, f25a1, f25a2, f25a3⟩ | ⟨rfl, -⟩
  · refine q_if_ne hx hb (a := 1) (by decide) (tgt := 25) dX12_look_16 rfl (fun c26 => ?_) (fun c26 => absurd c26 (by omega))
    refine lv_aload_n hx hb dX12_look_25 rfl (lv_at hl 0 rfl) ?_
    refine q_getC E hC23 g0 fa_RX12_35 uc dX12_look_26 ?_
    refine lv_sipush (v := 206) hx hb dX12_look_29 rfl ?_
    refine lv_iload_n hx hb dX12_look_32 rfl (lv_at hl 1 rfl) ?_
    refine lv_iload_n hx hb dX12_look_33 rfl (lv_at hl 2 rfl) ?_
    refine q_goIp (q_runS (As := [.int p1, .int p2]) (rest := [.int 206, .ref ca]) E hS25 (m_X12_at2 l X Γ H23 hC23 p1 (a0 := a1) e1 p2 (a1 := a2) e2 (by omega) (by omega) (by omega) (by omega)) cw_X12_at2 cl_RX12_292 rfl hl.1 rfl (show _ ≤ _ from by simp [Value.category]) (by decide) dX12_look_34) hS25 (fun v27 locs27 hr27 hS27 => ?_)
    have f27_0 := hr27
    refine lv_iadd hx hb dX12_look_37 (lv_topi (fun v28 ev28 => ?_))
    have ev28i : v28.toInt = (206 + v27.toInt) := i_add ev28 (by decide) rfl (by omega) (by omega)
    refine lv_iconst (v := 1) hx hb dX12_look_38 rfl ?_
    refine q_cast E hC23 hS27 gca (a := (206 + v27.toInt)) ev28i (by omega) (by omega) (cs_c134 (a := (206 + v27.toInt)) (by omega) (by omega)) dX12_look_39 (fun H29 locs29 hC29 hS29 U29 => ?_)
    have hKp29 := Kp.upD gca rfl rfl (fun _ => ⟨fun _ => nd2 (by omega) (by omega), fun _ => by unfold dpu; omega, fun _ => by unfold dpn; omega⟩) U29 hKp23
    have e30 := up_I U29
    refine lv_aload_n hx hb dX12_look_40 rfl (lv_at hl 0 rfl) ?_
    refine q_getC E hC29 g0 fa_RX12_35 uc dX12_look_41 ?_
    refine lv_sipush (v := 170) hx hb dX12_look_44 rfl ?_
    refine lv_iload_n hx hb dX12_look_47 rfl (lv_at hl 1 rfl) ?_
    refine lv_iload_n hx hb dX12_look_48 rfl (lv_at hl 2 rfl) ?_
    refine q_goIp (q_runS (As := [.int p1, .int p2]) (rest := [.int 170, .ref ca]) E hS29 (m_X12_at2 l X Γ H29 hC29 p1 (a0 := a1) e1 p2 (a1 := a2) e2 (by omega) (by omega) (by omega) (by omega)) cw_X12_at2 cl_RX12_292 rfl hl.1 rfl (show _ ≤ _ from by simp [Value.category]) (by decide) dX12_look_49) hS29 (fun v31 locs31 hr31 hS31 => ?_)
    have f31_0 := hr31
    refine lv_iadd hx hb dX12_look_52 (lv_topi (fun v32 ev32 => ?_))
    have ev32i : v32.toInt = (170 + v31.toInt) := i_add ev32 (by decide) rfl (by omega) (by omega)
    refine q_cald E hC29 (lo := -2147483648) (hi := 2147483647) gca (a := (170 + v31.toInt)) ev32i (by omega) (by omega) (cr_c134 (by omega) (by omega)) dX12_look_53 (fun v33 ev33 _ _ => ?_)
    exact ret v33 H29 locs31 _ _ dX12_look_54 ⟨hKp29, trivial⟩ hC29 hS31
  · refine q_if_ne hx hb (a := 0) (by decide) (tgt := 25) dX12_look_16 rfl (fun c34 => absurd c34 (by omega)) (fun c34 => ?_)
    refine lv_aload_n hx hb dX12_look_19 rfl (lv_at hl 0 rfl) ?_
    refine lv_iconst (v := 2) hx hb dX12_look_20 rfl ?_
    refine q_goI (q_runV (As := [.int 2]) (rest := []) E hC23 hS25 (m_X12_refuse l X Γ H23 hC23 h0 g0 2 (a1 := 2) (by decide) ca gca uc) cw_X12_refuse cl_RX12_298 g0 ⟨rfl, rfl⟩ rfl hl.1 rfl (Nat.zero_le _) (by decide) dX12_look_21) hS25 (fun v35 H35 locs35 hr35 hC35 hS35 => ?_)
    obtain ⟨hp35, hr35⟩ := hr35
    have hKp35 := hKp23.tr (hp35.mono rfl)
    exact ret v35 H35 locs35 _ _ dX12_look_24 ⟨hKp35, trivial⟩ hC35 hS35
set_option maxRecDepth 100000 in
set_option maxHeartbeats 4000000 in
theorem m_X12_hidingOf (l : Launch) (X : xW) (Γ : Nat → Option Nat) (H0 : Heap) (hC0 : Conf X Γ H0) (h0 : Nat) (g0 : Γ h0 = some 11) (p1 : Int32) {a1 : Int} (e1 : p1.toInt = a1) (ca : Nat) (gca : Γ ca = some 64) (uc : ∀ a, Γ a = some 64 → a = ca) : Ctr l X Γ yX12_hidingOf cX12_hidingOf 5 (some .int) 1 [.ref h0, .int p1] H0 (QI X Γ (fun v H1 => H1 = H0 ∧ (True))) := by
  refine q_enterI (own := "SnowFortsModel") (by decide) rfl (Nat.le_of_ble_eq_true rfl) ?_
  intro p e s m args below meth c ls Qz E hl ret hS0
  have hx := E.1; have hb := E.2.1
  have hl : lv_has ls 5 [(0, .ref h0), (1, .int p1)] := hl
  refine lv_iconst (v := 0) hx hb dX12_hidingOf_0 rfl ?_
  refine lv_istore_n hx hb dX12_hidingOf_1 rfl hl (by decide) rfl (fun ls hl => ?_)
  have hl : lv_has ls 5 [(2, .int 0), (0, .ref h0), (1, .int p1)] := hl
  refine lv_iconst (v := 0) hx hb dX12_hidingOf_2 rfl ?_
  refine lv_istore_n hx hb dX12_hidingOf_3 rfl hl (by decide) rfl (fun ls hl => ?_)
  have hl : lv_has ls 5 [(3, .int 0), (2, .int 0), (0, .ref h0), (1, .int p1)] := hl
  have L4 : ∀ (n23 : Nat) (locs23 : List Loc) (v21 : Int32) (z21 : Int) (v22 : Int32) (z22 : Int) (ls : Array Slot), (6 - z21).toNat < n23 → v21.toInt = z21 → v22.toInt = z22 → z21 ≤ 6 → 0 ≤ z21 → va_S (AΓ Γ) H0 H0 locs23 → lv_has ls 5 [(3, .int v21), (2, .int v22), (0, .ref h0), (1, .int p1)] → W p l e (rmL 1) s m args below meth c H0 locs23 0 0 Qz (F0 m 4 ls []) := by
    intro n23
    induction n23 with
    | zero => intro locs23 v21 z21 v22 z22 ls hm23 ev21 ev22 iv23_0 iv23_1 hS23 hl; exact absurd hm23 (Nat.not_lt_zero _)
    | succ n23 ih23 =>
      intro locs23 v21 z21 v22 z22 ls hm23 ev21 ev22 iv23_0 iv23_1 hS23 hl
      refine lv_iload_n hx hb dX12_hidingOf_4 rfl (lv_at hl 0 rfl) ?_
      refine lv_aload_n hx hb dX12_hidingOf_5 rfl (lv_at hl 2 rfl) ?_
      refine q_getC E hC0 g0 fa_RX12_35 uc dX12_hidingOf_6 ?_
      refine lv_iconst (v := 1) hx hb dX12_hidingOf_9 rfl ?_
      refine q_cald E hC0 (lo := 0) (hi := 6) gca (a := 1) (show (1 : Int32).toInt = 1 from by decide) (by omega) (by omega) (cr_c0 (by omega) (by omega)) dX12_hidingOf_10 (fun v24 ev24 lv24 uv24 => ?_)
      refine q_icmp_ge hx hb (a := z21) (b := v24.toInt) ev21 rfl (tgt := 93) dX12_hidingOf_11 rfl (fun c25 => ?_) (fun c25 => ?_)
      · refine lv_iload_n hx hb dX12_hidingOf_93 rfl (lv_at hl 1 rfl) ?_
        exact ret v22 H0 locs23 _ _ dX12_hidingOf_94 ⟨rfl, trivial⟩ hC0 hS23
      · refine lv_iconst (v := 0) hx hb dX12_hidingOf_14 rfl ?_
        refine lv_istore hx hb dX12_hidingOf_15 hl (by decide) rfl (fun ls hl => ?_)
        have hl : lv_has ls 5 [(4, .int 0), (3, .int v21), (2, .int v22), (0, .ref h0), (1, .int p1)] := hl
        have L17 : ∀ (n28 : Nat) (locs28 : List Loc) (v26 : Int32) (z26 : Int) (v27 : Int32) (z27 : Int) (ls : Array Slot), (6 - z26).toNat < n28 → v26.toInt = z26 → v27.toInt = z27 → z26 ≤ 6 → 0 ≤ z26 → va_S (AΓ Γ) H0 H0 locs28 → lv_has ls 5 [(4, .int v26), (3, .int v21), (2, .int v27), (0, .ref h0), (1, .int p1)] → W p l e (rmL 1) s m args below meth c H0 locs28 0 0 Qz (F0 m 17 ls []) := by
          intro n28
          induction n28 with
          | zero => intro locs28 v26 z26 v27 z27 ls hm28 ev26 ev27 iv28_0 iv28_1 hS28 hl; exact absurd hm28 (Nat.not_lt_zero _)
          | succ n28 ih28 =>
            intro locs28 v26 z26 v27 z27 ls hm28 ev26 ev27 iv28_0 iv28_1 hS28 hl
            refine lv_iload hx hb dX12_hidingOf_17 (lv_at hl 0 rfl) ?_
            refine lv_aload_n hx hb dX12_hidingOf_19 rfl (lv_at hl 3 rfl) ?_
            refine q_getC E hC0 g0 fa_RX12_35 uc dX12_hidingOf_20 ?_
            refine lv_iconst (v := 0) hx hb dX12_hidingOf_23 rfl ?_
            refine q_cald E hC0 (lo := 0) (hi := 6) gca (a := 0) (show (0 : Int32).toInt = 0 from by decide) (by omega) (by omega) (cr_c0 (by omega) (by omega)) dX12_hidingOf_24 (fun v29 ev29 lv29 uv29 => ?_)
            refine q_icmp_ge hx hb (a := z26) (b := v29.toInt) ev26 rfl (tgt := 87) dX12_hidingOf_25 rfl (fun c30 => ?_) (fun c30 => ?_)
            · obtain ⟨v31, ev31⟩ : ∃ z, z = v21 + Int32.ofInt 1 := ⟨_, rfl⟩
              have ev31i : v31.toInt = (z21 + 1) := i_add ev31 ev21 (by decide) (by omega) (by omega)
              refine lv_iinc hx hb dX12_hidingOf_87 hl (k := 1) rfl ev31.symm (by decide) rfl (fun ls hl => ?_)
              have hl : lv_has ls 5 [(3, .int v31), (4, .int v26), (2, .int v27), (0, .ref h0), (1, .int p1)] := hl
              refine lv_goto (tgt := 4) hx hb dX12_hidingOf_90 rfl ?_
              exact ih23 locs28 v31 ((z21 + 1)) v27 (z27) ls (by omega) ev31i ev27 (by omega) (by omega) hS28 (lv_sub hl [0, 2, 3, 4] rfl)
            · refine lv_iload_n hx hb dX12_hidingOf_28 rfl (lv_at hl 2 rfl) ?_
              refine lv_aload_n hx hb dX12_hidingOf_29 rfl (lv_at hl 3 rfl) ?_
              refine lv_iload hx hb dX12_hidingOf_30 (lv_at hl 0 rfl) ?_
              refine q_goIp (q_runV (As := [.int v26]) (rest := [.int v27]) E hC0 hS28 (m_X12_halfOf l X Γ H0 hC0 h0 g0 v26 (a1 := z26) ev26 ca gca uc) cw_X12_halfOf cl_RX12_270 g0 ⟨rfl, rfl⟩ rfl hl.1 rfl (show _ ≤ _ from by simp [Value.category]) (by decide) dX12_hidingOf_32) hS28 (fun v32 locs32 hr32 hS32 => ?_)
              obtain ⟨f32_0, f32_1⟩ := hr32
              refine lv_iload_n hx hb dX12_hidingOf_35 rfl (lv_at hl 4 rfl) ?_
              have c33 := i_rng p1; rw [show p1.toInt = a1 from e1] at c33
              refine q_icmp_ne hx hb (a := v32.toInt) (b := a1) rfl e1 (tgt := 78) dX12_hidingOf_36 rfl (fun c34 => ?_) (fun c34 => ?_)
              · refine lv_iconst (v := 0) hx hb dX12_hidingOf_78 rfl ?_
                refine lv_iadd hx hb dX12_hidingOf_79 (lv_topi (fun v35 ev35 => ?_))
                have c36 := i_rng v27; rw [show v27.toInt = z27 from ev27] at c36
                have ev35i : v35.toInt = (z27 + 0) := i_add ev35 ev27 (by decide) (by omega) (by omega)
                refine lv_istore_n hx hb dX12_hidingOf_80 rfl hl (by decide) rfl (fun ls hl => ?_)
                have hl : lv_has ls 5 [(2, .int v35), (4, .int v26), (3, .int v21), (0, .ref h0), (1, .int p1)] := hl
                obtain ⟨v37, ev37⟩ : ∃ z, z = v26 + Int32.ofInt 1 := ⟨_, rfl⟩
                have ev37i : v37.toInt = (z26 + 1) := i_add ev37 ev26 (by decide) (by omega) (by omega)
                refine lv_iinc hx hb dX12_hidingOf_81 hl (k := 1) rfl ev37.symm (by decide) rfl (fun ls hl => ?_)
                have hl : lv_has ls 5 [(4, .int v37), (2, .int v35), (3, .int v21), (0, .ref h0), (1, .int p1)] := hl
                refine lv_goto (tgt := 17) hx hb dX12_hidingOf_84 rfl ?_
                exact ih28 locs32 v37 ((z26 + 1)) v35 ((z27 + 0)) ls (by omega) ev37i ev35i (by omega) (by omega) hS32 (lv_sub hl [0, 2, 1, 3, 4] rfl)
              · refine lv_aload_n hx hb dX12_hidingOf_39 rfl (lv_at hl 3 rfl) ?_
                refine q_getC E hC0 g0 fa_RX12_35 uc dX12_hidingOf_40 ?_
                refine lv_bipush (v := 62) hx hb dX12_hidingOf_43 rfl ?_
                refine lv_iload hx hb dX12_hidingOf_45 (lv_at hl 0 rfl) ?_
                refine lv_iload_n hx hb dX12_hidingOf_47 rfl (lv_at hl 1 rfl) ?_
                refine q_goIp (q_runS (As := [.int v26, .int v21]) (rest := [.int 62, .ref ca, .int v27]) E hS32 (m_X12_at2 l X Γ H0 hC0 v26 (a0 := z26) ev26 v21 (a1 := z21) ev21 (by omega) (by omega) (by omega) (by omega)) cw_X12_at2 cl_RX12_292 rfl hl.1 rfl (show _ ≤ _ from by simp [Value.category]) (by decide) dX12_hidingOf_48) hS32 (fun v38 locs38 hr38 hS38 => ?_)
                have f38_0 := hr38
                refine lv_iadd hx hb dX12_hidingOf_51 (lv_topi (fun v39 ev39 => ?_))
                have ev39i : v39.toInt = (62 + v38.toInt) := i_add ev39 (by decide) rfl (by omega) (by omega)
                refine q_cald E hC0 (lo := 0) (hi := 99) gca (a := (62 + v38.toInt)) ev39i (by omega) (by omega) (cr_c26 (by omega) (by omega)) dX12_hidingOf_52 (fun v40 ev40 lv40 uv40 => ?_)
                refine q_if_le hx hb (a := v40.toInt) rfl (tgt := 78) dX12_hidingOf_53 rfl (fun c41 => ?_) (fun c41 => ?_)
                · refine lv_iconst (v := 0) hx hb dX12_hidingOf_78 rfl ?_
                  refine lv_iadd hx hb dX12_hidingOf_79 (lv_topi (fun v42 ev42 => ?_))
                  have c43 := i_rng v27; rw [show v27.toInt = z27 from ev27] at c43
                  have ev42i : v42.toInt = (z27 + 0) := i_add ev42 ev27 (by decide) (by omega) (by omega)
                  refine lv_istore_n hx hb dX12_hidingOf_80 rfl hl (by decide) rfl (fun ls hl => ?_)
                  have hl : lv_has ls 5 [(2, .int v42), (4, .int v26), (3, .int v21), (0, .ref h0), (1, .int p1)] := hl
                  obtain ⟨v44, ev44⟩ : ∃ z, z = v26 + Int32.ofInt 1 := ⟨_, rfl⟩
                  have ev44i : v44.toInt = (z26 + 1) := i_add ev44 ev26 (by decide) (by omega) (by omega)
                  refine lv_iinc hx hb dX12_hidingOf_81 hl (k := 1) rfl ev44.symm (by decide) rfl (fun ls hl => ?_)
                  have hl : lv_has ls 5 [(4, .int v44), (2, .int v42), (3, .int v21), (0, .ref h0), (1, .int p1)] := hl
                  refine lv_goto (tgt := 17) hx hb dX12_hidingOf_84 rfl ?_
                  exact ih28 locs38 v44 ((z26 + 1)) v42 ((z27 + 0)) ls (by omega) ev44i ev42i (by omega) (by omega) hS38 (lv_sub hl [0, 2, 1, 3, 4] rfl)
                · refine lv_aload_n hx hb dX12_hidingOf_56 rfl (lv_at hl 3 rfl) ?_
                  refine q_getC E hC0 g0 fa_RX12_35 uc dX12_hidingOf_57 ?_
                  refine lv_sipush (v := 206) hx hb dX12_hidingOf_60 rfl ?_
                  refine lv_iload hx hb dX12_hidingOf_63 (lv_at hl 0 rfl) ?_
                  refine lv_iload_n hx hb dX12_hidingOf_65 rfl (lv_at hl 1 rfl) ?_
                  refine q_goIp (q_runS (As := [.int v26, .int v21]) (rest := [.int 206, .ref ca, .int v27]) E hS38 (m_X12_at2 l X Γ H0 hC0 v26 (a0 := z26) ev26 v21 (a1 := z21) ev21 (by omega) (by omega) (by omega) (by omega)) cw_X12_at2 cl_RX12_292 rfl hl.1 rfl (show _ ≤ _ from by simp [Value.category]) (by decide) dX12_hidingOf_66) hS38 (fun v45 locs45 hr45 hS45 => ?_)
                  have f45_0 := hr45
                  refine lv_iadd hx hb dX12_hidingOf_69 (lv_topi (fun v46 ev46 => ?_))
                  have ev46i : v46.toInt = (206 + v45.toInt) := i_add ev46 (by decide) rfl (by omega) (by omega)
                  refine q_cald E hC0 (lo := -2147483648) (hi := 2147483647) gca (a := (206 + v45.toInt)) ev46i (by omega) (by omega) (cr_c134 (by omega) (by omega)) dX12_hidingOf_70 (fun v47 ev47 _ _ => ?_)
                  refine q_if_ne hx hb (a := v47.toInt) rfl (tgt := 78) dX12_hidingOf_71 rfl (fun c48 => ?_) (fun c48 => ?_)
                  · refine lv_iconst (v := 0) hx hb dX12_hidingOf_78 rfl ?_
                    refine lv_iadd hx hb dX12_hidingOf_79 (lv_topi (fun v49 ev49 => ?_))
                    have c50 := i_rng v27; rw [show v27.toInt = z27 from ev27] at c50
                    have ev49i : v49.toInt = (z27 + 0) := i_add ev49 ev27 (by decide) (by omega) (by omega)
                    refine lv_istore_n hx hb dX12_hidingOf_80 rfl hl (by decide) rfl (fun ls hl => ?_)
                    have hl : lv_has ls 5 [(2, .int v49), (4, .int v26), (3, .int v21), (0, .ref h0), (1, .int p1)] := hl
                    obtain ⟨v51, ev51⟩ : ∃ z, z = v26 + Int32.ofInt 1 := ⟨_, rfl⟩
                    have ev51i : v51.toInt = (z26 + 1) := i_add ev51 ev26 (by decide) (by omega) (by omega)
                    refine lv_iinc hx hb dX12_hidingOf_81 hl (k := 1) rfl ev51.symm (by decide) rfl (fun ls hl => ?_)
                    have hl : lv_has ls 5 [(4, .int v51), (2, .int v49), (3, .int v21), (0, .ref h0), (1, .int p1)] := hl
                    refine lv_goto (tgt := 17) hx hb dX12_hidingOf_84 rfl ?_
                    exact ih28 locs45 v51 ((z26 + 1)) v49 ((z27 + 0)) ls (by omega) ev51i ev49i (by omega) (by omega) hS45 (lv_sub hl [0, 2, 1, 3, 4] rfl)
                  · refine lv_iconst (v := 1) hx hb dX12_hidingOf_74 rfl ?_
                    refine lv_goto (tgt := 79) hx hb dX12_hidingOf_75 rfl ?_
                    refine lv_iadd hx hb dX12_hidingOf_79 (lv_topi (fun v52 ev52 => ?_))
                    refine lv_istore_n hx hb dX12_hidingOf_80 rfl hl (by decide) rfl (fun ls hl => ?_)
                    have hl : lv_has ls 5 [(2, .int v52), (4, .int v26), (3, .int v21), (0, .ref h0), (1, .int p1)] := hl
                    obtain ⟨v53, ev53⟩ : ∃ z, z = v26 + Int32.ofInt 1 := ⟨_, rfl⟩
                    have ev53i : v53.toInt = (z26 + 1) := i_add ev53 ev26 (by decide) (by omega) (by omega)
                    refine lv_iinc hx hb dX12_hidingOf_81 hl (k := 1) rfl ev53.symm (by decide) rfl (fun ls hl => ?_)
                    have hl : lv_has ls 5 [(4, .int v53), (2, .int v52), (3, .int v21), (0, .ref h0), (1, .int p1)] := hl
                    refine lv_goto (tgt := 17) hx hb dX12_hidingOf_84 rfl ?_
                    exact ih28 locs45 v53 ((z26 + 1)) v52 (v52.toInt) ls (by omega) ev53i rfl (by omega) (by omega) hS45 (lv_sub hl [0, 2, 1, 3, 4] rfl)
        exact L17 _ locs23 0 0 v22 z22 ls (Nat.lt_succ_self _) (by decide) ev22 (by omega) (by omega) hS23 hl
  exact L4 _ [] 0 0 0 0 ls (Nat.lt_succ_self _) (by decide) (by decide) (by omega) (by omega) hS0 hl
